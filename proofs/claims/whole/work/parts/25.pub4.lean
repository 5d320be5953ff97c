section C12

theorem apM_0 {M : Mem} {L : Nat} {num : Int32} (h : M 4 5 = nI L) : apM M L num 0 = M := by
  unfold apM apQ
  rw [stB_id, Nat.add_zero, fa_upd_same h, stB_id]
theorem apM_s {M : Mem} {L j : Nat} {num : Int32} : apM (stB (stB M 5 (upd (M 5) L (bv num j))) 4 (upd (M 4) 5 (nI (L + 1)))) (L + 1) num j = apM M L num (j + 1) := by
  unfold apM
  rw [stB_ne (show (5 : Nat) ≠ 4 by decide), stB_at, stB_at, fa_upd_twice, stB_comm (show (4 : Nat) ≠ 5 by decide), stB_st, stB_st, show L + 1 + j = L + (j + 1) by omega]
  rfl
def tapeL (M : Mem) : Nat := nn (M 4 5)
theorem tapeL_e {M : Mem} (h : ∃ L, L ≤ 120 ∧ M 4 5 = nI L) : tapeL M ≤ 120 ∧ M 4 5 = nI (tapeL M) := by
  obtain ⟨L, h1, h2⟩ := h
  unfold tapeL
  rw [h2, nn_nI (by omega)]
  exact ⟨h1, rfl⟩
def feeX (M : Mem) (num n : Int32) : Oc × Mem := if n < 1 then (.inr 0, M) else if 4 < n then (.inr 0, M) else if tapeL M + nn n ≤ 120 then (.inl (nI (tapeL M + nn n)), apM M (tapeL M) num (nn n)) else (.inr 1, M)
def imgM (M : Mem) : Mem := stB (stB M 1 (likeF (M 1) (M 0))) 3 (upd (M 3) 0 1)
def undX (M : Mem) : Oc × Mem := if M 3 0 = 0 then (.inr 3, M) else (.inl (M 1 1), stB M 0 (likeF (M 0) (M 1)))
def teaX (M : Mem) : Oc × Mem := (.inl (if M 3 0 = 0 then 0 else 1), stB M 3 (upd (M 3) 0 0))
def couX (M : Mem) (what : Int32) : Oc := if what = 0 then .inl (M 0 1) else if what = 1 then .inl (M 0 0) else if what = 2 then .inl (onesF (M 0 4)) else if what = 3 then .inl (M 0 5) else if what = 4 then .inl (sumT (M 0) 5 (nOf (M 0))) else if what = 5 then .inl (M 4 5) else if what = 6 then .inl (M 0 2) else if what = 7 then .inl (spotC (M 0) 10) else .inr 0
def sum7 (q : Dm) : Nat → Int32
  | 0 => 0
  | k + 1 => sum7 q k + q k
def staX (M : Mem) (which : Int32) : Oc := if which = -1 then .inl (sum7 (M 6) 7) else if wi which 6 then .inl (M 6 (nn which)) else .inr 0
def bitsOk (b : Int32) : Bool := decide (b = 0) || decide (b = 8) || decide (b = 16) || decide (b = 32)
def sheX (M : Mem) (s b n : Int32) : Oc × Mem := if wi s 3 && bitsOk b then (if n < 0 then (.inr 6, M) else if 40 < n then (.inr 0, M) else (.inl (begN b n), stB M (7 + nn s) (begS (M (7 + nn s)) b n 40))) else (.inr 0, M)
def wriX (M : Mem) (s j v : Int32) : Oc × Mem := if wi s 3 then (if M (7 + nn s) 0 = 0 then (.inr 5, M) else if j < 0 ∨ M (7 + nn s) 1 ≤ j then (.inr 0, M) else (.inl 1, putM M (nn s) j v)) else (.inr 0, M)
def copX (M : Mem) (s fr t to n : Int32) : Oc × Mem := if wi s 3 && wi t 3 then (if M (7 + nn s) 0 = 0 ∨ M (7 + nn t) 0 = 0 then (.inr 5, M) else if M (7 + nn s) 0 = M (7 + nn t) 0 then (if hasV (M (7 + nn s) 1) fr n && hasV (M (7 + nn t) 1) to n then (.inl n, cpB M (7 + nn s) (2 + nn fr) (7 + nn t) (2 + nn to) (nn n)) else (.inr 0, M)) else (.inr 2, M)) else (.inr 0, M)
def jud1 (M : Mem) (t i : Nat) : Bool := !(decide (i < nOf (M 0)) && decide (tlS M t i = M 0 (36 + i)))
def judX (M : Mem) (s : Int32) : Oc := if wi s 3 then (if M (7 + nn s) 0 = 0 then .inr 5 else (match fstN (jud1 M (nn s)) (szN M (nn s)) with | none => .inl 0 | some i => .inl (1 + nI i))) else .inr 0
def loaD (d : Dm) (tl : Nat → Int32) : Nat → Dm
  | 0 => d
  | k + 1 => upd (loaD d tl k) (6 + k) (tl k)
def loaQ (M : Mem) (t k : Nat) : Bool := !(decide (k < szN M t) && icB (tlS M t k))
def loaN (M : Mem) (t : Nat) : Nat := match fstN (loaQ M t) 6 with
  | none => 6
  | some k => k
def loaX (M : Mem) (s : Int32) : Oc × Mem := if wi s 3 then (if M (7 + nn s) 0 = 0 then (.inr 5, M) else (.inl (nI (loaN M (nn s))), stB M 0 (loaD (M 0) (tlS M (nn s)) (loaN M (nn s))))) else (.inr 0, M)
theorem has_T {sz : Nat} {fr n : Int32} (hs : sz ≤ 40) (h : hasV (nI sz) fr n = true) : ∃ a b, a + b ≤ sz ∧ fr = nI a ∧ n = nI b := by
  unfold hasV at h
  simp only [Bool.and_eq_true, Bool.not_eq_true', decide_eq_false_iff_not] at h
  obtain ⟨⟨⟨h1, h2⟩, h3⟩, h4⟩ := h
  obtain ⟨a, ha, ea⟩ := nI_of h1
  obtain ⟨b, hb, eb⟩ := nI_of h2
  subst ea; subst eb
  have h5 : b ≤ sz := Nat.le_of_not_lt (fun q => h3 (nI_lt q hb))
  rw [pk_sub h5] at h4
  have h6 : a ≤ sz - b := Nat.le_of_not_lt (fun q => h4 (nI_lt q ha))
  exact ⟨a, b, by omega, rfl, rfl⟩
theorem hD0 {M : Mem} (h : Inv (M 2)) {b : Nat} {d : Dm} (hb : 2 ≠ b) : Inv ((stB M b d) 2) := by rw [stB_ne hb]; exact h

variable {l : Launch} {sk : (Nat → Nat) × (Nat → Nat)} {D : va_G} {cy : Nat → ClassId} {A : Nat → Nat} {X : va_W}
set_option maxRecDepth 20000 in
set_option maxHeartbeats 4000000 in
theorem k_X5_append (num : Int32) (c L : Nat) (hc : c ≤ 4) (hL : L ≤ 120) (M : Mem) (hML : M 4 5 = nI L) : CC l sk D cy A X mX5_append 0 [.ref (A 39), .int num, .int (nI c)] M (rI (bI (decide (L + c ≤ 120))) (if L + c ≤ 120 then apM M L num c else M)) := by
  refine Con.of (lo := [some (.ref (A 39)), some (.int num), some (.int (nI c)), none]) cf_X5_append (fun _ _ => wl_fst) 1 rfl (Nat.le_of_ble_eq_true rfl) (fun Pp Ee Ss Mm Aa Bb Me Cc A0 B hr hlk => ?_)
  have B : BS sk D cy (wl A cy 51 TC X) A0 Pp Ss Mm Aa Cc RX5 cX5_append 4 := B
  have loop : L + c ≤ 120 → ∀ j M' L', j ≤ 4 → M' 4 5 = nI L' → L' + j ≤ 120 → apM M' L' num j = apM M L num c → AW Pp l Ee (rmK 0 (34 * 0)) Ss Mm Aa Bb Me Cc D (wl A cy 51 TC X) A0 4 0 0 (MQ Bb (QG D (wl A cy 51 TC X) A0 (rI (bI (decide (L + c ≤ 120))) (if L + c ≤ 120 then apM M L num c else M))) Aa Ss 0 0 A0) 21 [some (.ref (A 39)), some (.int num), some (.int (nI c)), some (.int (nI j + (-1)))] [] (M') := by
    intro hLc j
    induction j with
    | zero =>
      intro M' L' hj hM' hL' hap
      refine a_iload_n B dX5_append_21 rfl ?_
      refine a_if_lt 57 B dX5_append_22 (by decide) (fun c22 => ?_) (fun c22 => ?_)
      · refine a_iconst (v := 1) B dX5_append_57 (by decide) ?_
        exact a_zret B hr hlk rfl dX5_append_58 ⟨by rw [decide_eq_true hLc]; rfl, by rw [if_pos hLc, ← hap, apM_0 hM']⟩
      exact absurd (show nI 0 + (-1) < 0 by decide) c22
    | succ j ih =>
      intro M' L' hj hM' hL' hap
      have hbv : ((num.toUInt32 >>> ((8 * nI j).toUInt32 &&& Int32.toUInt32 31)).toInt32).toInt8.toInt32 = bv num j := rfl
      refine a_iload_n B dX5_append_21 rfl ?_
      refine a_if_lt 57 B dX5_append_22 (by decide) (fun c22 => ?_) (fun c22 => ?_)
      · exact absurd ((lv_neg1 (j + 1) (by omega)).mp c22) (by omega)
      rw [lv_pred]
      refine a_aload_n B dX5_append_25 rfl ?_
      refine a_getR B fl_X5_9 (by decide) rfl rfl dX5_append_26 ?_
      refine a_aload_n B dX5_append_29 rfl ?_
      refine a_getI B fl_X5_15 (by decide) rfl rfl dX5_append_30 ?_
      refine a_iload_n B dX5_append_33 rfl ?_
      refine a_bipush (v := 8) B dX5_append_34 (by decide) ?_
      refine a_iload_n B dX5_append_36 rfl ?_
      refine a_imul B dX5_append_37 ?_
      refine a_iushr B dX5_append_38 ?_
      refine a_i2b B dX5_append_39 ?_
      refine a_bast L' B twC (by decide) rfl hM' (by omega) (by decide) dX5_append_40 ?_
      refine a_aload_n B dX5_append_41 rfl ?_
      refine a_dup B dX5_append_42 rfl ?_
      refine a_getI B fl_X5_15 (by decide) rfl rfl dX5_append_43 ?_
      refine a_iconst (v := 1) B dX5_append_46 (by decide) ?_
      refine a_iadd B dX5_append_47 ?_
      refine a_putI B twC fl_X5_15 fp_5_1 (by decide) rfl rfl dX5_append_48 ?_
      refine p_iinc3 (-1) B dX5_append_51 (by decide) (by decide) (k := ?_)
      refine a_goto 21 B dX5_append_54 (by decide) ?_
      refine ih _ (L' + 1) (by omega) ?_ (by omega) ?_
      · rw [upB_on, upB_st, stB_ne (show (4 : Nat) ≠ 5 by decide), hM', nI_1]
      · rw [upB_st (b := 5), stB_ne (show (4 : Nat) ≠ 5 by decide), hM', nI_1, ← upB_st, Nat.zero_add, hbv, ap_step, apM_s]; exact hap
  refine a_iload_n B dX5_append_0 rfl ?_
  refine a_if_lt 15 B dX5_append_1 (by decide) (fun c1 => ?_) (fun c1 => ?_)
  · exact absurd c1 (nI_pos (by omega))
  refine a_iload_n B dX5_append_4 rfl ?_
  refine a_bipush (v := 120) B dX5_append_5 (by decide) ?_
  refine a_aload_n B dX5_append_7 rfl ?_
  refine a_getI B fl_X5_15 (by decide) rfl rfl dX5_append_8 ?_
  refine a_isub B dX5_append_11 ?_
  rw [hML]
  refine a_icmp_le 17 B dX5_append_12 (by decide) (fun c12 => ?_) (fun c12 => ?_)
  · refine a_iload_n B dX5_append_17 rfl ?_
    refine a_iconst (v := 1) B dX5_append_18 (by decide) ?_
    refine a_isub B dX5_append_19 ?_
    refine p_istore3 B dX5_append_20 (by decide) (k := ?_)
    have e0 : nI c - 1 = nI c + (-1) := Int32.sub_eq_add_neg _ _
    rw [e0]
    exact loop ((fits_ok hL hc).mp c12) c M L hc hML ((fits_ok hL hc).mp c12) rfl
  refine a_iconst (v := 0) B dX5_append_15 (by decide) ?_
  exact a_zret B hr hlk rfl dX5_append_16 ⟨by rw [decide_eq_false (fun q => c12 ((fits_ok hL hc).mpr q))]; rfl, by rw [if_neg (fun q => c12 ((fits_ok hL hc).mpr q))]⟩
set_option maxRecDepth 20000 in
theorem k_X5_empty (M : Mem) : CC l sk D cy A X mX5_empty 0 [.ref (A 39)] M (rI (M 4 5) (stB M 4 (upd (M 4) 5 0))) := by
  refine Con.of (lo := [some (.ref (A 39)), none]) cf_X5_empty (fun _ _ => wl_fst) 1 rfl (Nat.le_of_ble_eq_true rfl) (fun Pp Ee Ss Mm Aa Bb Me Cc A0 B hr hlk => ?_)
  have B : BS sk D cy (wl A cy 51 TC X) A0 Pp Ss Mm Aa Cc RX5 cX5_empty 2 := B
  refine a_aload_n B dX5_empty_0 rfl ?_
  refine a_getI B fl_X5_15 (by decide) rfl rfl dX5_empty_1 ?_
  refine p_istore1 B dX5_empty_4 (by decide) (k := ?_)
  refine a_aload_n B dX5_empty_5 rfl ?_
  refine a_iconst (v := 0) B dX5_empty_6 (by decide) ?_
  refine a_putI B twC fl_X5_15 fp_5_1 (by decide) rfl rfl dX5_empty_7 ?_
  refine a_iload_n B dX5_empty_10 rfl ?_
  exact a_iret B hr hlk dX5_empty_11 ⟨congrArg (fun z => some (Value.int z)) (rfl), upB_st⟩
set_option maxRecDepth 20000 in
theorem k_X6_wipe (M : Mem) (hJ : CI M) : CC l sk D cy A X mX6_wipe 1 [.ref (A 0)] M (rQ (.inl (M 4 5)) (stB M 4 (upd (M 4) 5 0)) M) := by
  refine Con.of (lo := [some (.ref (A 0))]) cf_X6_wipe (fun _ _ => wl_fst) 0 rfl (Nat.le_of_ble_eq_true rfl) (fun Pp Ee Ss Mm Aa Bb Me Cc A0 B hr hlk => ?_)
  have B : BS sk D cy (wl A cy 51 TC X) A0 Pp Ss Mm Aa Cc RX6 cX6_wipe 1 := B
  obtain ⟨hI0, hI1, hI2, hT, hZ⟩ := hJ
  refine a_aload_n B dX6_wipe_0 rfl ?_
  refine a_getR B fl_X6_33 (by decide) rfl rfl dX6_wipe_1 ?_
  refine a_getR B fl_X6_229 (by decide) rfl rfl dX6_wipe_4 ?_
  refine a_callV0r B rfl cf_X5_empty lk_X6_241 in_X5_empty se_X5_empty (wl_rc (p0 := 39) (by decide) rfl rfl rfl) (k_X5_empty _) dX6_wipe_7 (Nat.le_of_ble_eq_true rfl) ⟨Nat.le_of_ble_eq_true rfl, Nat.le_of_ble_eq_true rfl⟩ ⟨rfl, rfl⟩ ?_
  exact a_iret B hr hlk dX6_wipe_10 (rQl0 (rfl) (hD0 (b := 4) hI2 (by decide)) (rfl))
set_option maxRecDepth 20000 in
theorem k_X6_feed (num n1 : Int32) (M : Mem) (hJ : CI M) : CC l sk D cy A X mX6_feed 2 [.ref (A 0), .int num, .int n1] M (rQ (feeX M num n1).1 (feeX M num n1).2 M) := by
  refine Con.of (lo := [some (.ref (A 0)), some (.int num), some (.int n1)]) cf_X6_feed (fun _ _ => wl_fst) 0 rfl (Nat.le_of_ble_eq_true rfl) (fun Pp Ee Ss Mm Aa Bb Me Cc A0 B hr hlk => ?_)
  have B : BS sk D cy (wl A cy 51 TC X) A0 Pp Ss Mm Aa Cc RX6 cX6_feed 3 := B
  obtain ⟨hI0, hI1, hI2, hT, hZ⟩ := hJ
  obtain ⟨hL, hML⟩ := tapeL_e hT
  refine a_iload_n B dX6_feed_0 rfl ?_
  refine a_iconst (v := 1) B dX6_feed_1 (by decide) ?_
  refine a_icmp_lt 10 B dX6_feed_2 (by decide) (fun c2 => ?_) (fun c2 => ?_)
  · refine a_aload_n B dX6_feed_10 rfl ?_
    refine a_ldc B dX6_feed_11 kc_X6_59 ?_
    refine a_callV1r B rfl cf_X6_tell lk_X6_60 in_X6_tell se_X6_tell (wl_rc (p0 := 0) (by decide) rfl rfl rfl) (k_X6_tell 0 (by decide) _ (by decide) _) dX6_feed_13 (Nat.le_of_ble_eq_true rfl) ⟨Nat.le_of_ble_eq_true rfl, Nat.le_of_ble_eq_true rfl⟩ ⟨rfl, rfl⟩ ?_
    exact a_iret B hr hlk dX6_feed_16 (rQr0 (k := 0) (by simp [feeX, c2]) (by decide) hI2 rfl)
  refine a_iload_n B dX6_feed_5 rfl ?_
  refine a_iconst (v := 4) B dX6_feed_6 (by decide) ?_
  refine a_icmp_le 17 B dX6_feed_7 (by decide) (fun c7 => ?_) (fun c7 => ?_)
  · refine a_aload_n B dX6_feed_17 rfl ?_
    refine a_getR B fl_X6_33 (by decide) rfl rfl dX6_feed_18 ?_
    refine a_getR B fl_X6_229 (by decide) rfl rfl dX6_feed_21 ?_
    refine a_iload_n B dX6_feed_24 rfl ?_
    refine a_iload_n B dX6_feed_25 rfl ?_
    obtain ⟨t, ht0, hte⟩ := day_nn c2
    subst hte
    have ht : t ≤ 4 := (nI_leI (b := 4) ht0 (by omega)).mp c7
    have hX : feeX M num (nI t) = if tapeL M + t ≤ 120 then (.inl (nI (tapeL M + t)), apM M (tapeL M) num t) else (.inr 1, M) := by simp [feeX, c2, Int32.not_lt.mpr c7, nn_nI ht0]
    refine a_callV2r B rfl cf_X5_append lk_X6_233 in_X5_append se_X5_append (wl_rc (p0 := 39) (by decide) rfl rfl rfl) (k_X5_append _ t (tapeL M) ht hL _ hML) dX6_feed_26 (Nat.le_of_ble_eq_true rfl) ⟨Nat.le_of_ble_eq_true rfl, Nat.le_of_ble_eq_true rfl⟩ ⟨rfl, rfl⟩ ?_
    refine a_if_eq 45 B dX6_feed_29 (by decide) (fun c29 => ?_) (fun c29 => ?_)
    · have c29 := bI_eq0.mp c29
      have h0 := of_decide_eq_false c29
      rw [if_neg h0]
      rw [if_neg h0] at hX
      refine a_aload_n B dX6_feed_45 rfl ?_
      refine a_ldc B dX6_feed_46 kc_X6_80 ?_
      refine a_callV1r B rfl cf_X6_tell lk_X6_60 in_X6_tell se_X6_tell (wl_rc (p0 := 0) (by decide) rfl rfl rfl) (k_X6_tell 1 (by decide) _ (by decide) _) dX6_feed_48 (Nat.le_of_ble_eq_true rfl) ⟨Nat.le_of_ble_eq_true rfl, Nat.le_of_ble_eq_true rfl⟩ ⟨rfl, rfl⟩ ?_
      exact a_iret B hr hlk dX6_feed_51 (rQr0 (k := 1) (by rw [hX]) (by decide) hI2 rfl)
    have c29 := bI_ne0.mp c29
    have h0 := of_decide_eq_true c29
    rw [if_pos h0]
    rw [if_pos h0] at hX
    refine a_aload_n B dX6_feed_32 rfl ?_
    refine a_getR B fl_X6_33 (by decide) rfl rfl dX6_feed_33 ?_
    refine a_getR B fl_X6_229 (by decide) rfl rfl dX6_feed_36 ?_
    refine a_getI B fl_X6_238 (by decide) rfl rfl dX6_feed_39 ?_
    refine a_goto 51 B dX6_feed_42 (by decide) ?_
    exact a_iret B hr hlk dX6_feed_51 (rQl0 (by rw [hX]; unfold apM; rw [stB_at, pk_us]) (by rw [hX]; show Inv (apM M (tapeL M) num t 2); unfold apM; rw [stB_ne (by decide), stB_ne (by decide)]; exact hI2) (by rw [hX]))
  refine a_aload_n B dX6_feed_10 rfl ?_
  refine a_ldc B dX6_feed_11 kc_X6_59 ?_
  refine a_callV1r B rfl cf_X6_tell lk_X6_60 in_X6_tell se_X6_tell (wl_rc (p0 := 0) (by decide) rfl rfl rfl) (k_X6_tell 0 (by decide) _ (by decide) _) dX6_feed_13 (Nat.le_of_ble_eq_true rfl) ⟨Nat.le_of_ble_eq_true rfl, Nat.le_of_ble_eq_true rfl⟩ ⟨rfl, rfl⟩ ?_
  exact a_iret B hr hlk dX6_feed_16 (rQr0 (k := 0) (by simp [feeX, c2, Int32.not_le.mp c7]) (by decide) hI2 rfl)
set_option maxRecDepth 20000 in
theorem k_X6_image (M : Mem) (hJ : CI M) : CC l sk D cy A X mX6_image 2 [.ref (A 0)] M (rQ (.inl 1) (imgM M) M) := by
  refine Con.of (lo := [some (.ref (A 0))]) cf_X6_image (fun _ _ => wl_fst) 0 rfl (Nat.le_of_ble_eq_true rfl) (fun Pp Ee Ss Mm Aa Bb Me Cc A0 B hr hlk => ?_)
  have B : BS sk D cy (wl A cy 51 TC X) A0 Pp Ss Mm Aa Cc RX6 cX6_image 1 := B
  obtain ⟨hI0, hI1, hI2, hT, hZ⟩ := hJ
  refine a_aload_n B dX6_image_0 rfl ?_
  refine a_getR B fl_X6_16 (by decide) rfl rfl dX6_image_1 ?_
  refine a_aload_n B dX6_image_4 rfl ?_
  refine a_getR B fl_X6_12 (by decide) rfl rfl dX6_image_5 ?_
  refine a_callV1v B rfl cf_X0_becomeLike lk_X6_255 in_X0_becomeLike se_X0_becomeLike (wl_rc (p0 := 13) (by decide) rfl rfl rfl) (k_X0_becomeLike 1 0 (by decide) (by decide) (by decide) _ hI0) dX6_image_8 (Nat.le_of_ble_eq_true rfl) ⟨Nat.le_of_ble_eq_true rfl, Nat.le_of_ble_eq_true rfl⟩ ⟨rfl, rfl⟩ ?_
  refine a_aload_n B dX6_image_11 rfl ?_
  refine a_iconst (v := 1) B dX6_image_12 (by decide) ?_
  refine a_putZ B twC fl_X6_19 fp_6_2 (by decide) rfl rfl rfl rfl dX6_image_13 ?_
  refine a_iconst (v := 1) B dX6_image_16 (by decide) ?_
  exact a_iret B hr hlk dX6_image_17 (rQl0 (rfl) (by unfold imgM; rw [stB_ne (by decide), stB_ne (by decide)]; exact hI2) (by rw [upB_st, stB_ne (show (3 : Nat) ≠ 1 by decide)]; rfl))
set_option maxRecDepth 20000 in
theorem k_X6_undo (M : Mem) (hJ : CI M) : CC l sk D cy A X mX6_undo 2 [.ref (A 0)] M (rQ (undX M).1 (undX M).2 M) := by
  refine Con.of (lo := [some (.ref (A 0))]) cf_X6_undo (fun _ _ => wl_fst) 0 rfl (Nat.le_of_ble_eq_true rfl) (fun Pp Ee Ss Mm Aa Bb Me Cc A0 B hr hlk => ?_)
  have B : BS sk D cy (wl A cy 51 TC X) A0 Pp Ss Mm Aa Cc RX6 cX6_undo 1 := B
  obtain ⟨hI0, hI1, hI2, hT, hZ⟩ := hJ
  refine a_aload_n B dX6_undo_0 rfl ?_
  refine a_getI B fl_X6_19 (by decide) rfl rfl dX6_undo_1 ?_
  refine a_if_ne 14 B dX6_undo_4 (by decide) (fun c4 => ?_) (fun c4 => ?_)
  · refine a_aload_n B dX6_undo_14 rfl ?_
    refine a_getR B fl_X6_12 (by decide) rfl rfl dX6_undo_15 ?_
    refine a_aload_n B dX6_undo_18 rfl ?_
    refine a_getR B fl_X6_16 (by decide) rfl rfl dX6_undo_19 ?_
    refine a_callV1v B rfl cf_X0_becomeLike lk_X6_255 in_X0_becomeLike se_X0_becomeLike (wl_rc (p0 := 1) (by decide) rfl rfl rfl) (k_X0_becomeLike 0 1 (by decide) (by decide) (by decide) _ hI1) dX6_undo_22 (Nat.le_of_ble_eq_true rfl) ⟨Nat.le_of_ble_eq_true rfl, Nat.le_of_ble_eq_true rfl⟩ ⟨rfl, rfl⟩ ?_
    refine a_aload_n B dX6_undo_25 rfl ?_
    refine a_getR B fl_X6_12 (by decide) rfl rfl dX6_undo_26 ?_
    refine a_getI B fl_X6_119 (by decide) rfl rfl dX6_undo_29 ?_
    exact a_iret B hr hlk dX6_undo_32 (rQl0 (by rw [stB_at]; unfold undX; rw [if_neg c4]; unfold likeF likeK; rw [if_pos (by omega)]) (by unfold undX; rw [if_neg c4]; show Inv ((stB M 0 (likeF (M 0) (M 1))) 2); exact hD0 hI2 (by decide)) (by unfold undX; rw [if_neg c4]))
  refine a_aload_n B dX6_undo_7 rfl ?_
  refine a_ldc B dX6_undo_8 kc_X6_198 ?_
  refine a_callV1r B rfl cf_X6_tell lk_X6_60 in_X6_tell se_X6_tell (wl_rc (p0 := 0) (by decide) rfl rfl rfl) (k_X6_tell 3 (by decide) _ (by decide) _) dX6_undo_10 (Nat.le_of_ble_eq_true rfl) ⟨Nat.le_of_ble_eq_true rfl, Nat.le_of_ble_eq_true rfl⟩ ⟨rfl, rfl⟩ ?_
  exact a_iret B hr hlk dX6_undo_13 (rQr0 (k := 3) (by simp [undX, c4]) (by decide) hI2 rfl)
set_option maxRecDepth 20000 in
theorem k_X6_tear (M : Mem) (hJ : CI M) : CC l sk D cy A X mX6_tear 0 [.ref (A 0)] M (rQ (teaX M).1 (teaX M).2 M) := by
  refine Con.of (lo := [some (.ref (A 0)), none]) cf_X6_tear (fun _ _ => wl_fst) 1 rfl (Nat.le_of_ble_eq_true rfl) (fun Pp Ee Ss Mm Aa Bb Me Cc A0 B hr hlk => ?_)
  have B : BS sk D cy (wl A cy 51 TC X) A0 Pp Ss Mm Aa Cc RX6 cX6_tear 2 := B
  obtain ⟨hI0, hI1, hI2, hT, hZ⟩ := hJ
  refine a_aload_n B dX6_tear_0 rfl ?_
  refine a_getI B fl_X6_19 (by decide) rfl rfl dX6_tear_1 ?_
  refine a_if_eq 11 B dX6_tear_4 (by decide) (fun c4 => ?_) (fun c4 => ?_)
  · refine a_iconst (v := 0) B dX6_tear_11 (by decide) ?_
    refine p_istore1 B dX6_tear_12 (by decide) (k := ?_)
    refine a_aload_n B dX6_tear_13 rfl ?_
    refine a_iconst (v := 0) B dX6_tear_14 (by decide) ?_
    refine a_putZ B twC fl_X6_19 fp_6_2 (by decide) rfl rfl rfl rfl dX6_tear_15 ?_
    refine a_iload_n B dX6_tear_18 rfl ?_
    exact a_iret B hr hlk dX6_tear_19 (rQl0 (by unfold teaX; rw [if_pos c4]) (by show Inv ((stB M 3 (upd (M 3) 0 0)) 2); exact hD0 hI2 (by decide)) (upB_st))
  refine a_iconst (v := 1) B dX6_tear_7 (by decide) ?_
  refine a_goto 12 B dX6_tear_8 (by decide) ?_
  refine p_istore1 B dX6_tear_12 (by decide) (k := ?_)
  refine a_aload_n B dX6_tear_13 rfl ?_
  refine a_iconst (v := 0) B dX6_tear_14 (by decide) ?_
  refine a_putZ B twC fl_X6_19 fp_6_2 (by decide) rfl rfl rfl rfl dX6_tear_15 ?_
  refine a_iload_n B dX6_tear_18 rfl ?_
  exact a_iret B hr hlk dX6_tear_19 (rQl0 (by unfold teaX; rw [if_neg c4]) (by show Inv ((stB M 3 (upd (M 3) 0 0)) 2); exact hD0 hI2 (by decide)) (upB_st))
set_option maxRecDepth 20000 in
theorem k_X6_count (what : Int32) (M : Mem) (hJ : CI M) : CC l sk D cy A X mX6_count 4 [.ref (A 0), .int what] M (rQ (couX M what) M M) := by
  refine Con.of (lo := [some (.ref (A 0)), some (.int what)]) cf_X6_count (fun _ _ => wl_fst) 0 rfl (Nat.le_of_ble_eq_true rfl) (fun Pp Ee Ss Mm Aa Bb Me Cc A0 B hr hlk => ?_)
  have B : BS sk D cy (wl A cy 51 TC X) A0 Pp Ss Mm Aa Cc RX6 cX6_count 2 := B
  obtain ⟨hI0, hI1, hI2, hT, hZ⟩ := hJ
  refine a_iload_n B dX6_count_0 rfl ?_
  by_cases s1_0 : what = 0
  · refine a_tblIn 48 B dX6_count_1 (by rw [s1_0]; decide) (by rw [s1_0]; decide) (by rw [s1_0]; rfl) (by decide) ?_
    refine a_aload_n B dX6_count_48 rfl ?_
    refine a_getR B fl_X6_12 (by decide) rfl rfl dX6_count_49 ?_
    refine a_getI B fl_X6_119 (by decide) rfl rfl dX6_count_52 ?_
    exact a_iret B hr hlk dX6_count_55 (rQl0 (by simp only [couX, s1_0]; rfl) (hI2) (rfl))
  by_cases s1_1 : what = 1
  · refine a_tblIn 56 B dX6_count_1 (by rw [s1_1]; decide) (by rw [s1_1]; decide) (by rw [s1_1]; rfl) (by decide) ?_
    refine a_aload_n B dX6_count_56 rfl ?_
    refine a_getR B fl_X6_12 (by decide) rfl rfl dX6_count_57 ?_
    refine a_getI B fl_X6_259 (by decide) rfl rfl dX6_count_60 ?_
    exact a_iret B hr hlk dX6_count_63 (rQl0 (by simp only [couX, s1_0, s1_1]; rfl) (hI2) (rfl))
  by_cases s1_2 : what = 2
  · refine a_tblIn 64 B dX6_count_1 (by rw [s1_2]; decide) (by rw [s1_2]; decide) (by rw [s1_2]; rfl) (by decide) ?_
    refine a_aload_n B dX6_count_64 rfl ?_
    refine a_getR B fl_X6_12 (by decide) rfl rfl dX6_count_65 ?_
    refine a_getI B fl_X6_56 (by decide) rfl rfl dX6_count_68 ?_
    refine a_callS1r B rfl cf_J6_bitCount_0f7a4 lk_X6_218 st_J6_bitCount_0f7a4 (k_J6_bitCount_0f7a4 _ _) dX6_count_71 (Nat.le_of_ble_eq_true rfl) ⟨Nat.le_of_ble_eq_true rfl, Nat.le_of_ble_eq_true rfl⟩ ⟨rfl, rfl⟩ ?_
    rw [bitc_ones hI0.ou]
    exact a_iret B hr hlk dX6_count_74 (rQl0 (by simp only [couX, s1_0, s1_1, s1_2]; rfl) (hI2) (rfl))
  by_cases s1_3 : what = 3
  · refine a_tblIn 75 B dX6_count_1 (by rw [s1_3]; decide) (by rw [s1_3]; decide) (by rw [s1_3]; rfl) (by decide) ?_
    refine a_aload_n B dX6_count_75 rfl ?_
    refine a_getR B fl_X6_12 (by decide) rfl rfl dX6_count_76 ?_
    refine a_getI B fl_X6_128 (by decide) rfl rfl dX6_count_79 ?_
    exact a_iret B hr hlk dX6_count_82 (rQl0 (by simp only [couX, s1_0, s1_1, s1_2, s1_3]; rfl) (hI2) (rfl))
  by_cases s1_4 : what = 4
  · refine a_tblIn 83 B dX6_count_1 (by rw [s1_4]; decide) (by rw [s1_4]; decide) (by rw [s1_4]; rfl) (by decide) ?_
    refine a_aload_n B dX6_count_83 rfl ?_
    refine a_getR B fl_X6_12 (by decide) rfl rfl dX6_count_84 ?_
    refine a_iconst (v := 5) B dX6_count_87 (by decide) ?_
    refine a_callV1r B rfl cf_X0_sumTogether lk_X6_134 in_X0_sumTogether se_X0_sumTogether (wl_rc (p0 := 1) (by decide) rfl rfl rfl) (k_X0_sumTogether 0 (by decide) _ _ hI0) dX6_count_88 (Nat.le_of_ble_eq_true rfl) ⟨Nat.le_of_ble_eq_true rfl, Nat.le_of_ble_eq_true rfl⟩ ⟨rfl, rfl⟩ ?_
    exact a_iret B hr hlk dX6_count_91 (rQl0 (by simp only [couX, s1_0, s1_1, s1_2, s1_3, s1_4]; rfl) (hI2) (rfl))
  by_cases s1_5 : what = 5
  · refine a_tblIn 92 B dX6_count_1 (by rw [s1_5]; decide) (by rw [s1_5]; decide) (by rw [s1_5]; rfl) (by decide) ?_
    refine a_aload_n B dX6_count_92 rfl ?_
    refine a_getR B fl_X6_33 (by decide) rfl rfl dX6_count_93 ?_
    refine a_getR B fl_X6_229 (by decide) rfl rfl dX6_count_96 ?_
    refine a_getI B fl_X6_238 (by decide) rfl rfl dX6_count_99 ?_
    exact a_iret B hr hlk dX6_count_102 (rQl0 (by simp only [couX, s1_0, s1_1, s1_2, s1_3, s1_4, s1_5]; rfl) (hI2) (rfl))
  by_cases s1_6 : what = 6
  · refine a_tblIn 103 B dX6_count_1 (by rw [s1_6]; decide) (by rw [s1_6]; decide) (by rw [s1_6]; rfl) (by decide) ?_
    refine a_aload_n B dX6_count_103 rfl ?_
    refine a_getR B fl_X6_12 (by decide) rfl rfl dX6_count_104 ?_
    refine a_getI B fl_X6_226 (by decide) rfl rfl dX6_count_107 ?_
    exact a_iret B hr hlk dX6_count_110 (rQl0 (by simp only [couX, s1_0, s1_1, s1_2, s1_3, s1_4, s1_5, s1_6]; rfl) (hI2) (rfl))
  by_cases s1_7 : what = 7
  · refine a_tblIn 111 B dX6_count_1 (by rw [s1_7]; decide) (by rw [s1_7]; decide) (by rw [s1_7]; rfl) (by decide) ?_
    refine a_aload_n B dX6_count_111 rfl ?_
    refine a_getR B fl_X6_12 (by decide) rfl rfl dX6_count_112 ?_
    refine a_callV0r B rfl cf_X0_spotsInUse lk_X6_308 in_X0_spotsInUse se_X0_spotsInUse (wl_rc (p0 := 1) (by decide) rfl rfl rfl) (k_X0_spotsInUse 0 (by decide) _) dX6_count_115 (Nat.le_of_ble_eq_true rfl) ⟨Nat.le_of_ble_eq_true rfl, Nat.le_of_ble_eq_true rfl⟩ ⟨rfl, rfl⟩ ?_
    exact a_iret B hr hlk dX6_count_118 (rQl0 (by simp only [couX, s1_0, s1_1, s1_2, s1_3, s1_4, s1_5, s1_6, s1_7]; rfl) (hI2) (rfl))
  refine a_tblOut 119 B dX6_count_1 (by have h0 := lv_neT s1_0 (show (0 : Int32).toInt = 0 by decide); have h1 := lv_neT s1_1 (show (1 : Int32).toInt = 1 by decide); have h2 := lv_neT s1_2 (show (2 : Int32).toInt = 2 by decide); have h3 := lv_neT s1_3 (show (3 : Int32).toInt = 3 by decide); have h4 := lv_neT s1_4 (show (4 : Int32).toInt = 4 by decide); have h5 := lv_neT s1_5 (show (5 : Int32).toInt = 5 by decide); have h6 := lv_neT s1_6 (show (6 : Int32).toInt = 6 by decide); have h7 := lv_neT s1_7 (show (7 : Int32).toInt = 7 by decide); omega) (by decide) ?_
  refine a_aload_n B dX6_count_119 rfl ?_
  refine a_ldc B dX6_count_120 kc_X6_59 ?_
  refine a_callV1r B rfl cf_X6_tell lk_X6_60 in_X6_tell se_X6_tell (wl_rc (p0 := 0) (by decide) rfl rfl rfl) (k_X6_tell 0 (by decide) _ (by decide) _) dX6_count_122 (Nat.le_of_ble_eq_true rfl) ⟨Nat.le_of_ble_eq_true rfl, Nat.le_of_ble_eq_true rfl⟩ ⟨rfl, rfl⟩ ?_
  exact a_iret B hr hlk dX6_count_125 (rQr0 (k := 0) (by simp [couX, s1_0, s1_1, s1_2, s1_3, s1_4, s1_5, s1_6, s1_7]) (by decide) hI2 rfl)
set_option maxRecDepth 20000 in
set_option maxHeartbeats 4000000 in
theorem k_X6_status (which : Int32) (M : Mem) (hJ : CI M) : CC l sk D cy A X mX6_status 2 [.ref (A 0), .int which] M (rQ (staX M which) M M) := by
  refine Con.of (lo := [some (.ref (A 0)), some (.int which), none, none]) cf_X6_status (fun _ _ => wl_fst) 2 rfl (Nat.le_of_ble_eq_true rfl) (fun Pp Ee Ss Mm Aa Bb Me Cc A0 B hr hlk => ?_)
  have B : BS sk D cy (wl A cy 51 TC X) A0 Pp Ss Mm Aa Cc RX6 cX6_status 4 := B
  obtain ⟨hI0, hI1, hI2, hT, hZ⟩ := hJ
  refine a_iload_n B dX6_status_0 rfl ?_
  refine a_iconst (v := (-1)) B dX6_status_1 (by decide) ?_
  refine a_icmp_ne 32 B dX6_status_2 (by decide) (fun c2 => ?_) (fun c2 => ?_)
  · refine a_iload_n B dX6_status_32 rfl ?_
    refine a_bipush (v := 6) B dX6_status_33 (by decide) ?_
    refine a_callS2r B rfl cf_X6_within lk_X6_48 st_X6_within (k_X6_within _ _ _) dX6_status_35 (Nat.le_of_ble_eq_true rfl) ⟨Nat.le_of_ble_eq_true rfl, Nat.le_of_ble_eq_true rfl⟩ ⟨rfl, rfl⟩ ?_
    refine a_if_eq 50 B dX6_status_38 (by decide) (fun c38 => ?_) (fun c38 => ?_)
    · have c38 := bI_eq0.mp c38
      refine a_aload_n B dX6_status_50 rfl ?_
      refine a_ldc B dX6_status_51 kc_X6_59 ?_
      refine a_callV1r B rfl cf_X6_tell lk_X6_60 in_X6_tell se_X6_tell (wl_rc (p0 := 0) (by decide) rfl rfl rfl) (k_X6_tell 0 (by decide) _ (by decide) _) dX6_status_53 (Nat.le_of_ble_eq_true rfl) ⟨Nat.le_of_ble_eq_true rfl, Nat.le_of_ble_eq_true rfl⟩ ⟨rfl, rfl⟩ ?_
      exact a_iret B hr hlk dX6_status_56 (rQr0 (k := 0) (by simp [staX, c2, c38]) (by decide) hI2 rfl)
    have c38 := bI_ne0.mp c38
    obtain ⟨q, hqt, hqe⟩ := wi_T (t := 6) c38 (by omega)
    subst hqe
    refine a_aload_n B dX6_status_41 rfl ?_
    refine a_getR B fl_X6_43 (by decide) rfl rfl dX6_status_42 ?_
    refine a_iload_n B dX6_status_45 rfl ?_
    refine a_iald q B (by decide) rfl rfl (by omega) (by decide) dX6_status_46 ?_
    refine a_goto 56 B dX6_status_47 (by decide) ?_
    exact a_iret B hr hlk dX6_status_56 (rQl0 (by simp [staX, c2, c38, nn_nI (show q < 2 ^ 31 by omega)]) (hI2) (rfl))
  refine a_iconst (v := 0) B dX6_status_5 (by decide) ?_
  refine p_istore2 B dX6_status_6 (by decide) (k := ?_)
  refine a_iconst (v := 0) B dX6_status_7 (by decide) ?_
  refine p_istore3 B dX6_status_8 (by decide) (k := ?_)
  have loop : ∀ n k, 8 ≤ k + n → k ≤ 7 → AW Pp l Ee (rmK 2 (34 * 2)) Ss Mm Aa Bb Me Cc D (wl A cy 51 TC X) A0 4 0 0 (MQ Bb (QG D (wl A cy 51 TC X) A0 (rQ (staX M which) M M)) Aa Ss 0 0 A0) 9 [some (.ref (A 0)), some (.int which), some (.int (sum7 (M 6) k)), some (.int (nI k))] [] (M) := by
    intro n
    induction n with
    | zero => intro k h1 h2; omega
    | succ n ih =>
      intro k h1 h2
      refine a_iload_n B dX6_status_9 rfl ?_
      refine a_bipush (v := 7) B dX6_status_10 (by decide) ?_
      refine a_icmp_ge 30 B dX6_status_12 (by decide) (fun c12 => ?_) (fun c12 => ?_)
      · have e1 : k = 7 := by have := ge_n (b := 7) c12 rfl rfl (by omega) (by omega); omega
        subst e1
        refine a_iload_n B dX6_status_30 rfl ?_
        exact a_iret B hr hlk dX6_status_31 (rQl0 (by simp [staX, c2]) hI2 rfl)
      have hlt0 := lt_n (b := 7) c12 rfl rfl (by omega) (by omega)
      refine a_iload_n B dX6_status_15 rfl ?_
      refine a_aload_n B dX6_status_16 rfl ?_
      refine a_getR B fl_X6_43 (by decide) rfl rfl dX6_status_17 ?_
      refine a_iload_n B dX6_status_20 rfl ?_
      refine a_iald k B (by decide) rfl rfl hlt0 (by decide) dX6_status_21 ?_
      refine a_iadd B dX6_status_22 ?_
      refine p_istore2 B dX6_status_23 (by decide) (k := ?_)
      refine p_iinc3 1 B dX6_status_24 (by decide) (by decide) (k := ?_)
      refine a_goto 9 B dX6_status_27 (by decide) ?_
      rw [nI_1]
      rw [Nat.zero_add]
      exact ih (k + 1) (by omega) (by omega)
  exact loop 8 0 (by omega) (by omega)
end C12
