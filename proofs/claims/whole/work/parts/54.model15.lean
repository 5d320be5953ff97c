section R15

def bvR (num : Int32) (j : Nat) : Int32 := (num >>> (8 * nI j &&& 31)).toInt8.toInt32
def apQR (q : Dm) (L : Nat) (num : Int32) : Nat → Dm
  | 0 => q
  | j + 1 => apQR (upd q L (bvR num j)) (L + 1) num j
def apMR (M : Mem) (L : Nat) (num : Int32) (c : Nat) : Mem := stB (stB M 5 (apQR (M 5) L num c)) 10 (upd (M 10) 1 (nI (L + c)))
theorem apMR_0 {M : Mem} {L : Nat} {num : Int32} (h : M 10 1 = nI L) : apMR M L num 0 = M := by
  unfold apMR apQR
  rw [stB_id, Nat.add_zero, fa_upd_same h, stB_id]
theorem apMR_s {M : Mem} {L j : Nat} {num : Int32} : apMR (stB (stB M 5 (upd (M 5) L (bvR num j))) 10 (upd (M 10) 1 (nI (L + 1)))) (L + 1) num j = apMR M L num (j + 1) := by
  unfold apMR
  rw [stB_ne (show (5 : Nat) ≠ 10 by decide), stB_at, stB_at, fa_upd_twice, stB_comm (show (10 : Nat) ≠ 5 by decide), stB_st, stB_st, show L + 1 + j = L + (j + 1) by omega]
  rfl
def tapR (M : Mem) : Nat := nn (M 10 1)
def feeR (M : Mem) (num n : Int32) : Oc × Mem := if bt n 1 4 then (if tapR M + nn n ≤ 120 then (.inl (nI (tapR M + nn n)), apMR M (tapR M) num (nn n)) else (.inr 1, M)) else (.inr 0, M)
def halR : Nat → Int32 → Int32 × Int32
  | 0, a => (a, 1)
  | j + 1, a => if rmI a 2 = 0 then halR j (a / 2) else (a, nI (2 ^ (j + 1)))
def odvR (a what : Int32) (n : Nat) : Int64 := powL (if what = 0 then (halR 3 a).1 else (halR 3 a).2) n
def oddR (d : Dm) (p n what : Int32) : Int64 ⊕ Nat := if isP d p && wi n 20 && wi what 1 then .inl (odvR (onesF (d (28 + nn p))) what (nn n)) else .inr 0
def rRL (x : Int64 ⊕ Nat) (M1 M : Mem) : Option Value → Mem → Prop := fun v M' => match x with
  | .inl r => v = some (.long r) ∧ eqM M1 M'
  | .inr k => v = some (.long (fnd k).toInt64) ∧ eqM (fnM M k) M'
theorem rRL_l {x : Int64 ⊕ Nat} {M1 M M' : Mem} {r : Int64} (hx : x = .inl r) (h : M' = M1) : rRL x M1 M (some (.long r)) M' := by subst hx; exact ⟨rfl, eqM_r h⟩
theorem rRL_r {x : Int64 ⊕ Nat} {M1 M M' : Mem} {f : Int32} {k : Nat} (hx : x = .inr k) (hf : f = fnd k) (h : M' = fnM M k) : rRL x M1 M (some (.long f.toInt64)) M' := by subst hx; subst hf; exact ⟨rfl, eqM_r h⟩

variable {l : Launch} {sk : (Nat → Nat) × (Nat → Nat)} {D : va_G} {cy : Nat → ClassId} {A : Nat → Nat} {X : va_W}
set_option maxRecDepth 20000 in
theorem m_feed (num n1 : Int32) (M : Mem) (hL : tapR M ≤ 120) (hML : M 10 1 = nI (tapR M)) : CR l sk D cy A X mX7_feed 1 [.ref (A 0), .int num, .int n1] M (rR (feeR M num n1).1 (feeR M num n1).2 M) := by
  refine Con.of (lo := [some (.ref (A 0)), some (.int num), some (.int n1), none]) cf_X7_feed (fun _ _ => wl_fst) 1 rfl (Nat.le_of_ble_eq_true rfl) (fun Pp Ee Ss Mm Aa Bb Me Cc A0 B hr hlk => ?_)
  have B : BS sk D cy (wl A cy 11 TM X) A0 Pp Ss Mm Aa Cc RX7 cX7_feed 4 := B
  refine a_iload_n B dX7_feed_0 rfl ?_
  refine a_i2l B dX7_feed_1 ?_
  refine a_lconst (v := 1) B dX7_feed_2 (by decide) ?_
  refine a_ldc2 B dX7_feed_3 kl_X7_189 ?_
  refine a_callS3r B rfl cf_X7_in lk_X7_42 st_X7_in (m_in n1 1 4 _ _ (by first | rfl | decide) (by first | rfl | decide) _) dX7_feed_6 (Nat.le_of_ble_eq_true rfl) ⟨Nat.le_of_ble_eq_true rfl, Nat.le_of_ble_eq_true rfl⟩ ⟨rfl, rfl⟩ ?_
  refine a_if_ne 18 B dX7_feed_9 (by decide) (fun c9 => ?_) (fun c9 => ?_)
  · have c9 := bI_ne0.mp c9
    have hlo : ¬ n1 < 1 := by intro q9; unfold bt at c9; rw [decide_eq_true q9] at c9; cases c9
    have hhi : ¬ 4 < n1 := by intro q9; unfold bt at c9; rw [decide_eq_true q9, Bool.not_true, Bool.and_false] at c9; cases c9
    obtain ⟨t, ht0, hte⟩ := nI_of (fun q9 : n1 < 0 => hlo (Int32.lt_trans q9 (by decide)))
    subst hte
    have ht : t ≤ 4 := Nat.le_of_not_lt (fun q9 => hhi (nI_lt (a := 4) q9 ht0))
    refine a_aload_n B dX7_feed_18 rfl ?_
    refine a_getI B fl_X7_191 (by decide) rfl rfl dX7_feed_19 ?_
    refine a_iload_n B dX7_feed_22 rfl ?_
    refine a_iadd B dX7_feed_23 ?_
    refine a_bipush (v := 120) B dX7_feed_24 (by decide) ?_
    refine a_icmp_le 35 B dX7_feed_26 (by decide) (fun c26 => ?_) (fun c26 => ?_)
    · refine a_iload_n B dX7_feed_35 rfl ?_
      refine a_iconst (v := 1) B dX7_feed_36 (by decide) ?_
      refine a_isub B dX7_feed_37 ?_
      refine p_istore3 B dX7_feed_38 (by decide) (k := ?_)
      have hfit : tapR M + t ≤ 120 := by
        have h := c26
        rw [hML, nI_add] at h
        exact (nI_leI (a := tapR M + t) (b := 120) (by omega) (by omega)).mp h
      have loop : ∀ j M' L', j ≤ 4 → M' 10 1 = nI L' → L' + j ≤ 120 → apMR M' L' num j = apMR M (tapR M) num t → AW Pp l Ee (rmK 1 (34 * 1)) Ss Mm Aa Bb Me Cc D (wl A cy 11 TM X) A0 4 0 0 (MQ Bb (QG D (wl A cy 11 TM X) A0 (rR (feeR M num (nI t)).1 (feeR M num (nI t)).2 M)) Aa Ss 0 0 A0) 39 [some (.ref (A 0)), some (.int num), some (.int (nI t)), some (.int (nI j + (-1)))] [] (M') := by
        intro j
        induction j with
        | zero =>
          intro M' L' hj hM' hL' hap
          have hLt : L' = tapR M + t := by
            have h1 : (apMR M' L' num 0) 10 1 = (apMR M (tapR M) num t) 10 1 := by rw [hap]
            unfold apMR at h1
            rw [stB_at, stB_at, pk_us, pk_us] at h1
            exact nI_inj (by omega) (by omega) h1
          refine a_iload_n B dX7_feed_39 rfl ?_
          refine a_if_lt 75 B dX7_feed_40 (by decide) (fun c40 => ?_) (fun c40 => ?_)
          · refine a_aload_n B dX7_feed_75 rfl ?_
            refine a_getI B fl_X7_191 (by decide) rfl rfl dX7_feed_76 ?_
            exact a_iret B hr hlk dX7_feed_79 (rR_l0 (by unfold feeR; rw [c9, if_pos rfl, nn_nI ht0, if_pos hfit, hM', hLt]) (by rw [apMR_0 hM'] at hap; rw [hap]; unfold feeR; rw [c9, if_pos rfl, nn_nI ht0, if_pos hfit]))
          exact absurd (show nI 0 + (-1) < 0 by decide) c40
        | succ j ih =>
          intro M' L' hj hM' hL' hap
          refine a_iload_n B dX7_feed_39 rfl ?_
          refine a_if_lt 75 B dX7_feed_40 (by decide) (fun c40 => ?_) (fun c40 => ?_)
          · exact absurd ((lv_neg1 (j + 1) (by omega)).mp c40) (by omega)
          rw [lv_pred]
          refine a_aload_n B dX7_feed_43 rfl ?_
          refine a_getR B fl_X7_25 (by decide) rfl rfl dX7_feed_44 ?_
          refine a_aload_n B dX7_feed_47 rfl ?_
          refine a_getI B fl_X7_191 (by decide) rfl rfl dX7_feed_48 ?_
          refine a_iload_n B dX7_feed_51 rfl ?_
          refine a_bipush (v := 8) B dX7_feed_52 (by decide) ?_
          refine a_iload_n B dX7_feed_54 rfl ?_
          refine a_imul B dX7_feed_55 ?_
          refine a_ishr B dX7_feed_56 ?_
          refine a_i2b B dX7_feed_57 ?_
          refine a_bast L' B twM (by decide) rfl hM' (by omega) (by decide) dX7_feed_58 ?_
          refine a_aload_n B dX7_feed_59 rfl ?_
          refine a_dup B dX7_feed_60 rfl ?_
          refine a_getI B fl_X7_191 (by decide) rfl rfl dX7_feed_61 ?_
          refine a_iconst (v := 1) B dX7_feed_64 (by decide) ?_
          refine a_iadd B dX7_feed_65 ?_
          refine a_putI B twM fl_X7_191 fp_7_7 (by decide) rfl rfl dX7_feed_66 ?_
          refine p_iinc3 (-1) B dX7_feed_69 (by decide) (by decide) (k := ?_)
          refine a_goto 39 B dX7_feed_72 (by decide) ?_
          refine ih _ (L' + 1) (by omega) ?_ (by omega) ?_
          · rw [upB_on, upB_st, stB_ne (show (10 : Nat) ≠ 5 by decide), hM', nI_1]
          · rw [show (num >>> (8 * nI j &&& 31)).toInt8.toInt32 = bvR num j from rfl, show (bvR num j).toInt8.toInt32 = bvR num j from fb_byte_twice _, Nat.zero_add L', upB_st (b := 5), upB_st (b := 10), stB_ne (show (10 : Nat) ≠ 5 by decide), hM', nI_1, apMR_s]; exact hap
      have e0 : nI t - 1 = nI t + (-1) := Int32.sub_eq_add_neg _ _
      rw [e0]
      exact loop t M (tapR M) ht hML hfit rfl
    refine a_aload_n B dX7_feed_29 rfl ?_
    refine a_iconst (v := 1) B dX7_feed_30 (by decide) ?_
    refine a_callV1r B rfl cf_X7_finds lk_X7_109 in_X7_finds se_X7_finds (wl_rc (p0 := 0) (by decide) rfl rfl rfl) (m_finds 1 (by decide) _) dX7_feed_31 (Nat.le_of_ble_eq_true rfl) ⟨Nat.le_of_ble_eq_true rfl, Nat.le_of_ble_eq_true rfl⟩ ⟨rfl, rfl⟩ ?_
    exact a_iret B hr hlk dX7_feed_34 (rR_r0 (k := 1) (by unfold feeR; rw [c9, if_pos rfl, nn_nI ht0, if_neg (fun q => c26 (by rw [hML, nI_add]; exact nI_le (b := 120) q (by omega)))]) rfl rfl)
  have c9 := bI_eq0.mp c9
  refine a_aload_n B dX7_feed_12 rfl ?_
  refine a_iconst (v := 0) B dX7_feed_13 (by decide) ?_
  refine a_callV1r B rfl cf_X7_finds lk_X7_109 in_X7_finds se_X7_finds (wl_rc (p0 := 0) (by decide) rfl rfl rfl) (m_finds 0 (by decide) _) dX7_feed_14 (Nat.le_of_ble_eq_true rfl) ⟨Nat.le_of_ble_eq_true rfl, Nat.le_of_ble_eq_true rfl⟩ ⟨rfl, rfl⟩ ?_
  exact a_iret B hr hlk dX7_feed_17 (rR_r0 (k := 0) (by unfold feeR; rw [c9]; rfl) rfl rfl)
end R15
