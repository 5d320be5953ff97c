section C11

theorem any_nI (z : Int32) : ∃ n, z = nI n := ⟨z.toBitVec.toNat, by
  apply Int32.toBitVec_inj.mp
  apply BitVec.eq_of_toNat_eq
  rw [pk_tn z.toBitVec.isLt]⟩
theorem us8 (z : Int32) : ∃ a, a < 16777216 ∧ us z 8 = nI a := by
  refine ⟨z.toBitVec.toNat / 256, by have := z.toBitVec.isLt; omega, ?_⟩
  apply Int32.toBitVec_inj.mp
  apply BitVec.eq_of_toNat_eq
  have := z.toBitVec.isLt
  rw [pk_tn (by omega)]
  exact pk_ushr z 8 8 (by decide)
theorem Inv.z {d : Dm} (h : Inv d) (z : Int32) : Inv (upd d 2 z) := by
  obtain ⟨n, hn⟩ := any_nI z
  exact h.up (Or.inl (by omega)) hn (fun _ h2 => absurd rfl h2)
theorem Inv.cf {d : Dm} (h : Inv d) {j : Nat} (hj : j < 6) {a b : Int32} (ha : ∃ x, x < 16777216 ∧ a = nI x) (hb : ∃ x, x < 16777216 ∧ b = nI x) : Inv (upd d (6 + j) (100 * rmI a 8 + rmI b 41)) := by
  obtain ⟨x, hx, rfl⟩ := ha
  obtain ⟨y, hy, rfl⟩ := hb
  refine h.upl (n := 100 * (x % 8) + y % 41) hj ?_ (by omega) (by omega)
  rw [show rmI (nI x) 8 = nI (x % 8) from rm_nI (d := 8) (by omega) (by omega) (by omega), show rmI (nI y) 41 = nI (y % 41) from rm_nI (d := 41) (by omega) (by omega) (by omega), show (100 : Int32) = nI 100 from rfl, pk_mul, nI_add]
theorem Inv.com1 {d : Dm} (h : Inv d) : Inv (com1 d) := by
  exact ((((h.z _).z _).cf (((h.z _).z _).tod.1) (us8 _) (us8 _))).vDay
theorem Inv.com {d : Dm} (h : Inv d) : ∀ n, Inv (comF d n) := by
  intro n
  induction n with
  | zero => exact h
  | succ n ih => exact ih.com1
def powL (b : Int32) : Nat → Int64
  | 0 => 1
  | k + 1 => powL b k * b.toInt64
def halS : Nat → Int32 → Int32 → Int32 × Int32
  | 0, a, b => (a, b)
  | n + 1, a, b => if rmI a 2 = 0 ∧ rmI b 2 = 0 then halS n (a / 2) (b / 2) else (a, b)
def oddV (a : Int32) (what : Int32) (n : Nat) : Int64 := powL (if what = 0 then (halS 8 a 8).1 else (halS 8 a 8).2) n
def oddX (d : Dm) (p n what : Int32) : Int64 ⊕ Nat := if isP d p && wi n 20 && wi what 1 then .inl (oddV (onesF (d (28 + nn p))) what (nn n)) else .inr 0
abbrev rQL (x : Int64 ⊕ Nat) (M1 M : Mem) : Option Value → Mem → Prop := fun v M' => match x with
  | .inl r => v = some (.long r) ∧ ∃ d', Inv d' ∧ M' = stB M1 2 d'
  | .inr k => v = some (.long (fnd k).toInt64) ∧ ∃ d', Inv d' ∧ M' = stB (tellB M k) 2 d'
theorem rQLl0 {x : Int64 ⊕ Nat} {M1 M M' : Mem} {r : Int64} (hx : x = .inl r) (hd : Inv (M1 2)) (hM : M' = M1) : rQL x M1 M (some (.long r)) M' := by subst hx; subst hM; exact ⟨rfl, M' 2, hd, stB_id.symm⟩
theorem rQLr0 {x : Int64 ⊕ Nat} {M1 M M' : Mem} {f : Int32} {k : Nat} (hx : x = .inr k) (hf : f = fnd k) (hd : Inv (M 2)) (hM : M' = tellB M k) : rQL x M1 M (some (.long f.toInt64)) M' := by
  subst hx; subst hf; subst hM
  refine ⟨rfl, M 2, hd, ?_⟩
  unfold tellB
  rw [stB_comm (by decide), stB_id]
-- the tape
def bv (num : Int32) (j : Nat) : Int32 := ((num.toUInt32 >>> ((8 * nI j).toUInt32 &&& Int32.toUInt32 31)).toInt32).toInt8.toInt32
def apQ (q : Dm) (L : Nat) (num : Int32) : Nat → Dm
  | 0 => q
  | j + 1 => apQ (upd q L (bv num j)) (L + 1) num j
def apM (M : Mem) (L : Nat) (num : Int32) (c : Nat) : Mem := stB (stB M 5 (apQ (M 5) L num c)) 4 (upd (M 4) 5 (nI (L + c)))
theorem lv_neg1 : ∀ j, j < 5 → (nI j + (-1) < 0 ↔ j = 0) := by decide +kernel
theorem lv_pred {j : Nat} : nI (j + 1) + (-1) = nI j := pk_m1 j
theorem fits_ok {L c : Nat} (hL : L ≤ 120) (hc : c ≤ 4) : nI c ≤ 120 - nI L ↔ L + c ≤ 120 := by
  rw [show (120 : Int32) = nI 120 from rfl, pk_sub hL, nI_leI (by omega) (by omega)]
  omega
theorem ap_step {M : Mem} {L c : Nat} {num : Int32} : upB (upB M 5 L (bv num c).toInt8.toInt32) 4 5 (nI (L + 1)) = stB (stB M 5 (upd (M 5) L (bv num c))) 4 (upd (M 4) 5 (nI (L + 1))) := by
  have e : (bv num c).toInt8.toInt32 = bv num c := fb_byte_twice _
  rw [e, upB_st, upB_st, stB_ne (show (4 : Nat) ≠ 5 by decide)]

variable {l : Launch} {sk : (Nat → Nat) × (Nat → Nat)} {D : va_G} {cy : Nat → ClassId} {A : Nat → Nat} {X : va_W}
set_option maxRecDepth 20000 in
set_option maxHeartbeats 4000000 in
theorem k_X6_come (n1 : Int32) (M : Mem) (hJ : CI M) : CC l sk D cy A X mX6_come 5 [.ref (A 0), .int n1] M (rQ (comX (M 0) n1).1 (stB M 0 (comX (M 0) n1).2) M) := by
  refine Con.of (lo := [some (.ref (A 0)), some (.int n1), none, none, none]) cf_X6_come (fun _ _ => wl_fst) 3 rfl (Nat.le_of_ble_eq_true rfl) (fun Pp Ee Ss Mm Aa Bb Me Cc A0 B hr hlk => ?_)
  have B : BS sk D cy (wl A cy 51 TC X) A0 Pp Ss Mm Aa Cc RX6 cX6_come 5 := B
  obtain ⟨hI0, hI1, hI2, hT, hZ⟩ := hJ
  refine a_iload_n B dX6_come_0 rfl ?_
  refine a_iconst (v := 1) B dX6_come_1 (by decide) ?_
  refine a_icmp_lt 11 B dX6_come_2 (by decide) (fun c2 => ?_) (fun c2 => ?_)
  · refine a_aload_n B dX6_come_11 rfl ?_
    refine a_ldc B dX6_come_12 kc_X6_59 ?_
    refine a_callV1r B rfl cf_X6_tell lk_X6_60 in_X6_tell se_X6_tell (wl_rc (p0 := 0) (by decide) rfl rfl rfl) (k_X6_tell 0 (by decide) _ (by decide) _) dX6_come_14 (Nat.le_of_ble_eq_true rfl) ⟨Nat.le_of_ble_eq_true rfl, Nat.le_of_ble_eq_true rfl⟩ ⟨rfl, rfl⟩ ?_
    exact a_iret B hr hlk dX6_come_17 (rQr0 (k := 0) (by simp [comX, c2]) (by decide) hI2 rfl)
  refine a_iload_n B dX6_come_5 rfl ?_
  refine a_bipush (v := 20) B dX6_come_6 (by decide) ?_
  refine a_icmp_le 18 B dX6_come_8 (by decide) (fun c8 => ?_) (fun c8 => ?_)
  · refine a_aload_n B dX6_come_18 rfl ?_
    refine a_getR B fl_X6_12 (by decide) rfl rfl dX6_come_19 ?_
    refine a_getI B fl_X6_119 (by decide) rfl rfl dX6_come_22 ?_
    refine a_iload_n B dX6_come_25 rfl ?_
    refine a_iadd B dX6_come_26 ?_
    refine a_ldc B dX6_come_27 kc_X6_122 ?_
    refine a_icmp_le 39 B dX6_come_29 (by decide) (fun c29 => ?_) (fun c29 => ?_)
    · refine a_iconst (v := 0) B dX6_come_39 (by decide) ?_
      refine p_istore2 B dX6_come_40 (by decide) (k := ?_)
      obtain ⟨t, ht0, hte⟩ := day_nn c2
      subst hte
      have ht : t ≤ 20 := (nI_leI (b := 20) ht0 (by omega)).mp c8
      have hX : comX (M 0) (nI t) = (.inl (comF (M 0) t 4), comF (M 0) t) := by simp [comX, c2, Int32.not_lt.mpr c8, Int32.not_lt.mpr c29, nn_nI ht0]
      have loop : ∀ n k, t + 1 ≤ k + n → k ≤ t → ∀ o3 o4 : Option Value, AW Pp l Ee (rmK 5 (34 * 5)) Ss Mm Aa Bb Me Cc D (wl A cy 51 TC X) A0 5 0 0 (MQ Bb (QG D (wl A cy 51 TC X) A0 (rQ (comX (M 0) (nI t)).1 (stB M 0 (comX (M 0) (nI t)).2) M)) Aa Ss 0 0 A0) 41 [some (.ref (A 0)), some (.int (nI t)), some (.int (nI k)), o3, o4] [] (stB M 0 (comF (M 0) k)) := by
        intro n
        induction n with
        | zero => intro k h1 h2; omega
        | succ n ih =>
          intro k h1 h2 o3 o4
          refine a_iload_n B dX6_come_41 rfl ?_
          refine a_iload_n B dX6_come_42 rfl ?_
          refine a_icmp_ge 103 B dX6_come_43 (by decide) (fun c43 => ?_) (fun c43 => ?_)
          · have e1 : k = t := by have := ge_n c43 rfl rfl (by omega) (by omega); omega
            subst e1
            refine a_aload_n B dX6_come_103 rfl ?_
            refine a_getR B fl_X6_12 (by decide) rfl rfl dX6_come_104 ?_
            refine a_getI B fl_X6_56 (by decide) rfl rfl dX6_come_107 ?_
            exact a_iret B hr hlk dX6_come_110 (rQl0 (by rw [stB_at, hX]) (st2 hI2) (by rw [hX]))
          have hlt0 := lt_n c43 rfl rfl (by omega) (by omega)
          have hIk := hI0.com k
          generalize hdk : comF (M 0) k = dk at hIk ⊢
          refine a_aload_n B dX6_come_46 rfl ?_
          refine a_getR B fl_X6_12 (by decide) rfl rfl dX6_come_47 ?_
          refine a_callV0r B rfl cf_X0_draw lk_X6_203 in_X0_draw se_X0_draw (wl_rc (p0 := 1) (by decide) rfl rfl rfl) (k_X0_draw 0 (by decide) _) dX6_come_50 (Nat.le_of_ble_eq_true rfl) ⟨Nat.le_of_ble_eq_true rfl, Nat.le_of_ble_eq_true rfl⟩ ⟨rfl, rfl⟩ ?_
          simp only [stB_at, stB_st]
          refine a_bipush (v := 8) B dX6_come_53 (by decide) ?_
          refine a_irem B dX6_come_55 (by decide) ?_
          refine p_istore3 B dX6_come_56 (by decide) (k := ?_)
          refine a_aload_n B dX6_come_57 rfl ?_
          refine a_getR B fl_X6_12 (by decide) rfl rfl dX6_come_58 ?_
          refine a_callV0r B rfl cf_X0_draw lk_X6_203 in_X0_draw se_X0_draw (wl_rc (p0 := 1) (by decide) rfl rfl rfl) (k_X0_draw 0 (by decide) _) dX6_come_61 (Nat.le_of_ble_eq_true rfl) ⟨Nat.le_of_ble_eq_true rfl, Nat.le_of_ble_eq_true rfl⟩ ⟨rfl, rfl⟩ ?_
          simp only [stB_at, stB_st]
          refine a_bipush (v := 41) B dX6_come_64 (by decide) ?_
          refine a_irem B dX6_come_66 (by decide) ?_
          refine p_istore4 B dX6_come_67 (by decide) (k := ?_)
          refine a_aload_n B dX6_come_69 rfl ?_
          refine a_getR B fl_X6_12 (by decide) rfl rfl dX6_come_70 ?_
          refine a_getR B fl_X6_68 (by decide) rfl rfl dX6_come_73 ?_
          refine a_aload_n B dX6_come_76 rfl ?_
          refine a_getR B fl_X6_12 (by decide) rfl rfl dX6_come_77 ?_
          refine a_callV0r B rfl cf_X0_placeToday lk_X6_206 in_X0_placeToday se_X0_placeToday (wl_rc (p0 := 1) (by decide) rfl rfl rfl) (k_X0_placeToday 0 (by decide) _ (by rw [stB_at]; exact (hIk.z _).z _)) dX6_come_80 (Nat.le_of_ble_eq_true rfl) ⟨Nat.le_of_ble_eq_true rfl, Nat.le_of_ble_eq_true rfl⟩ ⟨rfl, rfl⟩ ?_
          simp only [stB_at, stB_st]
          refine a_iload_n B dX6_come_83 rfl ?_
          refine a_iload B dX6_come_84 rfl ?_
          refine a_callS2r B rfl cf_X6_confessionOf lk_X6_209 st_X6_confessionOf (k_X6_confessionOf _ _ _) dX6_come_86 (Nat.le_of_ble_eq_true rfl) ⟨Nat.le_of_ble_eq_true rfl, Nat.le_of_ble_eq_true rfl⟩ ⟨rfl, rfl⟩ ?_
          refine a_iast (todN (upd (upd dk 2 (drawZ (dk 2))) 2 (drawZ (upd dk 2 (drawZ (dk 2)) 2)))) B twC (by decide) rfl rfl (((hIk.z _).z _).tod.1) (by decide) dX6_come_89 ?_
          rw [upB_stB]
          refine a_aload_n B dX6_come_90 rfl ?_
          refine a_getR B fl_X6_12 (by decide) rfl rfl dX6_come_91 ?_
          refine a_callV0v B rfl cf_X0_passDay lk_X6_212 in_X0_passDay se_X0_passDay (wl_rc (p0 := 1) (by decide) rfl rfl rfl) (k_X0_passDay 0 (by decide) _ (by rw [stB_at]; exact ((hIk.z _).z _).cf (((hIk.z _).z _).tod.1) (us8 _) (us8 _))) dX6_come_94 (Nat.le_of_ble_eq_true rfl) ⟨Nat.le_of_ble_eq_true rfl, Nat.le_of_ble_eq_true rfl⟩ ⟨rfl, rfl⟩ ?_
          simp only [stB_at, stB_st]
          refine p_iinc2 1 B dX6_come_97 (by decide) (by decide) (k := ?_)
          refine a_goto 41 B dX6_come_100 (by decide) ?_
          rw [nI_1]
          refine a_mem ?_ (ih (k + 1) (by omega) (by omega) _ _)
          show _ = stB M 0 (com1 (comF (M 0) k))
          rw [hdk]
          rfl
      refine a_mem (stB_id (b := 0)).symm ?_
      exact loop (t + 1) 0 (by omega) (by omega) _ _
    refine a_aload_n B dX6_come_32 rfl ?_
    refine a_ldc B dX6_come_33 kc_X6_123 ?_
    refine a_callV1r B rfl cf_X6_tell lk_X6_60 in_X6_tell se_X6_tell (wl_rc (p0 := 0) (by decide) rfl rfl rfl) (k_X6_tell 4 (by decide) _ (by decide) _) dX6_come_35 (Nat.le_of_ble_eq_true rfl) ⟨Nat.le_of_ble_eq_true rfl, Nat.le_of_ble_eq_true rfl⟩ ⟨rfl, rfl⟩ ?_
    exact a_iret B hr hlk dX6_come_38 (rQr0 (k := 4) (by simp [comX, c2, Int32.not_lt.mpr c8, Int32.not_le.mp c29]) (by decide) hI2 rfl)
  refine a_aload_n B dX6_come_11 rfl ?_
  refine a_ldc B dX6_come_12 kc_X6_59 ?_
  refine a_callV1r B rfl cf_X6_tell lk_X6_60 in_X6_tell se_X6_tell (wl_rc (p0 := 0) (by decide) rfl rfl rfl) (k_X6_tell 0 (by decide) _ (by decide) _) dX6_come_14 (Nat.le_of_ble_eq_true rfl) ⟨Nat.le_of_ble_eq_true rfl, Nat.le_of_ble_eq_true rfl⟩ ⟨rfl, rfl⟩ ?_
  exact a_iret B hr hlk dX6_come_17 (rQr0 (k := 0) (by simp [comX, c2, Int32.not_le.mp c8]) (by decide) hI2 rfl)
set_option maxRecDepth 20000 in
set_option maxHeartbeats 4000000 in
theorem k_X6_power (b : Int32) (t : Nat) (ht : t < 2 ^ 31 - 1) (M : Mem) : CC l sk D cy A X mX6_power 0 [.int b, .int (nI t)] M (rL (powL b t) M) := by
  refine Con.of (lo := [some (.int b), some (.int (nI t)), none, none, none]) cf_X6_power (fun _ _ => wl_fst) 3 rfl (Nat.le_of_ble_eq_true rfl) (fun Pp Ee Ss Mm Aa Bb Me Cc A0 B hr hlk => ?_)
  have B : BS sk D cy (wl A cy 51 TC X) A0 Pp Ss Mm Aa Cc RX6 cX6_power 5 := B
  have loop : ∀ n k, t + 1 ≤ k + n → k ≤ t → AW Pp l Ee (rmK 0 (34 * 0)) Ss Mm Aa Bb Me Cc D (wl A cy 51 TC X) A0 5 0 0 (MQ Bb (QG D (wl A cy 51 TC X) A0 (rL (powL b t) M)) Aa Ss 0 0 A0) 5 [some (.int b), some (.int (nI t)), some (.long (powL b k)), none, some (.int (nI k))] [] (M) := by
    intro n
    induction n with
    | zero => intro k h1 h2; omega
    | succ n ih =>
      intro k h1 h2 
      refine a_iload B dX6_power_5 rfl ?_
      refine a_iload_n B dX6_power_7 rfl ?_
      refine a_icmp_ge 22 B dX6_power_8 (by decide) (fun c8 => ?_) (fun c8 => ?_)
      · have e1 : k = t := by have := ge_n c8 rfl rfl (by omega) (by omega); omega
        subst e1
        refine a_lload_n B dX6_power_22 rfl ?_
        exact a_lret B hr hlk dX6_power_23 ⟨rfl, rfl⟩
      have hlt0 := lt_n c8 rfl rfl (by omega) (by omega)
      refine a_lload_n B dX6_power_11 rfl ?_
      refine a_iload_n B dX6_power_12 rfl ?_
      refine a_i2l B dX6_power_13 ?_
      refine a_lmul B dX6_power_14 ?_
      refine p_lstore2 B dX6_power_15 (by decide) (k := ?_)
      refine p_iinc4 1 B dX6_power_16 (by decide) (by decide) (k := ?_)
      refine a_goto 5 B dX6_power_19 (by decide) ?_
      rw [nI_1]
      exact ih (k + 1) (by omega) (by omega)
  refine a_lconst (v := 1) B dX6_power_0 (by decide) ?_
  refine p_lstore2 B dX6_power_1 (by decide) (k := ?_)
  refine a_iconst (v := 0) B dX6_power_2 (by decide) ?_
  refine p_istore4 B dX6_power_3 (by decide) (k := ?_)
  exact loop (t + 1) 0 (by omega) (by omega)
set_option maxRecDepth 20000 in
set_option maxHeartbeats 4000000 in
theorem k_X6_odds (v n1 what : Int32) (M : Mem) (hJ : CI M) : CC l sk D cy A X mX6_odds 2 [.ref (A 0), .int v, .int n1, .int what] M (rQL (oddX (M 0) v n1 what) M M) := by
  refine Con.of (lo := [some (.ref (A 0)), some (.int v), some (.int n1), some (.int what), none, none, none, none]) cf_X6_odds (fun _ _ => wl_fst) 4 rfl (Nat.le_of_ble_eq_true rfl) (fun Pp Ee Ss Mm Aa Bb Me Cc A0 B hr hlk => ?_)
  have B : BS sk D cy (wl A cy 51 TC X) A0 Pp Ss Mm Aa Cc RX6 cX6_odds 8 := B
  obtain ⟨hI0, hI1, hI2, hT, hZ⟩ := hJ
  rcases at_cases hI0 v with ⟨q, hqn, hq8, hvq, hip, hlt⟩ | ⟨hn, hip⟩
  · subst hvq
    refine a_aload_n B dX6_odds_0 rfl ?_
    refine a_getR B fl_X6_12 (by decide) rfl rfl dX6_odds_1 ?_
    refine a_iload_n B dX6_odds_4 rfl ?_
    refine a_callV1r B rfl cf_X0_at lk_X6_81 in_X0_at se_X0_at (wl_rc (p0 := 1) (by decide) rfl rfl rfl) (k_X0_at 0 q (by decide) hq8 _ hlt) dX6_odds_5 (Nat.le_of_ble_eq_true rfl) ⟨Nat.le_of_ble_eq_true rfl, Nat.le_of_ble_eq_true rfl⟩ ⟨rfl, rfl⟩ ?_
    refine p_astore4 B dX6_odds_8 (by decide) (k := ?_)
    refine a_aload B dX6_odds_10 rfl ?_
    refine a_ifnull B dX6_odds_12 ?_
    refine a_iload_n B dX6_odds_15 rfl ?_
    refine a_bipush (v := 20) B dX6_odds_16 (by decide) ?_
    refine a_callS2r B rfl cf_X6_within lk_X6_48 st_X6_within (k_X6_within _ _ _) dX6_odds_18 (Nat.le_of_ble_eq_true rfl) ⟨Nat.le_of_ble_eq_true rfl, Nat.le_of_ble_eq_true rfl⟩ ⟨rfl, rfl⟩ ?_
    refine a_if_eq 32 B dX6_odds_21 (by decide) (fun c21 => ?_) (fun c21 => ?_)
    · have c21 := bI_eq0.mp c21
      refine a_aload_n B dX6_odds_32 rfl ?_
      refine a_ldc B dX6_odds_33 kc_X6_59 ?_
      refine a_callV1r B rfl cf_X6_tell lk_X6_60 in_X6_tell se_X6_tell (wl_rc (p0 := 0) (by decide) rfl rfl rfl) (k_X6_tell 0 (by decide) _ (by decide) _) dX6_odds_35 (Nat.le_of_ble_eq_true rfl) ⟨Nat.le_of_ble_eq_true rfl, Nat.le_of_ble_eq_true rfl⟩ ⟨rfl, rfl⟩ ?_
      refine a_i2l B dX6_odds_38 ?_
      exact a_lret B hr hlk dX6_odds_39 (rQLr0 (k := 0) (by simp [oddX, c21, hip]) (by decide) hI2 rfl)
    have c21 := bI_ne0.mp c21
    refine a_iload_n B dX6_odds_24 rfl ?_
    refine a_iconst (v := 1) B dX6_odds_25 (by decide) ?_
    refine a_callS2r B rfl cf_X6_within lk_X6_48 st_X6_within (k_X6_within _ _ _) dX6_odds_26 (Nat.le_of_ble_eq_true rfl) ⟨Nat.le_of_ble_eq_true rfl, Nat.le_of_ble_eq_true rfl⟩ ⟨rfl, rfl⟩ ?_
    refine a_if_ne 40 B dX6_odds_29 (by decide) (fun c29 => ?_) (fun c29 => ?_)
    · have c29 := bI_ne0.mp c29
      refine a_aload B dX6_odds_40 rfl ?_
      refine a_getI B fl_X6_215 (by omega) (tcP 0 (by decide) q hq8) rfl dX6_odds_42 ?_
      refine a_callS1r B rfl cf_J6_bitCount_0f7a4 lk_X6_218 st_J6_bitCount_0f7a4 (k_J6_bitCount_0f7a4 _ _) dX6_odds_45 (Nat.le_of_ble_eq_true rfl) ⟨Nat.le_of_ble_eq_true rfl, Nat.le_of_ble_eq_true rfl⟩ ⟨rfl, rfl⟩ ?_
      obtain ⟨t, htt, hte⟩ := wi_T (t := 20) c21 (by omega)
      subst hte
      have hon := ones_le (hI0.t hq8)
      have hX : oddX (M 0) (nI q) (nI t) what = .inl (oddV (onesF (M 0 (28 + q))) what t) := by simp [oddX, hip, c21, c29, nn_nI (show q < 2 ^ 31 by omega), nn_nI (show t < 2 ^ 31 by omega)]
      rw [bitc_ones (hI0.t hq8)]
      refine p_istore5 B dX6_odds_48 (by decide) (k := ?_)
      refine a_bipush (v := 8) B dX6_odds_50 (by decide) ?_
      refine p_istore6 B dX6_odds_52 (by decide) (k := ?_)
      refine a_iconst (v := 0) B dX6_odds_54 (by decide) ?_
      refine p_istore7 B dX6_odds_55 (by decide) (k := ?_)
      have fin : ∀ a b z, halS 8 (onesF (M 0 (28 + q))) 8 = (a, b) → AW Pp l Ee (rmK 2 (34 * 2)) Ss Mm Aa Bb Me Cc D (wl A cy 51 TC X) A0 8 0 0 (MQ Bb (QG D (wl A cy 51 TC X) A0 (rQL (oddX (M 0) (nI q) (nI t) what) M M)) Aa Ss 0 0 A0) 96 [some (.ref (A 0)), some (.int (nI q)), some (.int (nI t)), some (.int what), some (.ref (A (5 + 12 * 0 + q))), some (.int a), some (.int b), some (.int z)] [] (M) := by
        intro a b z hfin0
        have hfin : (if what = 0 then a else b) = if what = 0 then (halS 8 (onesF (M 0 (28 + q))) 8).1 else (halS 8 (onesF (M 0 (28 + q))) 8).2 := by rw [hfin0]
        refine a_iload_n B dX6_odds_96 rfl ?_
        refine a_if_ne 105 B dX6_odds_97 (by decide) (fun c97 => ?_) (fun c97 => ?_)
        · refine a_iload B dX6_odds_105 rfl ?_
          refine a_iload_n B dX6_odds_107 rfl ?_
          refine a_callS2r B rfl cf_X6_power lk_X6_222 st_X6_power (k_X6_power _ t (by omega) _) dX6_odds_108 (Nat.le_of_ble_eq_true rfl) ⟨Nat.le_of_ble_eq_true rfl, Nat.le_of_ble_eq_true rfl⟩ ⟨rfl, rfl⟩ ?_
          exact a_lret B hr hlk dX6_odds_111 (rQLl0 (hX.trans (by unfold oddV; rw [← hfin, if_neg c97])) hI2 rfl)
        refine a_iload B dX6_odds_100 rfl ?_
        refine a_goto 107 B dX6_odds_102 (by decide) ?_
        refine a_iload_n B dX6_odds_107 rfl ?_
        refine a_callS2r B rfl cf_X6_power lk_X6_222 st_X6_power (k_X6_power _ t (by omega) _) dX6_odds_108 (Nat.le_of_ble_eq_true rfl) ⟨Nat.le_of_ble_eq_true rfl, Nat.le_of_ble_eq_true rfl⟩ ⟨rfl, rfl⟩ ?_
        exact a_lret B hr hlk dX6_odds_111 (rQLl0 (hX.trans (by unfold oddV; rw [← hfin, if_pos c97])) hI2 rfl)
      have loop : ∀ n k a b, 9 ≤ k + n → k ≤ 8 → halS (8 - k) a b = halS 8 (onesF (M 0 (28 + q))) 8 → AW Pp l Ee (rmK 2 (34 * 2)) Ss Mm Aa Bb Me Cc D (wl A cy 51 TC X) A0 8 0 0 (MQ Bb (QG D (wl A cy 51 TC X) A0 (rQL (oddX (M 0) (nI q) (nI t) what) M M)) Aa Ss 0 0 A0) 57 [some (.ref (A 0)), some (.int (nI q)), some (.int (nI t)), some (.int what), some (.ref (A (5 + 12 * 0 + q))), some (.int a), some (.int b), some (.int (nI k))] [] (M) := by
        intro n
        induction n with
        | zero => intro k a b h1 h2; omega
        | succ n ih =>
          intro k a b h1 h2 h3
          refine a_iload B dX6_odds_57 rfl ?_
          refine a_bipush (v := 8) B dX6_odds_59 (by decide) ?_
          refine a_icmp_ge 96 B dX6_odds_61 (by decide) (fun c61 => ?_) (fun c61 => ?_)
          · have e1 : k = 8 := by have := ge_n (b := 8) c61 rfl rfl (by omega) (by omega); omega
            subst e1
            exact fin a b _ h3.symm
          have hlt0 := lt_n (b := 8) c61 rfl rfl (by omega) (by omega)
          have h4 : halS (8 - k) a b = if rmI a 2 = 0 ∧ rmI b 2 = 0 then halS (8 - (k + 1)) (a / 2) (b / 2) else (a, b) := by rw [show 8 - k = (8 - (k + 1)) + 1 by omega]; rfl
          refine a_iload B dX6_odds_64 rfl ?_
          refine a_iconst (v := 2) B dX6_odds_66 (by decide) ?_
          refine a_irem B dX6_odds_67 (by decide) ?_
          refine a_if_ne 96 B dX6_odds_68 (by decide) (fun c68 => ?_) (fun c68 => ?_)
          · exact fin a b _ (by rw [← h3, h4, if_neg (fun q9 => c68 q9.1)])
          refine a_iload B dX6_odds_71 rfl ?_
          refine a_iconst (v := 2) B dX6_odds_73 (by decide) ?_
          refine a_irem B dX6_odds_74 (by decide) ?_
          refine a_if_ne 96 B dX6_odds_75 (by decide) (fun c75 => ?_) (fun c75 => ?_)
          · exact fin a b _ (by rw [← h3, h4, if_neg (fun q9 => c75 q9.2)])
          refine a_iload B dX6_odds_78 rfl ?_
          refine a_iconst (v := 2) B dX6_odds_80 (by decide) ?_
          refine a_idiv B dX6_odds_81 (by decide) ?_
          refine p_istore5 B dX6_odds_82 (by decide) (k := ?_)
          refine a_iload B dX6_odds_84 rfl ?_
          refine a_iconst (v := 2) B dX6_odds_86 (by decide) ?_
          refine a_idiv B dX6_odds_87 (by decide) ?_
          refine p_istore6 B dX6_odds_88 (by decide) (k := ?_)
          refine p_iinc7 1 B dX6_odds_90 (by decide) (by decide) (k := ?_)
          refine a_goto 57 B dX6_odds_93 (by decide) ?_
          rw [nI_1]
          exact ih (k + 1) _ _ (by omega) (by omega) (by rw [← h3, h4, if_pos ⟨c68, c75⟩])
      exact loop 9 0 _ _ (by omega) (by omega) rfl
    have c29 := bI_eq0.mp c29
    refine a_aload_n B dX6_odds_32 rfl ?_
    refine a_ldc B dX6_odds_33 kc_X6_59 ?_
    refine a_callV1r B rfl cf_X6_tell lk_X6_60 in_X6_tell se_X6_tell (wl_rc (p0 := 0) (by decide) rfl rfl rfl) (k_X6_tell 0 (by decide) _ (by decide) _) dX6_odds_35 (Nat.le_of_ble_eq_true rfl) ⟨Nat.le_of_ble_eq_true rfl, Nat.le_of_ble_eq_true rfl⟩ ⟨rfl, rfl⟩ ?_
    refine a_i2l B dX6_odds_38 ?_
    exact a_lret B hr hlk dX6_odds_39 (rQLr0 (k := 0) (by simp [oddX, c21, c29, hip]) (by decide) hI2 rfl)
  · refine a_aload_n B dX6_odds_0 rfl ?_
    refine a_getR B fl_X6_12 (by decide) rfl rfl dX6_odds_1 ?_
    refine a_iload_n B dX6_odds_4 rfl ?_
    refine a_callV1r B rfl cf_X0_at lk_X6_81 in_X0_at se_X0_at (wl_rc (p0 := 1) (by decide) rfl rfl rfl) (k_X0_atN 0 (by decide) _ _ hn) dX6_odds_5 (Nat.le_of_ble_eq_true rfl) ⟨Nat.le_of_ble_eq_true rfl, Nat.le_of_ble_eq_true rfl⟩ ⟨rfl, rfl⟩ ?_
    refine p_astoreN4 B dX6_odds_8 (by decide) (k := ?_)
    refine a_aloadN B dX6_odds_10 rfl ?_
    refine a_ifnullN 32 B dX6_odds_12 (by decide) ?_
    refine a_aload_n B dX6_odds_32 rfl ?_
    refine a_ldc B dX6_odds_33 kc_X6_59 ?_
    refine a_callV1r B rfl cf_X6_tell lk_X6_60 in_X6_tell se_X6_tell (wl_rc (p0 := 0) (by decide) rfl rfl rfl) (k_X6_tell 0 (by decide) _ (by decide) _) dX6_odds_35 (Nat.le_of_ble_eq_true rfl) ⟨Nat.le_of_ble_eq_true rfl, Nat.le_of_ble_eq_true rfl⟩ ⟨rfl, rfl⟩ ?_
    refine a_i2l B dX6_odds_38 ?_
    exact a_lret B hr hlk dX6_odds_39 (rQLr0 (k := 0) (by simp [oddX, hip]) (by decide) hI2 rfl)
end C11
