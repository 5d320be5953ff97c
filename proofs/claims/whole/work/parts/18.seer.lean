section C5
abbrev rS (x : Int32) (M : Mem) : Option Value → Mem → Prop := fun v M' => v = some (.int x) ∧ ∃ d', Inv d' ∧ M' = stB M 2 d'
abbrev rSL (x : Int64) (M : Mem) : Option Value → Mem → Prop := fun v M' => v = some (.long x) ∧ ∃ d', Inv d' ∧ M' = stB M 2 d'
theorem out_bit {x sin : Int32} (h : ¬ x >>> (sin &&& 31) &&& 1 = 0) : decide (x >>> (sin &&& 31) &&& 1 = 1) = true := decide_eq_true (and1_iff.mp h)
theorem out_nbit {x sin : Int32} (h : x >>> (sin &&& 31) &&& 1 = 0) : decide (x >>> (sin &&& 31) &&& 1 = 1) = false := decide_eq_false (and1_0.mp h)
theorem fst_yes {P : Nat → Bool} {k : Nat} (h : fstN P k = none) (hp : P k = true) : fstN P (k + 1) = some k := by rw [fstN, h]; simp only; rw [if_pos hp]
theorem fst_no {P : Nat → Bool} {k : Nat} (h : fstN P k = none) (hp : P k = false) : fstN P (k + 1) = none := by rw [fstN, h]; simp only; rw [if_neg (by rw [hp]; decide)]
variable {l : Launch} {sk : (Nat → Nat) × (Nat → Nat)} {D : va_G} {cy : Nat → ClassId} {A : Nat → Nat} {X : va_W}
set_option maxRecDepth 20000 in
theorem k_X3_tellBehind (M : Mem) (hI0 : Inv (M 0)) (hI2 : Inv (M 2)) (p : Nat) (hp : p < nOf (M 0)) (what : Int32) (t : Nat) (ht : t < 100000) : CC l sk D cy A X mX3_tellBehind 5 [.ref (A 37), .ref (A 1), .int (nI p), .int what, .int (nI t)] M (rS (tellV (daysF (M 0) t) p what) M) := by
  refine Con.of (lo := [some (.ref (A 37)), some (.ref (A 1)), some (.int (nI p)), some (.int what), some (.int (nI t)), none]) cf_X3_tellBehind (fun _ _ => wl_fst) 1 rfl (Nat.le_of_ble_eq_true rfl) (fun Pp Ee Ss Mm Aa Bb Me Cc A0 B hr hlk => ?_)
  have B : BS sk D cy (wl A cy 51 TC X) A0 Pp Ss Mm Aa Cc RX3 cX3_tellBehind 6 := B
  obtain ⟨N, hN, eN, eNo⟩ := hI0.n
  have hp8 : p < 8 := by omega
  have hlt : nI p < M 0 0 := nI_ltN eN (by omega) (by omega)
  refine a_aload_n B dX3_tellBehind_0 rfl ?_
  refine a_getR B fl_X3_12 (by decide) rfl rfl dX3_tellBehind_1 ?_
  refine a_aload_n B dX3_tellBehind_4 rfl ?_
  refine a_callV1v B rfl cf_X0_becomeLike lk_X3_18 in_X0_becomeLike se_X0_becomeLike (wl_rc (p0 := 25) (by decide) rfl rfl rfl) (k_X0_becomeLike 2 0 (by decide) (by decide) (by decide) _ hI0) dX3_tellBehind_5 (Nat.le_of_ble_eq_true rfl) ⟨Nat.le_of_ble_eq_true rfl, Nat.le_of_ble_eq_true rfl⟩ ⟨rfl, rfl⟩ ?_
  have hS := Sim.like (d := M 2) hI0
  have hIr : Inv (likeF (M 2) (M 0)) := hI2.like hI0 _
  generalize likeF (M 2) (M 0) = dr at hS hIr ⊢
  refine a_aload_n B dX3_tellBehind_8 rfl ?_
  refine a_getR B fl_X3_12 (by decide) rfl rfl dX3_tellBehind_9 ?_
  refine a_iload B dX3_tellBehind_12 rfl ?_
  refine a_callV1v B rfl cf_X0_passDays lk_X3_22 in_X0_passDays se_X0_passDays (wl_rc (p0 := 25) (by decide) rfl rfl rfl) (k_X0_passDays 2 (by decide) t ht _ (by rw [stB_at]; exact hIr)) dX3_tellBehind_14 (Nat.le_of_ble_eq_true rfl) ⟨Nat.le_of_ble_eq_true rfl, Nat.le_of_ble_eq_true rfl⟩ ⟨rfl, rfl⟩ ?_
  rw [stB_at, stB_st]
  refine a_aload_n B dX3_tellBehind_17 rfl ?_
  refine a_getR B fl_X3_12 (by decide) rfl rfl dX3_tellBehind_18 ?_
  refine a_iload_n B dX3_tellBehind_21 rfl ?_
  refine a_callV1r B rfl cf_X0_at lk_X3_26 in_X0_at se_X0_at (wl_rc (p0 := 25) (by decide) rfl rfl rfl) (k_X0_at 2 p (by decide) hp8 _ (by rw [stB_at, days_off hIr (by omega) (by omega) (by omega) (by omega), hS.1 0 (by omega)]; exact hlt)) dX3_tellBehind_22 (Nat.le_of_ble_eq_true rfl) ⟨Nat.le_of_ble_eq_true rfl, Nat.le_of_ble_eq_true rfl⟩ ⟨rfl, rfl⟩ ?_
  refine p_astore5 B dX3_tellBehind_25 (by decide) (k := ?_)
  refine a_aload B dX3_tellBehind_27 rfl ?_
  refine a_ifnonnull 36 B dX3_tellBehind_29 (by decide) ?_
  refine a_aload_n B dX3_tellBehind_36 rfl ?_
  refine a_getR B fl_X3_12 (by decide) rfl rfl dX3_tellBehind_37 ?_
  refine a_aload B dX3_tellBehind_40 rfl ?_
  refine a_iload_n B dX3_tellBehind_42 rfl ?_
  refine a_callV2r B rfl cf_X0_tellOf lk_X3_30 in_X0_tellOf se_X0_tellOf (wl_rc (p0 := 25) (by decide) rfl rfl rfl) (k_X0_tellOf 2 p (by decide) hp8 _ _ (by rw [stB_at]; exact hIr.vDays t)) dX3_tellBehind_43 (Nat.le_of_ble_eq_true rfl) ⟨Nat.le_of_ble_eq_true rfl, Nat.le_of_ble_eq_true rfl⟩ ⟨rfl, rfl⟩ ?_
  exact a_iret B hr hlk dX3_tellBehind_46 ⟨congrArg (fun z => some (Value.int z)) (by rw [stB_at]; exact (hS.days hIr t).tell (by rw [days_n hIr, hS.n]; exact hp)), _, hIr.vDays t, rfl⟩
set_option maxRecDepth 20000 in
set_option maxHeartbeats 4000000 in
theorem k_X3_daysTillOut (M : Mem) (hI0 : Inv (M 0)) (hI2 : Inv (M 2)) (sin : Int32) : CC l sk D cy A X mX3_daysTillOut 4 [.ref (A 37), .ref (A 1), .int sin] M (rS (oI (fstN (outQ (M 0) sin) 201)) M) := by
  refine Con.of (lo := [some (.ref (A 37)), some (.ref (A 1)), some (.int sin), none]) cf_X3_daysTillOut (fun _ _ => wl_fst) 1 rfl (Nat.le_of_ble_eq_true rfl) (fun Pp Ee Ss Mm Aa Bb Me Cc A0 B hr hlk => ?_)
  have B : BS sk D cy (wl A cy 51 TC X) A0 Pp Ss Mm Aa Cc RX3 cX3_daysTillOut 4 := B
  refine a_aload_n B dX3_daysTillOut_0 rfl ?_
  refine a_getR B fl_X3_12 (by decide) rfl rfl dX3_daysTillOut_1 ?_
  refine a_aload_n B dX3_daysTillOut_4 rfl ?_
  refine a_callV1v B rfl cf_X0_becomeLike lk_X3_18 in_X0_becomeLike se_X0_becomeLike (wl_rc (p0 := 25) (by decide) rfl rfl rfl) (k_X0_becomeLike 2 0 (by decide) (by decide) (by decide) _ hI0) dX3_daysTillOut_5 (Nat.le_of_ble_eq_true rfl) ⟨Nat.le_of_ble_eq_true rfl, Nat.le_of_ble_eq_true rfl⟩ ⟨rfl, rfl⟩ ?_
  have hS := Sim.like (d := M 2) hI0
  have hIr : Inv (likeF (M 2) (M 0)) := hI2.like hI0 _
  generalize likeF (M 2) (M 0) = dr at hS hIr ⊢
  refine a_iconst (v := 0) B dX3_daysTillOut_8 (by decide) ?_
  refine p_istore3 B dX3_daysTillOut_9 (by decide) (k := ?_)
  have hq : ∀ n, outQ dr sin n = outQ (M 0) sin n := fun n => hS.outQ hIr
  have loop : ∀ n k, 201 + 1 ≤ k + n → k ≤ 201 → fstN (outQ (M 0) sin) k = none → AW Pp l Ee (rmK 4 (34 * 4)) Ss Mm Aa Bb Me Cc D (wl A cy 51 TC X) A0 4 0 0 (MQ Bb (QG D (wl A cy 51 TC X) A0 (rS (oI (fstN (outQ (M 0) sin) 201)) M)) Aa Ss 0 0 A0) 10 [some (.ref (A 37)), some (.ref (A 1)), some (.int sin), some (.int (nI k))] [] (stB M 2 (daysF dr k)) := by
    intro n
    induction n with
    | zero => intro k h1 h2; omega
    | succ n ih =>
      intro k h1 h2 h3
      refine a_iload_n B dX3_daysTillOut_10 rfl ?_
      refine a_sipush (v := 200) B dX3_daysTillOut_11 (by decide) ?_
      refine a_icmp_gt 46 B dX3_daysTillOut_14 (by decide) (fun c14 => ?_) (fun c14 => ?_)
      · have e1 : k = 201 := by have := (nI_ltI (a := 200) (b := k) (by omega) (by omega)).mp c14; omega
        subst e1
        refine a_iconst (v := (-1)) B dX3_daysTillOut_46 (by decide) ?_
        exact a_iret B hr hlk dX3_daysTillOut_47 ⟨by rw [h3]; rfl, _, hIr.vDays 201, rfl⟩
      have hlt0 : k ≤ 200 := Nat.le_of_not_lt (fun q => c14 ((nI_ltI (a := 200) (by omega) (by omega)).mpr q))
      refine a_aload_n B dX3_daysTillOut_17 rfl ?_
      refine a_getR B fl_X3_12 (by decide) rfl rfl dX3_daysTillOut_18 ?_
      refine a_getI B fl_X3_43 (by decide) rfl rfl dX3_daysTillOut_21 ?_
      rw [stB_at]
      refine a_iload_n B dX3_daysTillOut_24 rfl ?_
      refine a_ishr B dX3_daysTillOut_25 ?_
      refine a_iconst (v := 1) B dX3_daysTillOut_26 (by decide) ?_
      refine a_iand B dX3_daysTillOut_27 ?_
      refine a_if_eq 33 B dX3_daysTillOut_28 (by decide) (fun c28 => ?_) (fun c28 => ?_)
      · refine a_aload_n B dX3_daysTillOut_33 rfl ?_
        refine a_getR B fl_X3_12 (by decide) rfl rfl dX3_daysTillOut_34 ?_
        refine a_callV0v B rfl cf_X0_passDay lk_X3_40 in_X0_passDay se_X0_passDay (wl_rc (p0 := 25) (by decide) rfl rfl rfl) (k_X0_passDay 2 (by decide) _ (by rw [stB_at]; exact hIr.vDays k)) dX3_daysTillOut_37 (Nat.le_of_ble_eq_true rfl) ⟨Nat.le_of_ble_eq_true rfl, Nat.le_of_ble_eq_true rfl⟩ ⟨rfl, rfl⟩ ?_
        rw [stB_at, stB_st]
        refine p_iinc3 1 B dX3_daysTillOut_40 (by decide) (by decide) (k := ?_)
        refine a_goto 10 B dX3_daysTillOut_43 (by decide) ?_
        rw [nI_1]
        exact ih (k + 1) (by omega) (by omega) (fst_no h3 ((hq k).symm.trans (out_nbit c28)))
      refine a_iload_n B dX3_daysTillOut_31 rfl ?_
      have e2 := fst_yes h3 ((hq k).symm.trans (out_bit c28))
      exact a_iret B hr hlk dX3_daysTillOut_32 ⟨by rw [fst_up e2 201 (by omega)]; rfl, _, hIr.vDays k, rfl⟩
  exact loop 202 0 (by omega) (by omega) rfl
set_option maxRecDepth 20000 in
set_option maxHeartbeats 4000000 in
theorem k_X3_daysTillWise (M : Mem) (hI0 : Inv (M 0)) (hI2 : Inv (M 2)) (p : Nat) (hp : p < nOf (M 0)) (v : Int32) : CC l sk D cy A X mX3_daysTillWise 4 [.ref (A 37), .ref (A 1), .int (nI p), .int v] M (rS (oI (fstN (wisQ (M 0) p v) 201)) M) := by
  refine Con.of (lo := [some (.ref (A 37)), some (.ref (A 1)), some (.int (nI p)), some (.int v), none, none]) cf_X3_daysTillWise (fun _ _ => wl_fst) 2 rfl (Nat.le_of_ble_eq_true rfl) (fun Pp Ee Ss Mm Aa Bb Me Cc A0 B hr hlk => ?_)
  have B : BS sk D cy (wl A cy 51 TC X) A0 Pp Ss Mm Aa Cc RX3 cX3_daysTillWise 6 := B
  obtain ⟨N, hN, eN, eNo⟩ := hI0.n
  have hp8 : p < 8 := by omega
  have hlt : nI p < M 0 0 := nI_ltN eN (by omega) (by omega)
  refine a_aload_n B dX3_daysTillWise_0 rfl ?_
  refine a_getR B fl_X3_12 (by decide) rfl rfl dX3_daysTillWise_1 ?_
  refine a_aload_n B dX3_daysTillWise_4 rfl ?_
  refine a_callV1v B rfl cf_X0_becomeLike lk_X3_18 in_X0_becomeLike se_X0_becomeLike (wl_rc (p0 := 25) (by decide) rfl rfl rfl) (k_X0_becomeLike 2 0 (by decide) (by decide) (by decide) _ hI0) dX3_daysTillWise_5 (Nat.le_of_ble_eq_true rfl) ⟨Nat.le_of_ble_eq_true rfl, Nat.le_of_ble_eq_true rfl⟩ ⟨rfl, rfl⟩ ?_
  have hS := Sim.like (d := M 2) hI0
  have hIr : Inv (likeF (M 2) (M 0)) := hI2.like hI0 _
  generalize likeF (M 2) (M 0) = dr at hS hIr ⊢
  refine a_aload_n B dX3_daysTillWise_8 rfl ?_
  refine a_getR B fl_X3_12 (by decide) rfl rfl dX3_daysTillWise_9 ?_
  refine a_iload_n B dX3_daysTillWise_12 rfl ?_
  refine a_callV1r B rfl cf_X0_at lk_X3_26 in_X0_at se_X0_at (wl_rc (p0 := 25) (by decide) rfl rfl rfl) (k_X0_at 2 p (by decide) hp8 _ (by rw [stB_at, hS.1 0 (by omega)]; exact hlt)) dX3_daysTillWise_13 (Nat.le_of_ble_eq_true rfl) ⟨Nat.le_of_ble_eq_true rfl, Nat.le_of_ble_eq_true rfl⟩ ⟨rfl, rfl⟩ ?_
  refine p_astore4 B dX3_daysTillWise_16 (by decide) (k := ?_)
  refine a_iconst (v := 0) B dX3_daysTillWise_18 (by decide) ?_
  refine p_istore5 B dX3_daysTillWise_19 (by decide) (k := ?_)
  have hq : ∀ n, wisQ dr p v n = wisQ (M 0) p v n := fun n => by unfold wisQ; rw [(hS.days hIr n).kn (by rw [days_n hIr, hS.n]; exact hp)]
  have loop : ∀ n k, 201 + 1 ≤ k + n → k ≤ 201 → fstN (wisQ (M 0) p v) k = none → AW Pp l Ee (rmK 4 (34 * 4)) Ss Mm Aa Bb Me Cc D (wl A cy 51 TC X) A0 6 0 0 (MQ Bb (QG D (wl A cy 51 TC X) A0 (rS (oI (fstN (wisQ (M 0) p v) 201)) M)) Aa Ss 0 0 A0) 21 [some (.ref (A 37)), some (.ref (A 1)), some (.int (nI p)), some (.int v), some (.ref (A (5 + 12 * 2 + p))), some (.int (nI k))] [] (stB M 2 (daysF dr k)) := by
    intro n
    induction n with
    | zero => intro k h1 h2; omega
    | succ n ih =>
      intro k h1 h2 h3
      refine a_aload B dX3_daysTillWise_21 rfl ?_
      refine a_ifnull B dX3_daysTillWise_23 ?_
      refine a_iload B dX3_daysTillWise_26 rfl ?_
      refine a_sipush (v := 200) B dX3_daysTillWise_28 (by decide) ?_
      refine a_icmp_gt 62 B dX3_daysTillWise_31 (by decide) (fun c31 => ?_) (fun c31 => ?_)
      · have e1 : k = 201 := by have := (nI_ltI (a := 200) (b := k) (by omega) (by omega)).mp c31; omega
        subst e1
        refine a_iconst (v := (-1)) B dX3_daysTillWise_62 (by decide) ?_
        exact a_iret B hr hlk dX3_daysTillWise_63 ⟨by rw [h3]; rfl, _, hIr.vDays 201, rfl⟩
      have hlt0 : k ≤ 200 := Nat.le_of_not_lt (fun q => c31 ((nI_ltI (a := 200) (by omega) (by omega)).mpr q))
      refine a_aload B dX3_daysTillWise_34 rfl ?_
      refine a_getI B fl_X3_46 (by omega) (tcP 2 (by decide) p hp8) rfl dX3_daysTillWise_36 ?_
      rw [stB_at]
      refine a_callS1r B rfl cf_J6_bitCount_0f7a4 lk_X3_49 st_J6_bitCount_0f7a4 (k_J6_bitCount_0f7a4 _ _) dX3_daysTillWise_39 (Nat.le_of_ble_eq_true rfl) ⟨Nat.le_of_ble_eq_true rfl, Nat.le_of_ble_eq_true rfl⟩ ⟨rfl, rfl⟩ ?_
      rw [bitc_ones ((hIr.vDays k).kn hp8)]
      refine a_iload_n B dX3_daysTillWise_42 rfl ?_
      refine a_icmp_lt 49 B dX3_daysTillWise_43 (by decide) (fun c43 => ?_) (fun c43 => ?_)
      · refine a_aload_n B dX3_daysTillWise_49 rfl ?_
        refine a_getR B fl_X3_12 (by decide) rfl rfl dX3_daysTillWise_50 ?_
        refine a_callV0v B rfl cf_X0_passDay lk_X3_40 in_X0_passDay se_X0_passDay (wl_rc (p0 := 25) (by decide) rfl rfl rfl) (k_X0_passDay 2 (by decide) _ (by rw [stB_at]; exact hIr.vDays k)) dX3_daysTillWise_53 (Nat.le_of_ble_eq_true rfl) ⟨Nat.le_of_ble_eq_true rfl, Nat.le_of_ble_eq_true rfl⟩ ⟨rfl, rfl⟩ ?_
        rw [stB_at, stB_st]
        refine p_iinc5 1 B dX3_daysTillWise_56 (by decide) (by decide) (k := ?_)
        refine a_goto 21 B dX3_daysTillWise_59 (by decide) ?_
        rw [nI_1]
        exact ih (k + 1) (by omega) (by omega) (fst_no h3 ((hq k).symm.trans (by unfold wisQ; rw [decide_eq_true c43]; rfl)))
      refine a_iload B dX3_daysTillWise_46 rfl ?_
      have e2 := fst_yes h3 ((hq k).symm.trans (by unfold wisQ; rw [decide_eq_false c43]; rfl))
      exact a_iret B hr hlk dX3_daysTillWise_48 ⟨by rw [fst_up e2 201 (by omega)]; rfl, _, hIr.vDays k, rfl⟩
  exact loop 202 0 (by omega) (by omega) rfl
set_option maxRecDepth 20000 in
set_option maxHeartbeats 4000000 in
theorem k_X3_daysTillStuffed (M : Mem) (hI0 : Inv (M 0)) (hI2 : Inv (M 2)) (p : Nat) (hp : p < nOf (M 0)) (v : Int32) : CC l sk D cy A X mX3_daysTillStuffed 4 [.ref (A 37), .ref (A 1), .int (nI p), .int v] M (rS (oI (fstN (whnQ (M 0) p v) 201)) M) := by
  refine Con.of (lo := [some (.ref (A 37)), some (.ref (A 1)), some (.int (nI p)), some (.int v), none, none]) cf_X3_daysTillStuffed (fun _ _ => wl_fst) 2 rfl (Nat.le_of_ble_eq_true rfl) (fun Pp Ee Ss Mm Aa Bb Me Cc A0 B hr hlk => ?_)
  have B : BS sk D cy (wl A cy 51 TC X) A0 Pp Ss Mm Aa Cc RX3 cX3_daysTillStuffed 6 := B
  obtain ⟨N, hN, eN, eNo⟩ := hI0.n
  have hp8 : p < 8 := by omega
  have hlt : nI p < M 0 0 := nI_ltN eN (by omega) (by omega)
  refine a_aload_n B dX3_daysTillStuffed_0 rfl ?_
  refine a_getR B fl_X3_12 (by decide) rfl rfl dX3_daysTillStuffed_1 ?_
  refine a_aload_n B dX3_daysTillStuffed_4 rfl ?_
  refine a_callV1v B rfl cf_X0_becomeLike lk_X3_18 in_X0_becomeLike se_X0_becomeLike (wl_rc (p0 := 25) (by decide) rfl rfl rfl) (k_X0_becomeLike 2 0 (by decide) (by decide) (by decide) _ hI0) dX3_daysTillStuffed_5 (Nat.le_of_ble_eq_true rfl) ⟨Nat.le_of_ble_eq_true rfl, Nat.le_of_ble_eq_true rfl⟩ ⟨rfl, rfl⟩ ?_
  have hS := Sim.like (d := M 2) hI0
  have hIr : Inv (likeF (M 2) (M 0)) := hI2.like hI0 _
  generalize likeF (M 2) (M 0) = dr at hS hIr ⊢
  refine a_aload_n B dX3_daysTillStuffed_8 rfl ?_
  refine a_getR B fl_X3_12 (by decide) rfl rfl dX3_daysTillStuffed_9 ?_
  refine a_iload_n B dX3_daysTillStuffed_12 rfl ?_
  refine a_callV1r B rfl cf_X0_at lk_X3_26 in_X0_at se_X0_at (wl_rc (p0 := 25) (by decide) rfl rfl rfl) (k_X0_at 2 p (by decide) hp8 _ (by rw [stB_at, hS.1 0 (by omega)]; exact hlt)) dX3_daysTillStuffed_13 (Nat.le_of_ble_eq_true rfl) ⟨Nat.le_of_ble_eq_true rfl, Nat.le_of_ble_eq_true rfl⟩ ⟨rfl, rfl⟩ ?_
  refine p_astore4 B dX3_daysTillStuffed_16 (by decide) (k := ?_)
  refine a_iconst (v := 0) B dX3_daysTillStuffed_18 (by decide) ?_
  refine p_istore5 B dX3_daysTillStuffed_19 (by decide) (k := ?_)
  have hq : ∀ n, whnQ dr p v n = whnQ (M 0) p v n := fun n => by unfold whnQ; rw [(hS.days hIr n).s (by rw [days_n hIr, hS.n]; exact hp)]
  have loop : ∀ n k, 201 + 1 ≤ k + n → k ≤ 201 → fstN (whnQ (M 0) p v) k = none → AW Pp l Ee (rmK 4 (34 * 4)) Ss Mm Aa Bb Me Cc D (wl A cy 51 TC X) A0 6 0 0 (MQ Bb (QG D (wl A cy 51 TC X) A0 (rS (oI (fstN (whnQ (M 0) p v) 201)) M)) Aa Ss 0 0 A0) 21 [some (.ref (A 37)), some (.ref (A 1)), some (.int (nI p)), some (.int v), some (.ref (A (5 + 12 * 2 + p))), some (.int (nI k))] [] (stB M 2 (daysF dr k)) := by
    intro n
    induction n with
    | zero => intro k h1 h2; omega
    | succ n ih =>
      intro k h1 h2 h3
      refine a_aload B dX3_daysTillStuffed_21 rfl ?_
      refine a_ifnull B dX3_daysTillStuffed_23 ?_
      refine a_iload B dX3_daysTillStuffed_26 rfl ?_
      refine a_sipush (v := 200) B dX3_daysTillStuffed_28 (by decide) ?_
      refine a_icmp_gt 59 B dX3_daysTillStuffed_31 (by decide) (fun c31 => ?_) (fun c31 => ?_)
      · have e1 : k = 201 := by have := (nI_ltI (a := 200) (b := k) (by omega) (by omega)).mp c31; omega
        subst e1
        refine a_iconst (v := (-1)) B dX3_daysTillStuffed_59 (by decide) ?_
        exact a_iret B hr hlk dX3_daysTillStuffed_60 ⟨by rw [h3]; rfl, _, hIr.vDays 201, rfl⟩
      have hlt0 : k ≤ 200 := Nat.le_of_not_lt (fun q => c31 ((nI_ltI (a := 200) (by omega) (by omega)).mpr q))
      refine a_aload B dX3_daysTillStuffed_34 rfl ?_
      refine a_getI B fl_X3_55 (by omega) (tcP 2 (by decide) p hp8) rfl dX3_daysTillStuffed_36 ?_
      rw [stB_at]
      refine a_iload_n B dX3_daysTillStuffed_39 rfl ?_
      refine a_icmp_lt 46 B dX3_daysTillStuffed_40 (by decide) (fun c40 => ?_) (fun c40 => ?_)
      · refine a_aload_n B dX3_daysTillStuffed_46 rfl ?_
        refine a_getR B fl_X3_12 (by decide) rfl rfl dX3_daysTillStuffed_47 ?_
        refine a_callV0v B rfl cf_X0_passDay lk_X3_40 in_X0_passDay se_X0_passDay (wl_rc (p0 := 25) (by decide) rfl rfl rfl) (k_X0_passDay 2 (by decide) _ (by rw [stB_at]; exact hIr.vDays k)) dX3_daysTillStuffed_50 (Nat.le_of_ble_eq_true rfl) ⟨Nat.le_of_ble_eq_true rfl, Nat.le_of_ble_eq_true rfl⟩ ⟨rfl, rfl⟩ ?_
        rw [stB_at, stB_st]
        refine p_iinc5 1 B dX3_daysTillStuffed_53 (by decide) (by decide) (k := ?_)
        refine a_goto 21 B dX3_daysTillStuffed_56 (by decide) ?_
        rw [nI_1]
        exact ih (k + 1) (by omega) (by omega) (fst_no h3 ((hq k).symm.trans (by unfold whnQ; rw [decide_eq_true c40]; rfl)))
      refine a_iload B dX3_daysTillStuffed_43 rfl ?_
      have e2 := fst_yes h3 ((hq k).symm.trans (by unfold whnQ; rw [decide_eq_false c40]; rfl))
      exact a_iret B hr hlk dX3_daysTillStuffed_45 ⟨by rw [fst_up e2 201 (by omega)]; rfl, _, hIr.vDays k, rfl⟩
  exact loop 202 0 (by omega) (by omega) rfl
set_option maxRecDepth 20000 in
set_option maxHeartbeats 4000000 in
theorem k_X3_daysTillIll (M : Mem) (hI0 : Inv (M 0)) (hI2 : Inv (M 2)) (p : Nat) (hp : p < nOf (M 0))  : CC l sk D cy A X mX3_daysTillIll 4 [.ref (A 37), .ref (A 1), .int (nI p)] M (rS (oI (fstN (illQ (M 0) p) 201)) M) := by
  refine Con.of (lo := [some (.ref (A 37)), some (.ref (A 1)), some (.int (nI p)), none, none, none]) cf_X3_daysTillIll (fun _ _ => wl_fst) 3 rfl (Nat.le_of_ble_eq_true rfl) (fun Pp Ee Ss Mm Aa Bb Me Cc A0 B hr hlk => ?_)
  have B : BS sk D cy (wl A cy 51 TC X) A0 Pp Ss Mm Aa Cc RX3 cX3_daysTillIll 6 := B
  obtain ⟨N, hN, eN, eNo⟩ := hI0.n
  have hp8 : p < 8 := by omega
  have hlt : nI p < M 0 0 := nI_ltN eN (by omega) (by omega)
  refine a_aload_n B dX3_daysTillIll_0 rfl ?_
  refine a_getR B fl_X3_12 (by decide) rfl rfl dX3_daysTillIll_1 ?_
  refine a_aload_n B dX3_daysTillIll_4 rfl ?_
  refine a_callV1v B rfl cf_X0_becomeLike lk_X3_18 in_X0_becomeLike se_X0_becomeLike (wl_rc (p0 := 25) (by decide) rfl rfl rfl) (k_X0_becomeLike 2 0 (by decide) (by decide) (by decide) _ hI0) dX3_daysTillIll_5 (Nat.le_of_ble_eq_true rfl) ⟨Nat.le_of_ble_eq_true rfl, Nat.le_of_ble_eq_true rfl⟩ ⟨rfl, rfl⟩ ?_
  have hS := Sim.like (d := M 2) hI0
  have hIr : Inv (likeF (M 2) (M 0)) := hI2.like hI0 _
  generalize likeF (M 2) (M 0) = dr at hS hIr ⊢
  refine a_aload_n B dX3_daysTillIll_8 rfl ?_
  refine a_getR B fl_X3_12 (by decide) rfl rfl dX3_daysTillIll_9 ?_
  refine a_iload_n B dX3_daysTillIll_12 rfl ?_
  refine a_callV1r B rfl cf_X0_at lk_X3_26 in_X0_at se_X0_at (wl_rc (p0 := 25) (by decide) rfl rfl rfl) (k_X0_at 2 p (by decide) hp8 _ (by rw [stB_at, hS.1 0 (by omega)]; exact hlt)) dX3_daysTillIll_13 (Nat.le_of_ble_eq_true rfl) ⟨Nat.le_of_ble_eq_true rfl, Nat.le_of_ble_eq_true rfl⟩ ⟨rfl, rfl⟩ ?_
  refine p_astore3 B dX3_daysTillIll_16 (by decide) (k := ?_)
  refine a_aload_n B dX3_daysTillIll_17 rfl ?_
  refine a_ifnonnull 23 B dX3_daysTillIll_18 (by decide) ?_
  refine a_aload_n B dX3_daysTillIll_23 rfl ?_
  refine a_getI B fl_X3_34 (by omega) (tcP 2 (by decide) p hp8) rfl dX3_daysTillIll_24 ?_
  rw [stB_at]
  refine p_istore4 B dX3_daysTillIll_27 (by decide) (k := ?_)
  refine a_iconst (v := 1) B dX3_daysTillIll_29 (by decide) ?_
  refine p_istore5 B dX3_daysTillIll_30 (by decide) (k := ?_)
  have hq : ∀ n, illQ dr p n = illQ (M 0) p n := fun n => by unfold illQ; rw [(hS.days hIr n).il (by rw [days_n hIr, hS.n]; exact hp), hS.il (by rw [hS.n]; exact hp)]
  have loop : ∀ n k, 201 ≤ k + n → k ≤ 200 → fstN (illQ (M 0) p) (k + 1) = none → AW Pp l Ee (rmK 4 (34 * 4)) Ss Mm Aa Bb Me Cc D (wl A cy 51 TC X) A0 6 0 0 (MQ Bb (QG D (wl A cy 51 TC X) A0 (rS (oI (fstN (illQ (M 0) p) 201)) M)) Aa Ss 0 0 A0) 32 [some (.ref (A 37)), some (.ref (A 1)), some (.int (nI p)), some (.ref (A (5 + 12 * 2 + p))), some (.int (dr (52 + p))), some (.int (nI (k + 1)))] [] (stB M 2 (daysF dr k)) := by
    intro n
    induction n with
    | zero => intro k h1 h2; omega
    | succ n ih =>
      intro k h1 h2 h3
      refine a_iload B dX3_daysTillIll_32 rfl ?_
      refine a_sipush (v := 200) B dX3_daysTillIll_34 (by decide) ?_
      refine a_icmp_gt 65 B dX3_daysTillIll_37 (by decide) (fun c37 => ?_) (fun c37 => ?_)
      · have e1 : k = 200 := by have := (nI_ltI (a := 200) (b := k + 1) (by omega) (by omega)).mp c37; omega
        subst e1
        refine a_iconst (v := (-1)) B dX3_daysTillIll_65 (by decide) ?_
        exact a_iret B hr hlk dX3_daysTillIll_66 ⟨by rw [h3]; rfl, _, hIr.vDays 200, rfl⟩
      have hlt0 : k + 1 ≤ 200 := Nat.le_of_not_lt (fun q => c37 ((nI_ltI (a := 200) (by omega) (by omega)).mpr q))
      refine a_aload_n B dX3_daysTillIll_40 rfl ?_
      refine a_getR B fl_X3_12 (by decide) rfl rfl dX3_daysTillIll_41 ?_
      refine a_callV0v B rfl cf_X0_passDay lk_X3_40 in_X0_passDay se_X0_passDay (wl_rc (p0 := 25) (by decide) rfl rfl rfl) (k_X0_passDay 2 (by decide) _ (by rw [stB_at]; exact hIr.vDays k)) dX3_daysTillIll_44 (Nat.le_of_ble_eq_true rfl) ⟨Nat.le_of_ble_eq_true rfl, Nat.le_of_ble_eq_true rfl⟩ ⟨rfl, rfl⟩ ?_
      rw [stB_at, stB_st]
      refine a_aload_n B dX3_daysTillIll_47 rfl ?_
      refine a_getI B fl_X3_34 (by omega) (tcP 2 (by decide) p hp8) rfl dX3_daysTillIll_48 ?_
      rw [stB_at]
      refine a_iload B dX3_daysTillIll_51 rfl ?_
      refine a_icmp_le 59 B dX3_daysTillIll_53 (by decide) (fun c53 => ?_) (fun c53 => ?_)
      · refine p_iinc5 1 B dX3_daysTillIll_59 (by decide) (by decide) (k := ?_)
        refine a_goto 32 B dX3_daysTillIll_62 (by decide) ?_
        rw [nI_1]
        exact ih (k + 1) (by omega) (by omega) (fst_no h3 ((hq (k + 1)).symm.trans (by unfold illQ; rw [decide_eq_false (show ¬ dr (52 + p) < daysF dr (k + 1) (52 + p) from Int32.not_lt.mpr c53)]; exact Bool.and_false _)))
      refine a_iload B dX3_daysTillIll_56 rfl ?_
      have e2 := fst_yes h3 ((hq (k + 1)).symm.trans (by unfold illQ; rw [decide_eq_true (show 1 ≤ k + 1 by omega), decide_eq_true (show dr (52 + p) < daysF dr (k + 1) (52 + p) from Int32.not_le.mp c53)]; rfl))
      exact a_iret B hr hlk dX3_daysTillIll_58 ⟨by rw [fst_up e2 201 (by omega)]; rfl, _, hIr.vDays (k + 1), rfl⟩
  exact loop 201 0 (by omega) (by omega) rfl
set_option maxRecDepth 20000 in
set_option maxHeartbeats 4000000 in
theorem k_X3_staysQuiet (M : Mem) (hI2 : Inv (M 2)) (t : Nat) (ht : t < 100000) : CC l sk D cy A X mX3_staysQuiet 4 [.ref (A 37), .int (nI t)] M (rS (bI (qui (M 2) t)) M) := by
  refine Con.of (lo := [some (.ref (A 37)), some (.int (nI t)), none, none]) cf_X3_staysQuiet (fun _ _ => wl_fst) 2 rfl (Nat.le_of_ble_eq_true rfl) (fun Pp Ee Ss Mm Aa Bb Me Cc A0 B hr hlk => ?_)
  have B : BS sk D cy (wl A cy 51 TC X) A0 Pp Ss Mm Aa Cc RX3 cX3_staysQuiet 4 := B
  have loop : ∀ n k, t + 1 ≤ k + n → k ≤ t → daysF (M 2) k 4 = M 2 4 → AW Pp l Ee (rmK 4 (34 * 4)) Ss Mm Aa Bb Me Cc D (wl A cy 51 TC X) A0 4 0 0 (MQ Bb (QG D (wl A cy 51 TC X) A0 (rS (bI (qui (M 2) t)) M)) Aa Ss 0 0 A0) 10 [some (.ref (A 37)), some (.int (nI t)), some (.int (M 2 4)), some (.int (nI k))] [] (stB M 2 (daysF (M 2) k)) := by
    intro n
    induction n with
    | zero => intro k h1 h2; omega
    | succ n ih =>
      intro k h1 h2 h3
      refine a_iload_n B dX3_staysQuiet_10 rfl ?_
      refine a_iload_n B dX3_staysQuiet_11 rfl ?_
      refine a_icmp_ge 41 B dX3_staysQuiet_12 (by decide) (fun c12 => ?_) (fun c12 => ?_)
      · have e1 : k = t := by have := ge_n c12 rfl rfl (by omega) (by omega); omega
        subst e1
        refine a_iconst (v := 1) B dX3_staysQuiet_41 (by decide) ?_
        exact a_zret B hr hlk rfl dX3_staysQuiet_42 ⟨by unfold qui; rw [decide_eq_true h3]; rfl, _, hI2.vDays k, rfl⟩
      have hlt0 := lt_n c12 rfl rfl (by omega) (by omega)
      refine a_aload_n B dX3_staysQuiet_15 rfl ?_
      refine a_getR B fl_X3_12 (by decide) rfl rfl dX3_staysQuiet_16 ?_
      refine a_callV0v B rfl cf_X0_passDay lk_X3_40 in_X0_passDay se_X0_passDay (wl_rc (p0 := 25) (by decide) rfl rfl rfl) (k_X0_passDay 2 (by decide) _ (by rw [stB_at]; exact hI2.vDays k)) dX3_staysQuiet_19 (Nat.le_of_ble_eq_true rfl) ⟨Nat.le_of_ble_eq_true rfl, Nat.le_of_ble_eq_true rfl⟩ ⟨rfl, rfl⟩ ?_
      rw [stB_at, stB_st]
      refine a_aload_n B dX3_staysQuiet_22 rfl ?_
      refine a_getR B fl_X3_12 (by decide) rfl rfl dX3_staysQuiet_23 ?_
      refine a_getI B fl_X3_43 (by decide) rfl rfl dX3_staysQuiet_26 ?_
      rw [stB_at]
      refine a_iload_n B dX3_staysQuiet_29 rfl ?_
      refine a_icmp_eq 35 B dX3_staysQuiet_30 (by decide) (fun c30 => ?_) (fun c30 => ?_)
      · refine p_iinc3 1 B dX3_staysQuiet_35 (by decide) (by decide) (k := ?_)
        refine a_goto 10 B dX3_staysQuiet_38 (by decide) ?_
        rw [nI_1]
        exact ih (k + 1) (by omega) (by omega) c30
      refine a_iconst (v := 0) B dX3_staysQuiet_33 (by decide) ?_
      exact a_zret B hr hlk rfl dX3_staysQuiet_34 ⟨by rw [qui_no hI2 (k := k + 1) (by omega) c30]; rfl, _, hI2.vDays (k + 1), rfl⟩
  refine a_aload_n B dX3_staysQuiet_0 rfl ?_
  refine a_getR B fl_X3_12 (by decide) rfl rfl dX3_staysQuiet_1 ?_
  refine a_getI B fl_X3_43 (by decide) rfl rfl dX3_staysQuiet_4 ?_
  refine p_istore2 B dX3_staysQuiet_7 (by decide) (k := ?_)
  refine a_iconst (v := 0) B dX3_staysQuiet_8 (by decide) ?_
  refine p_istore3 B dX3_staysQuiet_9 (by decide) (k := ?_)
  refine a_mem (stB_id (b := 2)).symm ?_
  exact loop (t + 1) 0 (by omega) (by omega) rfl
set_option maxRecDepth 20000 in
set_option maxHeartbeats 4000000 in
theorem k_X3_leastQuietWater (M : Mem) (hI0 : Inv (M 0)) (hI2 : Inv (M 2)) (t : Nat) (ht : t < 100000) : CC l sk D cy A X mX3_leastQuietWater 5 [.ref (A 37), .ref (A 1), .int (nI t)] M (rS (oI (fstN (watQ (M 0) t) 10)) M) := by
  refine Con.of (lo := [some (.ref (A 37)), some (.ref (A 1)), some (.int (nI t)), none]) cf_X3_leastQuietWater (fun _ _ => wl_fst) 1 rfl (Nat.le_of_ble_eq_true rfl) (fun Pp Ee Ss Mm Aa Bb Me Cc A0 B hr hlk => ?_)
  have B : BS sk D cy (wl A cy 51 TC X) A0 Pp Ss Mm Aa Cc RX3 cX3_leastQuietWater 4 := B
  have loop : ∀ n k, 11 ≤ k + n → k ≤ 10 → fstN (watQ (M 0) t) k = none → ∀ d2, Inv d2 → AW Pp l Ee (rmK 5 (34 * 5)) Ss Mm Aa Bb Me Cc D (wl A cy 51 TC X) A0 4 0 0 (MQ Bb (QG D (wl A cy 51 TC X) A0 (rS (oI (fstN (watQ (M 0) t) 10)) M)) Aa Ss 0 0 A0) 2 [some (.ref (A 37)), some (.ref (A 1)), some (.int (nI t)), some (.int (nI k))] [] (stB M 2 d2) := by
    intro n
    induction n with
    | zero => intro k h1 h2; omega
    | succ n ih =>
      intro k h1 h2 h3 d2 hId
      refine a_iload_n B dX3_leastQuietWater_2 rfl ?_
      refine a_bipush (v := 9) B dX3_leastQuietWater_3 (by decide) ?_
      refine a_icmp_gt 40 B dX3_leastQuietWater_5 (by decide) (fun c5 => ?_) (fun c5 => ?_)
      · have e1 : k = 10 := by have := (nI_ltI (a := 9) (b := k) (by omega) (by omega)).mp c5; omega
        subst e1
        refine a_iconst (v := (-1)) B dX3_leastQuietWater_40 (by decide) ?_
        exact a_iret B hr hlk dX3_leastQuietWater_41 ⟨by rw [h3]; rfl, _, hId, rfl⟩
      have hlt0 : k ≤ 9 := Nat.le_of_not_lt (fun q => c5 ((nI_ltI (a := 9) (by omega) (by omega)).mpr q))
      refine a_aload_n B dX3_leastQuietWater_8 rfl ?_
      refine a_getR B fl_X3_12 (by decide) rfl rfl dX3_leastQuietWater_9 ?_
      refine a_aload_n B dX3_leastQuietWater_12 rfl ?_
      refine a_callV1v B rfl cf_X0_becomeLike lk_X3_18 in_X0_becomeLike se_X0_becomeLike (wl_rc (p0 := 25) (by decide) rfl rfl rfl) (k_X0_becomeLike 2 0 (by decide) (by decide) (by decide) _ (by rw [stB_ne (show (0 : Nat) ≠ 2 by decide)]; exact hI0)) dX3_leastQuietWater_13 (Nat.le_of_ble_eq_true rfl) ⟨Nat.le_of_ble_eq_true rfl, Nat.le_of_ble_eq_true rfl⟩ ⟨rfl, rfl⟩ ?_
      rw [stB_at, stB_ne (show (0 : Nat) ≠ 2 by decide), stB_st]
      have hS := Sim.like (d := d2) hI0
      have hIr : Inv (likeF d2 (M 0)) := hId.like hI0 _
      generalize likeF d2 (M 0) = dr at hS hIr ⊢
      refine a_aload_n B dX3_leastQuietWater_16 rfl ?_
      refine a_getR B fl_X3_12 (by decide) rfl rfl dX3_leastQuietWater_17 ?_
      refine a_iload_n B dX3_leastQuietWater_20 rfl ?_
      refine a_putI B twC fl_X3_76 fp_0_1 (by decide) rfl rfl dX3_leastQuietWater_21 ?_
      rw [upB_stB]
      have hIw := hIr.wat hlt0
      have hq : qui (upd dr 3 (nI k)) t = watQ (M 0) t k := (hS.up (j := 3) (by omega) rfl).qui hIw
      refine a_aload_n B dX3_leastQuietWater_24 rfl ?_
      refine a_iload_n B dX3_leastQuietWater_25 rfl ?_
      refine a_callV1p B rfl cf_X3_staysQuiet lk_X3_79 in_X3_staysQuiet se_X3_staysQuiet (wl_rc (p0 := 37) (by decide) rfl rfl rfl) (k_X3_staysQuiet _ (by rw [stB_at]; exact hIw) t ht) dX3_leastQuietWater_26 (Nat.le_of_ble_eq_true rfl) ⟨Nat.le_of_ble_eq_true rfl, Nat.le_of_ble_eq_true rfl⟩ ⟨rfl, rfl⟩ ?_
      rintro _ _ ⟨rfl, dq, hIq, rfl⟩
      rw [stB_at, stB_st]
      show AW Pp l Ee _ Ss Mm Aa Bb Me Cc D _ A0 _ 0 0 _ _ _ (_ :: _) _
      refine a_if_eq 34 B dX3_leastQuietWater_29 (by decide) (fun c29 => ?_) (fun c29 => ?_)
      · refine p_iinc3 1 B dX3_leastQuietWater_34 (by decide) (by decide) (k := ?_)
        refine a_goto 2 B dX3_leastQuietWater_37 (by decide) ?_
        rw [nI_1]
        exact ih (k + 1) (by omega) (by omega) (fst_no h3 (hq.symm.trans (bI_eq0.mp c29))) _ hIq
      refine a_iload_n B dX3_leastQuietWater_32 rfl ?_
      exact a_iret B hr hlk dX3_leastQuietWater_33 ⟨by rw [fst_up (fst_yes h3 (hq.symm.trans (by cases hb : qui (upd dr 3 (nI k)) t with | true => rfl | false => exact absurd (by rw [hb]; rfl) c29))) 10 (by omega)]; rfl, _, hIq, rfl⟩
  refine a_iconst (v := 0) B dX3_leastQuietWater_0 (by decide) ?_
  refine p_istore3 B dX3_leastQuietWater_1 (by decide) (k := ?_)
  refine a_mem (stB_id (b := 2)).symm ?_
  exact loop 11 0 (by omega) (by omega) rfl _ hI2
end C5
