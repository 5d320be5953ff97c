
section C7
def tlS (M : Mem) (t : Nat) (j : Nat) : Int32 := M (7 + t) (2 + j)
def szOk (M : Mem) (t : Nat) : Prop := ∃ sz, sz ≤ 40 ∧ M (7 + t) 1 = nI sz
def szN (M : Mem) (t : Nat) : Nat := (M (7 + t) 1).toNatClampNeg
theorem szOk.e {M : Mem} {t : Nat} (h : szOk M t) : szN M t ≤ 40 ∧ M (7 + t) 1 = nI (szN M t) := by
  obtain ⟨sz, h1, h2⟩ := h
  unfold szN
  rw [h2, nI_clamp (by omega)]
  exact ⟨h1, rfl⟩
theorem le0_n {k : Nat} (hk : k < 2 ^ 31) (h : nI k ≤ 0) : k = 0 := by
  have := (nI_leI (b := 0) hk (by omega)).mp h
  omega
theorem gt0_n {k : Nat} (hk : k < 2 ^ 31) (h : ¬ nI k ≤ 0) : 0 < k := by
  rcases Nat.eq_zero_or_pos k with e | e
  · subst e; exact absurd (show nI 0 ≤ 0 by decide) h
  · exact e
theorem fit_q {d dr : Dm} {p k sz : Nat} {tl : Nat → Int32} (hS : Sim dr d) (hI : Inv dr) (hp : p < nOf d) (hk : k ≤ 40) : allN (asT (worD dr (todN d) k) p tl) sz = fitQ d p tl sz k := by
  have ht := hI.tod.1
  rw [hS.tod] at ht
  unfold fitQ fitD
  exact all_cong sz (fun j _ => (hS.wor (k := k) ht).asT (hI.wor ht hk) (by rw [show nOf (worD dr (todN d) k) = nOf dr from nOf_upd (by omega), hS.n]; exact hp))
theorem kn_q {d dr : Dm} {p k sz : Nat} {tl : Nat → Int32} (hS : Sim dr d) (hI : Inv dr) (hp : p < nOf d) (hp8 : p < 8) (hk : k < 7) : allN (asT (kinD dr p k) p tl) sz = knQ d p tl sz k := by
  unfold knQ
  exact all_cong sz (fun j _ => (hS.kin (p := p) (k := k)).asT (hI.kin hp8 hk) (by rw [show nOf (kinD dr p k) = nOf dr from nOf_upd (by omega), hS.n]; exact hp))

variable {l : Launch} {sk : (Nat → Nat) × (Nat → Nat)} {D : va_G} {cy : Nat → ClassId} {A : Nat → Nat} {X : va_W}
set_option maxRecDepth 20000 in
set_option maxHeartbeats 4000000 in
theorem k_X3_dreamsAsTold (M : Mem) (hI2 : Inv (M 2)) (p t : Nat) (hp : p < nOf (M 2)) (ht : t < 4) (hz : szOk M t) : CC l sk D cy A X mX3_dreamsAsTold 4 [.ref (A 37), .int (nI p), .ref (A (43 + 2 * t))] M (rS (bI (allN (asT (M 2) p (tlS M t)) (szN M t))) M) := by
  refine Con.of (lo := [some (.ref (A 37)), some (.int (nI p)), some (.ref (A (43 + 2 * t))), none, none, none]) cf_X3_dreamsAsTold (fun _ _ => wl_fst) 3 rfl (Nat.le_of_ble_eq_true rfl) (fun Pp Ee Ss Mm Aa Bb Me Cc A0 B hr hlk => ?_)
  have B : BS sk D cy (wl A cy 51 TC X) A0 Pp Ss Mm Aa Cc RX3 cX3_dreamsAsTold 6 := B
  obtain ⟨N, hN, eN, eNo⟩ := hI2.n
  have hp8 : p < 8 := by omega
  have hlt : nI p < M 2 0 := nI_ltN eN (by omega) (by omega)
  obtain ⟨hz1, hz2⟩ := hz.e
  generalize hsz : szN M t = sz at hz1 hz2 ⊢
  have hnb : ∀ d, stB M 2 d (7 + t) = M (7 + t) := fun d => stB_ne (by omega)
  have mid : ∀ k, k < sz → allN (asT (M 2) p (tlS M t)) k = true → (allN (asT (M 2) p (tlS M t)) (k + 1) = true → ∀ o5 : Option Value, AW Pp l Ee (rmK 4 (34 * 4)) Ss Mm Aa Bb Me Cc D (wl A cy 51 TC X) A0 6 0 0 (MQ Bb (QG D (wl A cy 51 TC X) A0 (rS (bI (allN (asT (M 2) p (tlS M t)) sz)) M)) Aa Ss 0 0 A0) 12 [some (.ref (A 37)), some (.int (nI p)), some (.ref (A (43 + 2 * t))), some (.ref (A (5 + 12 * 2 + p))), some (.int (nI (k + 1))), o5] [] (stB M 2 (daysF (M 2) k))) → ∀ o5 : Option Value, AW Pp l Ee (rmK 4 (34 * 4)) Ss Mm Aa Bb Me Cc D (wl A cy 51 TC X) A0 6 0 0 (MQ Bb (QG D (wl A cy 51 TC X) A0 (rS (bI (allN (asT (M 2) p (tlS M t)) sz)) M)) Aa Ss 0 0 A0) 41 [some (.ref (A 37)), some (.int (nI p)), some (.ref (A (43 + 2 * t))), some (.ref (A (5 + 12 * 2 + p))), some (.int (nI k)), o5] [] (stB M 2 (daysF (M 2) k)) := by
    intro k hk h3 hnext o5
    refine a_aload_n B dX3_dreamsAsTold_41 rfl ?_
    refine a_getR B fl_X3_101 (by omega) (tcT t ht) rfl dX3_dreamsAsTold_42 ?_
    refine a_iload B dX3_dreamsAsTold_45 rfl ?_
    refine a_iald k B (by omega) (tcN t ht) rfl (by omega) (by decide) dX3_dreamsAsTold_47 ?_
    rw [hnb]
    refine p_istore5 B dX3_dreamsAsTold_48 (by decide) (k := ?_)
    refine a_iload B dX3_dreamsAsTold_50 rfl ?_
    refine a_iconst (v := (-1)) B dX3_dreamsAsTold_52 (by decide) ?_
    refine a_icmp_eq 67 B dX3_dreamsAsTold_53 (by decide) (fun c53 => ?_) (fun c53 => ?_)
    · refine p_iinc4 1 B dX3_dreamsAsTold_67 (by decide) (by decide) (k := ?_)
      refine a_goto 12 B dX3_dreamsAsTold_70 (by decide) ?_
      rw [nI_1]
      refine hnext ?_ _
      rw [allN, h3]
      unfold asT tlS
      rw [decide_eq_true c53]
      rfl
    refine a_iload B dX3_dreamsAsTold_56 rfl ?_
    refine a_aload_n B dX3_dreamsAsTold_58 rfl ?_
    refine a_getI B fl_X3_55 (by omega) (tcP 2 (by decide) p hp8) rfl dX3_dreamsAsTold_59 ?_
    rw [stB_at]
    refine a_icmp_eq 67 B dX3_dreamsAsTold_62 (by decide) (fun c62 => ?_) (fun c62 => ?_)
    · refine p_iinc4 1 B dX3_dreamsAsTold_67 (by decide) (by decide) (k := ?_)
      refine a_goto 12 B dX3_dreamsAsTold_70 (by decide) ?_
      rw [nI_1]
      refine hnext ?_ _
      rw [allN, h3]
      unfold asT tlS
      rw [decide_eq_true c62]
      exact Bool.or_true _
    refine a_iconst (v := 0) B dX3_dreamsAsTold_65 (by decide) ?_
    have e9 : (asT (M 2) p (tlS M t)) k = false := by unfold asT tlS; rw [decide_eq_false c53, decide_eq_false c62]; rfl
    exact a_zret B hr hlk rfl dX3_dreamsAsTold_66 ⟨by rw [all_no e9 sz hk]; rfl, _, hI2.vDays k, rfl⟩
  have loop : ∀ n k, sz + 1 ≤ k + n → k ≤ sz → allN (asT (M 2) p (tlS M t)) k = true → ∀ o5 : Option Value, AW Pp l Ee (rmK 4 (34 * 4)) Ss Mm Aa Bb Me Cc D (wl A cy 51 TC X) A0 6 0 0 (MQ Bb (QG D (wl A cy 51 TC X) A0 (rS (bI (allN (asT (M 2) p (tlS M t)) sz)) M)) Aa Ss 0 0 A0) 12 [some (.ref (A 37)), some (.int (nI p)), some (.ref (A (43 + 2 * t))), some (.ref (A (5 + 12 * 2 + p))), some (.int (nI k)), o5] [] (stB M 2 (daysF (M 2) (k - 1))) := by
    intro n
    induction n with
    | zero => intro k h1 h2; omega
    | succ n ih =>
      intro k h1 h2 h3 o5
      refine a_aload_n B dX3_dreamsAsTold_12 rfl ?_
      refine a_ifnull B dX3_dreamsAsTold_13 ?_
      refine a_aload_n B dX3_dreamsAsTold_16 rfl ?_
      refine a_ifnull B dX3_dreamsAsTold_17 ?_
      refine a_iload B dX3_dreamsAsTold_20 rfl ?_
      refine a_aload_n B dX3_dreamsAsTold_22 rfl ?_
      refine a_getI B fl_X3_96 (by omega) (tcT t ht) rfl dX3_dreamsAsTold_23 ?_
      rw [hnb, hz2]
      refine a_icmp_ge 73 B dX3_dreamsAsTold_26 (by decide) (fun c26 => ?_) (fun c26 => ?_)
      · have e1 : k = sz := by have := ge_n c26 rfl rfl (by omega) (by omega); omega
        subst e1
        refine a_iconst (v := 1) B dX3_dreamsAsTold_73 (by decide) ?_
        exact a_zret B hr hlk rfl dX3_dreamsAsTold_74 ⟨by rw [h3]; rfl, _, hI2.vDays (k - 1), rfl⟩
      have hlt0 := lt_n c26 rfl rfl (by omega) (by omega)
      refine a_iload B dX3_dreamsAsTold_29 rfl ?_
      refine a_if_le 41 B dX3_dreamsAsTold_31 (by decide) (fun c31 => ?_) (fun c31 => ?_)
      · have e1 := le0_n (by omega) c31
        subst e1
        exact mid _ hlt0 h3 (fun h4 o6 => ih _ (by omega) (by omega) h4 o6) _
      refine a_aload_n B dX3_dreamsAsTold_34 rfl ?_
      refine a_getR B fl_X3_12 (by decide) rfl rfl dX3_dreamsAsTold_35 ?_
      refine a_callV0v B rfl cf_X0_passDay lk_X3_40 in_X0_passDay se_X0_passDay (wl_rc (p0 := 25) (by decide) rfl rfl rfl) (k_X0_passDay 2 (by decide) _ (by rw [stB_at]; exact hI2.vDays (k - 1))) dX3_dreamsAsTold_38 (Nat.le_of_ble_eq_true rfl) ⟨Nat.le_of_ble_eq_true rfl, Nat.le_of_ble_eq_true rfl⟩ ⟨rfl, rfl⟩ ?_
      rw [stB_at, stB_st]
      have e1 := gt0_n (by omega) c31
      have e2 : dayF (daysF (M 2) (k - 1)) = daysF (M 2) k := by rw [show k = (k - 1) + 1 by omega]; rfl
      rw [e2]
      exact mid _ hlt0 h3 (fun h4 o6 => ih _ (by omega) (by omega) h4 o6) _
  refine a_aload_n B dX3_dreamsAsTold_0 rfl ?_
  refine a_getR B fl_X3_12 (by decide) rfl rfl dX3_dreamsAsTold_1 ?_
  refine a_iload_n B dX3_dreamsAsTold_4 rfl ?_
  refine a_callV1r B rfl cf_X0_at lk_X3_26 in_X0_at se_X0_at (wl_rc (p0 := 25) (by decide) rfl rfl rfl) (k_X0_at 2 p (by decide) hp8 _ hlt) dX3_dreamsAsTold_5 (Nat.le_of_ble_eq_true rfl) ⟨Nat.le_of_ble_eq_true rfl, Nat.le_of_ble_eq_true rfl⟩ ⟨rfl, rfl⟩ ?_
  refine p_astore3 B dX3_dreamsAsTold_8 (by decide) (k := ?_)
  refine a_iconst (v := 0) B dX3_dreamsAsTold_9 (by decide) ?_
  refine p_istore4 B dX3_dreamsAsTold_10 (by decide) (k := ?_)
  refine a_mem (stB_id (b := 2)).symm ?_
  exact loop (sz + 1) 0 (by omega) (by omega) rfl _
set_option maxRecDepth 20000 in
set_option maxHeartbeats 4000000 in
theorem k_X3_fittingKinds (M : Mem) (hI0 : Inv (M 0)) (hI2 : Inv (M 2)) (p : Nat) (hp : p < nOf (M 0)) (t : Nat) (ht : t < 4) (hz : szOk M t)  : CC l sk D cy A X mX3_fittingKinds 5 [.ref (A 37), .ref (A 1), .int (nI p), .ref (A (43 + 2 * t))] M (rS (mskI (knQ (M 0) p (tlS M t) (szN M t)) 7) M) := by
  refine Con.of (lo := [some (.ref (A 37)), some (.ref (A 1)), some (.int (nI p)), some (.ref (A (43 + 2 * t))), none, none, none]) cf_X3_fittingKinds (fun _ _ => wl_fst) 3 rfl (Nat.le_of_ble_eq_true rfl) (fun Pp Ee Ss Mm Aa Bb Me Cc A0 B hr hlk => ?_)
  have B : BS sk D cy (wl A cy 51 TC X) A0 Pp Ss Mm Aa Cc RX3 cX3_fittingKinds 7 := B
  obtain ⟨N, hN, eN, eNo⟩ := hI0.n
  have hp8 : p < 8 := by omega
  have hlt : nI p < M 0 0 := nI_ltN eN (by omega) (by omega)
  have hnb : ∀ d, stB M 2 d (7 + t) = M (7 + t) := fun d => stB_ne (by omega)
  have hszn : ∀ d, szN (stB M 2 d) t = szN M t := fun d => by unfold szN; rw [hnb]
  have htls : ∀ d, tlS (stB M 2 d) t = tlS M t := fun d => by funext j; unfold tlS; rw [hnb]
  have hzs : ∀ d, szOk (stB M 2 d) t := fun d => by unfold szOk; rw [hnb]; exact hz
  have loop : ∀ n k, 8 ≤ k + n → k ≤ 7 → ∀ d2, Inv d2 → ∀ o6 : Option Value, AW Pp l Ee (rmK 5 (34 * 5)) Ss Mm Aa Bb Me Cc D (wl A cy 51 TC X) A0 7 0 0 (MQ Bb (QG D (wl A cy 51 TC X) A0 (rS (mskI (knQ (M 0) p (tlS M t) (szN M t)) 7) M)) Aa Ss 0 0 A0) 6 [some (.ref (A 37)), some (.ref (A 1)), some (.int (nI p)), some (.ref (A (43 + 2 * t))), some (.int (mskI (knQ (M 0) p (tlS M t) (szN M t)) k)), some (.int (nI k)), o6] [] (stB M 2 d2) := by
    intro n
    induction n with
    | zero => intro k h1 h2; omega
    | succ n ih =>
      intro k h1 h2 d2 hId o6
      refine a_iload B dX3_fittingKinds_6 rfl ?_
      refine a_bipush (v := 7) B dX3_fittingKinds_8 (by decide) ?_
      refine a_icmp_ge 67 B dX3_fittingKinds_10 (by decide) (fun c10 => ?_) (fun c10 => ?_)
      · have e1 : k = 7 := by have := ge_n (b := 7) c10 rfl rfl (by omega) (by omega); omega
        subst e1
        refine a_iload B dX3_fittingKinds_67 rfl ?_
        exact a_iret B hr hlk dX3_fittingKinds_69 ⟨rfl, _, hId, rfl⟩
      have hlt0 := lt_n (b := 7) c10 rfl rfl (by omega) (by omega)
      refine a_aload_n B dX3_fittingKinds_13 rfl ?_
      refine a_getR B fl_X3_12 (by decide) rfl rfl dX3_fittingKinds_14 ?_
      refine a_aload_n B dX3_fittingKinds_17 rfl ?_
      refine a_callV1v B rfl cf_X0_becomeLike lk_X3_18 in_X0_becomeLike se_X0_becomeLike (wl_rc (p0 := 25) (by decide) rfl rfl rfl) (k_X0_becomeLike 2 0 (by decide) (by decide) (by decide) _ (by rw [stB_ne (show (0 : Nat) ≠ 2 by decide)]; exact hI0)) dX3_fittingKinds_18 (Nat.le_of_ble_eq_true rfl) ⟨Nat.le_of_ble_eq_true rfl, Nat.le_of_ble_eq_true rfl⟩ ⟨rfl, rfl⟩ ?_
      rw [stB_at, stB_ne (show (0 : Nat) ≠ 2 by decide), stB_st]
      have hS := Sim.like (d := d2) hI0
      have hIr : Inv (likeF d2 (M 0)) := hId.like hI0 _
      generalize likeF d2 (M 0) = dr at hS hIr ⊢
      refine a_aload_n B dX3_fittingKinds_21 rfl ?_
      refine a_getR B fl_X3_12 (by decide) rfl rfl dX3_fittingKinds_22 ?_
      refine a_iload_n B dX3_fittingKinds_25 rfl ?_
      refine a_callV1r B rfl cf_X0_at lk_X3_26 in_X0_at se_X0_at (wl_rc (p0 := 25) (by decide) rfl rfl rfl) (k_X0_at 2 p (by decide) hp8 _ (by rw [stB_at, hS.1 0 (by omega)]; exact hlt)) dX3_fittingKinds_26 (Nat.le_of_ble_eq_true rfl) ⟨Nat.le_of_ble_eq_true rfl, Nat.le_of_ble_eq_true rfl⟩ ⟨rfl, rfl⟩ ?_
      refine p_astore6 B dX3_fittingKinds_29 (by decide) (k := ?_)
      refine a_aload B dX3_fittingKinds_31 rfl ?_
      refine a_ifnull B dX3_fittingKinds_33 ?_
      refine a_aload B dX3_fittingKinds_36 rfl ?_
      refine a_iload B dX3_fittingKinds_38 rfl ?_
      refine a_putI B twC fl_X3_87 fp_1_0 (by omega) (tcP 2 (by decide) p hp8) rfl dX3_fittingKinds_40 ?_
      rw [upB_stB]
      have hIw := hIr.kin (k := k) hp8 (by omega)
      change AW Pp l Ee _ Ss Mm Aa Bb Me Cc D _ A0 _ 0 0 _ _ _ _ (stB M 2 (kinD dr p k))
      have hq := kn_q (tl := tlS M t) (sz := szN M t) (k := k) hS hIr hp hp8 (by omega)
      have hpw : p < nOf ((stB M 2 (kinD dr p k)) 2) := by rw [stB_at, show nOf (kinD dr p k) = nOf dr from nOf_upd (by omega), hS.n]; exact hp
      have hszw := hszn (kinD dr p k)
      have htl := htls (kinD dr p k)
      have hzw := hzs (kinD dr p k)
      refine a_aload_n B dX3_fittingKinds_43 rfl ?_
      refine a_iload_n B dX3_fittingKinds_44 rfl ?_
      refine a_aload_n B dX3_fittingKinds_45 rfl ?_
      refine a_callV2p B rfl cf_X3_dreamsAsTold lk_X3_108 in_X3_dreamsAsTold se_X3_dreamsAsTold (wl_rc (p0 := 37) (by decide) rfl rfl rfl) (k_X3_dreamsAsTold _ (by rw [stB_at]; exact hIw) p t hpw ht hzw) dX3_fittingKinds_46 (Nat.le_of_ble_eq_true rfl) ⟨Nat.le_of_ble_eq_true rfl, Nat.le_of_ble_eq_true rfl⟩ ⟨rfl, rfl⟩ ?_
      rintro _ _ ⟨rfl, dq, hIq, rfl⟩
      rw [stB_at, stB_st, hszw, htl, hq]
      show AW Pp l Ee _ Ss Mm Aa Bb Me Cc D _ A0 _ 0 0 _ _ _ (_ :: _) _
      refine a_if_eq 61 B dX3_fittingKinds_49 (by decide) (fun c49 => ?_) (fun c49 => ?_)
      · refine p_iinc5 1 B dX3_fittingKinds_61 (by decide) (by decide) (k := ?_)
        refine a_goto 6 B dX3_fittingKinds_64 (by decide) ?_
        have e2 : mskI (knQ (M 0) p (tlS M t) (szN M t)) (k + 1) = mskI (knQ (M 0) p (tlS M t) (szN M t)) k := by rw [mskI, if_neg (by rw [bI_eq0.mp c49]; decide)]
        have h9 := ih (k + 1) (by omega) (by omega) _ hIq
        rw [e2] at h9
        rw [nI_1]
        exact h9 _
      refine a_iload B dX3_fittingKinds_52 rfl ?_
      refine a_iconst (v := 1) B dX3_fittingKinds_54 (by decide) ?_
      refine a_iload B dX3_fittingKinds_55 rfl ?_
      refine a_ishl B dX3_fittingKinds_57 ?_
      refine a_ior B dX3_fittingKinds_58 ?_
      refine p_istore4 B dX3_fittingKinds_59 (by decide) (k := ?_)
      refine p_iinc5 1 B dX3_fittingKinds_61 (by decide) (by decide) (k := ?_)
      refine a_goto 6 B dX3_fittingKinds_64 (by decide) ?_
      have e2 : mskI (knQ (M 0) p (tlS M t) (szN M t)) (k + 1) = mskI (knQ (M 0) p (tlS M t) (szN M t)) k ||| (1 : Int32) <<< (nI k &&& 31) := by rw [mskI, if_pos]; (cases hb : (knQ (M 0) p (tlS M t) (szN M t)) k with | true => rfl | false => exact absurd (by rw [hb]; rfl) c49)
      have h9 := ih (k + 1) (by omega) (by omega) _ hIq
      rw [e2] at h9
      rw [nI_1]
      exact h9 _
  refine a_iconst (v := 0) B dX3_fittingKinds_0 (by decide) ?_
  refine p_istore4 B dX3_fittingKinds_1 (by decide) (k := ?_)
  refine a_iconst (v := 0) B dX3_fittingKinds_3 (by decide) ?_
  refine p_istore5 B dX3_fittingKinds_4 (by decide) (k := ?_)
  refine a_mem (stB_id (b := 2)).symm ?_
  exact loop 8 0 (by omega) (by omega) _ hI2 _
set_option maxRecDepth 20000 in
set_option maxHeartbeats 4000000 in
theorem k_X3_fittingWords (M : Mem) (hI0 : Inv (M 0)) (hI2 : Inv (M 2)) (p : Nat) (hp : p < nOf (M 0)) (t : Nat) (ht : t < 4) (hz : szOk M t)  : CC l sk D cy A X mX3_fittingWords 5 [.ref (A 37), .ref (A 1), .int (nI p), .ref (A (43 + 2 * t))] M (rSL (mskL (fitQ (M 0) p (tlS M t) (szN M t)) 41) M) := by
  refine Con.of (lo := [some (.ref (A 37)), some (.ref (A 1)), some (.int (nI p)), some (.ref (A (43 + 2 * t))), none, none, none, none, none]) cf_X3_fittingWords (fun _ _ => wl_fst) 5 rfl (Nat.le_of_ble_eq_true rfl) (fun Pp Ee Ss Mm Aa Bb Me Cc A0 B hr hlk => ?_)
  have B : BS sk D cy (wl A cy 51 TC X) A0 Pp Ss Mm Aa Cc RX3 cX3_fittingWords 9 := B
  obtain ⟨N, hN, eN, eNo⟩ := hI0.n
  have hp8 : p < 8 := by omega
  have hlt : nI p < M 0 0 := nI_ltN eN (by omega) (by omega)
  have hnb : ∀ d, stB M 2 d (7 + t) = M (7 + t) := fun d => stB_ne (by omega)
  have hszn : ∀ d, szN (stB M 2 d) t = szN M t := fun d => by unfold szN; rw [hnb]
  have htls : ∀ d, tlS (stB M 2 d) t = tlS M t := fun d => by funext j; unfold tlS; rw [hnb]
  have hzs : ∀ d, szOk (stB M 2 d) t := fun d => by unfold szOk; rw [hnb]; exact hz
  have htd := hI0.tod.1
  have loop : ∀ n k, 42 ≤ k + n → k ≤ 41 → ∀ d2, Inv d2 → AW Pp l Ee (rmK 5 (34 * 5)) Ss Mm Aa Bb Me Cc D (wl A cy 51 TC X) A0 9 0 0 (MQ Bb (QG D (wl A cy 51 TC X) A0 (rSL (mskL (fitQ (M 0) p (tlS M t) (szN M t)) 41) M)) Aa Ss 0 0 A0) 24 [some (.ref (A 37)), some (.ref (A 1)), some (.int (nI p)), some (.ref (A (43 + 2 * t))), some (.long (mskL (fitQ (M 0) p (tlS M t) (szN M t)) k)), none, some (.int (nI (todN (M 0)))), some (.int (M 0 (6 + todN (M 0)) / 100)), some (.int (nI k))] [] (stB M 2 d2) := by
    intro n
    induction n with
    | zero => intro k h1 h2; omega
    | succ n ih =>
      intro k h1 h2 d2 hId
      refine a_iload B dX3_fittingWords_24 rfl ?_
      refine a_bipush (v := 40) B dX3_fittingWords_26 (by decide) ?_
      refine a_icmp_gt 80 B dX3_fittingWords_28 (by decide) (fun c28 => ?_) (fun c28 => ?_)
      · have e1 : k = 41 := by have := (nI_ltI (a := 40) (b := k) (by omega) (by omega)).mp c28; omega
        subst e1
        refine a_lload B dX3_fittingWords_80 rfl ?_
        exact a_lret B hr hlk dX3_fittingWords_82 ⟨rfl, _, hId, rfl⟩
      have hlt0 : k ≤ 40 := Nat.le_of_not_lt (fun q => c28 ((nI_ltI (a := 40) (by omega) (by omega)).mpr q))
      refine a_aload_n B dX3_fittingWords_31 rfl ?_
      refine a_getR B fl_X3_12 (by decide) rfl rfl dX3_fittingWords_32 ?_
      refine a_aload_n B dX3_fittingWords_35 rfl ?_
      refine a_callV1v B rfl cf_X0_becomeLike lk_X3_18 in_X0_becomeLike se_X0_becomeLike (wl_rc (p0 := 25) (by decide) rfl rfl rfl) (k_X0_becomeLike 2 0 (by decide) (by decide) (by decide) _ (by rw [stB_ne (show (0 : Nat) ≠ 2 by decide)]; exact hI0)) dX3_fittingWords_36 (Nat.le_of_ble_eq_true rfl) ⟨Nat.le_of_ble_eq_true rfl, Nat.le_of_ble_eq_true rfl⟩ ⟨rfl, rfl⟩ ?_
      rw [stB_at, stB_ne (show (0 : Nat) ≠ 2 by decide), stB_st]
      have hS := Sim.like (d := d2) hI0
      have hIr : Inv (likeF d2 (M 0)) := hId.like hI0 _
      generalize likeF d2 (M 0) = dr at hS hIr ⊢
      refine a_aload_n B dX3_fittingWords_39 rfl ?_
      refine a_getR B fl_X3_12 (by decide) rfl rfl dX3_fittingWords_40 ?_
      refine a_getR B fl_X3_62 (by decide) rfl rfl dX3_fittingWords_43 ?_
      refine a_iload B dX3_fittingWords_46 rfl ?_
      refine a_iload B dX3_fittingWords_48 rfl ?_
      refine a_iload B dX3_fittingWords_50 rfl ?_
      refine a_callSN2r B rfl cf_X6_confessionOf ln_X3_72 st_X6_confessionOf (k_X6_confessionOf _ _ _) dX3_fittingWords_52 (Nat.le_of_ble_eq_true rfl) ⟨Nat.le_of_ble_eq_true rfl, Nat.le_of_ble_eq_true rfl⟩ ⟨rfl, rfl⟩ ?_
      refine a_iast (todN (M 0)) B twC (by decide) rfl rfl htd (by decide) dX3_fittingWords_55 ?_
      rw [upB_stB]
      have hIw := hIr.wor (j := todN (M 0)) (k := k) htd (by omega)
      have hw : upd dr (6 + todN (M 0)) (100 * (M 0 (6 + todN (M 0)) / 100) + nI k) = worD dr (todN (M 0)) k := by unfold worD; rw [hS.1 (6 + todN (M 0)) (by omega)]
      rw [hw]
      have hq := fit_q (tl := tlS M t) (sz := szN M t) (k := k) hS hIr hp (by omega)
      have hpw : p < nOf ((stB M 2 (worD dr (todN (M 0)) k)) 2) := by rw [stB_at, show nOf (worD dr (todN (M 0)) k) = nOf dr from nOf_upd (by omega), hS.n]; exact hp
      have hszw := hszn (worD dr (todN (M 0)) k)
      have htl := htls (worD dr (todN (M 0)) k)
      have hzw := hzs (worD dr (todN (M 0)) k)
      refine a_aload_n B dX3_fittingWords_56 rfl ?_
      refine a_iload_n B dX3_fittingWords_57 rfl ?_
      refine a_aload_n B dX3_fittingWords_58 rfl ?_
      refine a_callV2p B rfl cf_X3_dreamsAsTold lk_X3_108 in_X3_dreamsAsTold se_X3_dreamsAsTold (wl_rc (p0 := 37) (by decide) rfl rfl rfl) (k_X3_dreamsAsTold _ (by rw [stB_at]; exact hIw) p t hpw ht hzw) dX3_fittingWords_59 (Nat.le_of_ble_eq_true rfl) ⟨Nat.le_of_ble_eq_true rfl, Nat.le_of_ble_eq_true rfl⟩ ⟨rfl, rfl⟩ ?_
      rintro _ _ ⟨rfl, dq, hIq, rfl⟩
      rw [stB_at, stB_st, hszw, htl, hq]
      show AW Pp l Ee _ Ss Mm Aa Bb Me Cc D _ A0 _ 0 0 _ _ _ (_ :: _) _
      refine a_if_eq 74 B dX3_fittingWords_62 (by decide) (fun c62 => ?_) (fun c62 => ?_)
      · refine p_iinc8 1 B dX3_fittingWords_74 (by decide) (by decide) (k := ?_)
        refine a_goto 24 B dX3_fittingWords_77 (by decide) ?_
        have e2 : mskL (fitQ (M 0) p (tlS M t) (szN M t)) (k + 1) = mskL (fitQ (M 0) p (tlS M t) (szN M t)) k := by rw [mskL, if_neg (by rw [bI_eq0.mp c62]; decide)]
        have h9 := ih (k + 1) (by omega) (by omega) _ hIq
        rw [e2] at h9
        rw [nI_1]
        exact h9
      refine a_lload B dX3_fittingWords_65 rfl ?_
      refine a_lconst (v := 1) B dX3_fittingWords_67 (by decide) ?_
      refine a_iload B dX3_fittingWords_68 rfl ?_
      refine a_lshl B dX3_fittingWords_70 ?_
      refine a_lor B dX3_fittingWords_71 ?_
      refine p_lstore4 B dX3_fittingWords_72 (by decide) (k := ?_)
      refine p_iinc8 1 B dX3_fittingWords_74 (by decide) (by decide) (k := ?_)
      refine a_goto 24 B dX3_fittingWords_77 (by decide) ?_
      have e2 : mskL (fitQ (M 0) p (tlS M t) (szN M t)) (k + 1) = mskL (fitQ (M 0) p (tlS M t) (szN M t)) k ||| (1 : Int64) <<< ((nI k).toInt64 &&& 63) := by rw [mskL, if_pos]; (cases hb : (fitQ (M 0) p (tlS M t) (szN M t)) k with | true => rfl | false => exact absurd (by rw [hb]; rfl) c62)
      have h9 := ih (k + 1) (by omega) (by omega) _ hIq
      rw [e2] at h9
      rw [nI_1]
      exact h9
  refine a_lconst (v := 0) B dX3_fittingWords_0 (by decide) ?_
  refine p_lstore4 B dX3_fittingWords_1 (by decide) (k := ?_)
  refine a_aload_n B dX3_fittingWords_3 rfl ?_
  refine a_callV0r B rfl cf_X0_placeToday lk_X3_104 in_X0_placeToday se_X0_placeToday (wl_rc (p0 := 1) (by decide) rfl rfl rfl) (k_X0_placeToday 0 (by decide) _ hI0) dX3_fittingWords_4 (Nat.le_of_ble_eq_true rfl) ⟨Nat.le_of_ble_eq_true rfl, Nat.le_of_ble_eq_true rfl⟩ ⟨rfl, rfl⟩ ?_
  refine p_istore6 B dX3_fittingWords_7 (by decide) (k := ?_)
  refine a_aload_n B dX3_fittingWords_9 rfl ?_
  refine a_getR B fl_X3_62 (by decide) rfl rfl dX3_fittingWords_10 ?_
  refine a_iload B dX3_fittingWords_13 rfl ?_
  refine a_iald (todN (M 0)) B (by decide) rfl rfl htd (by decide) dX3_fittingWords_15 ?_
  refine a_callSN1r B rfl cf_X6_sinOf ln_X3_66 st_X6_sinOf (k_X6_sinOf _ _) dX3_fittingWords_16 (Nat.le_of_ble_eq_true rfl) ⟨Nat.le_of_ble_eq_true rfl, Nat.le_of_ble_eq_true rfl⟩ ⟨rfl, rfl⟩ ?_
  refine p_istore7 B dX3_fittingWords_19 (by decide) (k := ?_)
  refine a_iconst (v := 0) B dX3_fittingWords_21 (by decide) ?_
  refine p_istore8 B dX3_fittingWords_22 (by decide) (k := ?_)
  refine a_mem (stB_id (b := 2)).symm ?_
  exact loop 42 0 (by omega) (by omega) _ hI2
end C7
