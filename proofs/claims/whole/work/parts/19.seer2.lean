
section C6
def wv (k : Nat) : Int32 := if k ≤ 40 then nI (40 - k) else -1
def wvO (o : Option Nat) : Int32 := match o with
  | none => -1
  | some k => nI (40 - k)
theorem wv_s : ∀ k, k < 41 → wv k + (-1) = wv (k + 1) := by decide +kernel
theorem wv_neg : ∀ k, k < 42 → (wv k < 0 ↔ k = 41) := by decide +kernel
theorem wv_in {k : Nat} (h : k ≤ 40) : wv k = nI (40 - k) := by unfold wv; rw [if_pos h]
theorem wi_in {j t : Nat} (h : j ≤ t) (ht : t < 2 ^ 31) : wi (nI j) (nI t) = true := by
  unfold wi
  rw [decide_eq_false (nI_pos (by omega)), decide_eq_false (nI_nlt h ht)]
  rfl
theorem wor_q {d dr : Dm} {j t k : Nat} (hS : Sim dr d) (hI : Inv dr) (hj : j < 6) (hk : k ≤ 40) : sumT (daysF (worD dr j k) t) 5 (nOf (daysF (worD dr j k) t)) = sumT (daysF (worD d j k) t) 5 (nOf d) := by
  have h1 := (hS.wor (k := k) hj).days (hI.wor hj hk) t
  have e : nOf (daysF (worD dr j k) t) = nOf d := by rw [days_n (hI.wor hj hk), ← hS.n]; exact nOf_upd (by omega)
  rw [e]
  exact h1.sum _ (by omega)
theorem kin_q {d dr : Dm} {p t k : Nat} (hS : Sim dr d) (hI : Inv dr) (hp : p < 8) (hk : k < 7) : sumT (daysF (kinD dr p k) t) 5 (nOf (daysF (kinD dr p k) t)) = kinV d p t k := by
  have h1 := (hS.kin (p := p) (k := k)).days (hI.kin hp hk) t
  have e : nOf (daysF (kinD dr p k) t) = nOf d := by rw [days_n (hI.kin hp hk), ← hS.n]; exact nOf_upd (by omega)
  rw [e]
  exact h1.sum _ (by omega)
theorem spa_q {d dr : Dm} {p t k : Nat} (hS : Sim dr d) (hI : Inv dr) (hp : p < nOf d) (hp8 : p < 8) : daysF (spaD dr p k) t (20 + p) = spaV d p t k := by
  have h1 := (hS.spa (k := k) (show p < nOf dr by rw [hS.n]; exact hp)).days (hI.spa hp8) t
  exact h1.s (by rw [days_n (hI.spa hp8)]; exact (show p < nOf (spaD dr p k) by rw [show nOf (spaD dr p k) = nOf dr from nOf_upd (by omega), hS.n]; exact hp))
theorem amin_lt {f : Nat → Int32} {l0 : Int32} {k : Nat} (h : f k < (amin f l0 k).2) : amin f l0 (k + 1) = (nI k, f k) := by rw [amin, if_pos h]
theorem amin_ge {f : Nat → Int32} {l0 : Int32} {k : Nat} (h : ¬ f k < (amin f l0 k).2) : amin f l0 (k + 1) = amin f l0 k := by rw [amin, if_neg h]

variable {l : Launch} {sk : (Nat → Nat) × (Nat → Nat)} {D : va_G} {cy : Nat → ClassId} {A : Nat → Nat} {X : va_W}
set_option maxRecDepth 20000 in
theorem k_X3_dreamOf (M : Mem) (hI0 : Inv (M 0)) : CC l sk D cy A X mX3_dreamOf 2 [.ref (A 37), .ref (A 1)] M (rA (A 25) (stB M 2 (likeF (M 2) (M 0)))) := by
  refine Con.of (lo := [some (.ref (A 37)), some (.ref (A 1))]) cf_X3_dreamOf (fun _ _ => wl_fst) 0 rfl (Nat.le_of_ble_eq_true rfl) (fun Pp Ee Ss Mm Aa Bb Me Cc A0 B hr hlk => ?_)
  have B : BS sk D cy (wl A cy 51 TC X) A0 Pp Ss Mm Aa Cc RX3 cX3_dreamOf 2 := B
  refine a_aload_n B dX3_dreamOf_0 rfl ?_
  refine a_getR B fl_X3_12 (by decide) rfl rfl dX3_dreamOf_1 ?_
  refine a_aload_n B dX3_dreamOf_4 rfl ?_
  refine a_callV1v B rfl cf_X0_becomeLike lk_X3_18 in_X0_becomeLike se_X0_becomeLike (wl_rc (p0 := 25) (by decide) rfl rfl rfl) (k_X0_becomeLike 2 0 (by decide) (by decide) (by decide) _ hI0) dX3_dreamOf_5 (Nat.le_of_ble_eq_true rfl) ⟨Nat.le_of_ble_eq_true rfl, Nat.le_of_ble_eq_true rfl⟩ ⟨rfl, rfl⟩ ?_
  refine a_aload_n B dX3_dreamOf_8 rfl ?_
  refine a_getR B fl_X3_12 (by decide) rfl rfl dX3_dreamOf_9 ?_
  exact a_aret B hr hlk (Or.inl ⟨_, rfl⟩) (Or.inr ⟨_, rfl⟩) dX3_dreamOf_12 ⟨rfl, rfl⟩
set_option maxRecDepth 20000 in
set_option maxHeartbeats 4000000 in
theorem k_X3_mostHarmlessWords (M : Mem) (hI0 : Inv (M 0)) (hI2 : Inv (M 2)) (j t : Nat) (hj : j < 6) (ht : t < 100000) : CC l sk D cy A X mX3_mostHarmlessWords 5 [.ref (A 37), .ref (A 1), .int (nI j), .int (nI t)] M (rS (wvO (fstN (worQ (M 0) j t) 41)) M) := by
  refine Con.of (lo := [some (.ref (A 37)), some (.ref (A 1)), some (.int (nI j)), some (.int (nI t)), none, none, none]) cf_X3_mostHarmlessWords (fun _ _ => wl_fst) 3 rfl (Nat.le_of_ble_eq_true rfl) (fun Pp Ee Ss Mm Aa Bb Me Cc A0 B hr hlk => ?_)
  have B : BS sk D cy (wl A cy 51 TC X) A0 Pp Ss Mm Aa Cc RX3 cX3_mostHarmlessWords 7 := B
  have loop : ∀ n k, 42 ≤ k + n → k ≤ 41 → fstN (worQ (M 0) j t) k = none → ∀ d2, Inv d2 → AW Pp l Ee (rmK 5 (34 * 5)) Ss Mm Aa Bb Me Cc D (wl A cy 51 TC X) A0 7 0 0 (MQ Bb (QG D (wl A cy 51 TC X) A0 (rS (wvO (fstN (worQ (M 0) j t) 41)) M)) Aa Ss 0 0 A0) 32 [some (.ref (A 37)), some (.ref (A 1)), some (.int (nI j)), some (.int (nI t)), some (.int (M 0 (6 + j) / 100)), some (.int (sumT (M 0) 5 (nOf (M 0)))), some (.int (wv k))] [] (stB M 2 d2) := by
    intro n
    induction n with
    | zero => intro k h1 h2; omega
    | succ n ih =>
      intro k h1 h2 h3 d2 hId
      refine a_iload B dX3_mostHarmlessWords_32 rfl ?_
      refine a_if_lt 91 B dX3_mostHarmlessWords_34 (by decide) (fun c34 => ?_) (fun c34 => ?_)
      · have e1 : k = 41 := (wv_neg k (by omega)).mp c34
        subst e1
        refine a_iconst (v := (-1)) B dX3_mostHarmlessWords_91 (by decide) ?_
        exact a_iret B hr hlk dX3_mostHarmlessWords_92 ⟨by rw [h3]; rfl, _, hId, rfl⟩
      have hlt0 : k ≤ 40 := by have hne : ¬ k = 41 := fun q => c34 ((wv_neg k (by omega)).mpr q); omega
      rw [wv_in hlt0]
      refine a_aload_n B dX3_mostHarmlessWords_37 rfl ?_
      refine a_getR B fl_X3_12 (by decide) rfl rfl dX3_mostHarmlessWords_38 ?_
      refine a_aload_n B dX3_mostHarmlessWords_41 rfl ?_
      refine a_callV1v B rfl cf_X0_becomeLike lk_X3_18 in_X0_becomeLike se_X0_becomeLike (wl_rc (p0 := 25) (by decide) rfl rfl rfl) (k_X0_becomeLike 2 0 (by decide) (by decide) (by decide) _ (by rw [stB_ne (show (0 : Nat) ≠ 2 by decide)]; exact hI0)) dX3_mostHarmlessWords_42 (Nat.le_of_ble_eq_true rfl) ⟨Nat.le_of_ble_eq_true rfl, Nat.le_of_ble_eq_true rfl⟩ ⟨rfl, rfl⟩ ?_
      rw [stB_at, stB_ne (show (0 : Nat) ≠ 2 by decide), stB_st]
      have hS := Sim.like (d := d2) hI0
      have hIr : Inv (likeF d2 (M 0)) := hId.like hI0 _
      generalize likeF d2 (M 0) = dr at hS hIr ⊢
      refine a_aload_n B dX3_mostHarmlessWords_45 rfl ?_
      refine a_getR B fl_X3_12 (by decide) rfl rfl dX3_mostHarmlessWords_46 ?_
      refine a_getR B fl_X3_62 (by decide) rfl rfl dX3_mostHarmlessWords_49 ?_
      refine a_iload_n B dX3_mostHarmlessWords_52 rfl ?_
      refine a_iload B dX3_mostHarmlessWords_53 rfl ?_
      refine a_iload B dX3_mostHarmlessWords_55 rfl ?_
      refine a_callSN2r B rfl cf_X6_confessionOf ln_X3_72 st_X6_confessionOf (k_X6_confessionOf _ _ _) dX3_mostHarmlessWords_57 (Nat.le_of_ble_eq_true rfl) ⟨Nat.le_of_ble_eq_true rfl, Nat.le_of_ble_eq_true rfl⟩ ⟨rfl, rfl⟩ ?_
      refine a_iast j B twC (by decide) rfl rfl hj (by decide) dX3_mostHarmlessWords_60 ?_
      rw [upB_stB]
      have hIw := hIr.wor (k := 40 - k) hj (by omega)
      have hq := wor_q (t := t) (k := 40 - k) hS hIr hj (by omega)
      have hw : upd dr (6 + j) (100 * (M 0 (6 + j) / 100) + nI (40 - k)) = worD dr j (40 - k) := by unfold worD; rw [hS.1 (6 + j) (by omega)]
      rw [hw]
      refine a_aload_n B dX3_mostHarmlessWords_61 rfl ?_
      refine a_getR B fl_X3_12 (by decide) rfl rfl dX3_mostHarmlessWords_62 ?_
      refine a_iload_n B dX3_mostHarmlessWords_65 rfl ?_
      refine a_callV1v B rfl cf_X0_passDays lk_X3_22 in_X0_passDays se_X0_passDays (wl_rc (p0 := 25) (by decide) rfl rfl rfl) (k_X0_passDays 2 (by decide) t ht _ (by rw [stB_at]; exact hIw)) dX3_mostHarmlessWords_66 (Nat.le_of_ble_eq_true rfl) ⟨Nat.le_of_ble_eq_true rfl, Nat.le_of_ble_eq_true rfl⟩ ⟨rfl, rfl⟩ ?_
      rw [stB_at, stB_st]
      refine a_aload_n B dX3_mostHarmlessWords_69 rfl ?_
      refine a_getR B fl_X3_12 (by decide) rfl rfl dX3_mostHarmlessWords_70 ?_
      refine a_iconst (v := 5) B dX3_mostHarmlessWords_73 (by decide) ?_
      refine a_callV1r B rfl cf_X0_sumTogether lk_X3_69 in_X0_sumTogether se_X0_sumTogether (wl_rc (p0 := 25) (by decide) rfl rfl rfl) (k_X0_sumTogether 2 (by decide) _ _ (by rw [stB_at]; exact hIw.vDays t)) dX3_mostHarmlessWords_74 (Nat.le_of_ble_eq_true rfl) ⟨Nat.le_of_ble_eq_true rfl, Nat.le_of_ble_eq_true rfl⟩ ⟨rfl, rfl⟩ ?_
      rw [stB_at, hq]
      refine a_iload B dX3_mostHarmlessWords_77 rfl ?_
      refine a_icmp_ne 85 B dX3_mostHarmlessWords_79 (by decide) (fun c79 => ?_) (fun c79 => ?_)
      · refine p_iinc6 (-1) B dX3_mostHarmlessWords_85 (by decide) (by decide) (k := ?_)
        refine a_goto 32 B dX3_mostHarmlessWords_88 (by decide) ?_
        rw [← wv_in hlt0, wv_s k (by omega)]
        exact ih (k + 1) (by omega) (by omega) (fst_no h3 (decide_eq_false c79)) _ (hIw.vDays t)
      refine a_iload B dX3_mostHarmlessWords_82 rfl ?_
      exact a_iret B hr hlk dX3_mostHarmlessWords_84 ⟨by rw [fst_up (fst_yes h3 (decide_eq_true c79)) 41 (by omega)]; rfl, _, hIw.vDays t, rfl⟩
  refine a_iload_n B dX3_mostHarmlessWords_0 rfl ?_
  refine a_iconst (v := 5) B dX3_mostHarmlessWords_1 (by decide) ?_
  refine a_callSN2r B rfl cf_X6_within ln_X3_58 st_X6_within (k_X6_within _ _ _) dX3_mostHarmlessWords_2 (Nat.le_of_ble_eq_true rfl) ⟨Nat.le_of_ble_eq_true rfl, Nat.le_of_ble_eq_true rfl⟩ ⟨rfl, rfl⟩ ?_
  refine a_if_ne 10 B dX3_mostHarmlessWords_5 (by decide) (fun c5 => ?_) (fun c5 => ?_)
  · refine a_aload_n B dX3_mostHarmlessWords_10 rfl ?_
    refine a_getR B fl_X3_62 (by decide) rfl rfl dX3_mostHarmlessWords_11 ?_
    refine a_iload_n B dX3_mostHarmlessWords_14 rfl ?_
    refine a_iald j B (by decide) rfl rfl hj (by decide) dX3_mostHarmlessWords_15 ?_
    refine a_callSN1r B rfl cf_X6_sinOf ln_X3_66 st_X6_sinOf (k_X6_sinOf _ _) dX3_mostHarmlessWords_16 (Nat.le_of_ble_eq_true rfl) ⟨Nat.le_of_ble_eq_true rfl, Nat.le_of_ble_eq_true rfl⟩ ⟨rfl, rfl⟩ ?_
    refine p_istore4 B dX3_mostHarmlessWords_19 (by decide) (k := ?_)
    refine a_aload_n B dX3_mostHarmlessWords_21 rfl ?_
    refine a_iconst (v := 5) B dX3_mostHarmlessWords_22 (by decide) ?_
    refine a_callV1r B rfl cf_X0_sumTogether lk_X3_69 in_X0_sumTogether se_X0_sumTogether (wl_rc (p0 := 1) (by decide) rfl rfl rfl) (k_X0_sumTogether 0 (by decide) _ _ hI0) dX3_mostHarmlessWords_23 (Nat.le_of_ble_eq_true rfl) ⟨Nat.le_of_ble_eq_true rfl, Nat.le_of_ble_eq_true rfl⟩ ⟨rfl, rfl⟩ ?_
    refine p_istore5 B dX3_mostHarmlessWords_26 (by decide) (k := ?_)
    refine a_bipush (v := 40) B dX3_mostHarmlessWords_28 (by decide) ?_
    refine p_istore6 B dX3_mostHarmlessWords_30 (by decide) (k := ?_)
    refine a_mem (stB_id (b := 2)).symm ?_
    exact loop 42 0 (by omega) (by omega) rfl _ hI2
  exact absurd (bI_eq0.mp c5) (by rw [show (5 : Int32) = nI 5 from rfl, wi_in (by omega) (by omega)]; decide)
set_option maxRecDepth 20000 in
set_option maxHeartbeats 4000000 in
theorem k_X3_sinToSpare (M : Mem) (hI0 : Inv (M 0)) (hI2 : Inv (M 2)) (p : Nat) (hp : p < nOf (M 0)) (t : Nat) (ht : t < 100000) : CC l sk D cy A X mX3_sinToSpare 5 [.ref (A 37), .ref (A 1), .int (nI p), .int (nI t)] M (rS (amin (spaV (M 0) p t) 1000 8).1 M) := by
  refine Con.of (lo := [some (.ref (A 37)), some (.ref (A 1)), some (.int (nI p)), some (.int (nI t)), none, none, none, none]) cf_X3_sinToSpare (fun _ _ => wl_fst) 4 rfl (Nat.le_of_ble_eq_true rfl) (fun Pp Ee Ss Mm Aa Bb Me Cc A0 B hr hlk => ?_)
  have B : BS sk D cy (wl A cy 51 TC X) A0 Pp Ss Mm Aa Cc RX3 cX3_sinToSpare 8 := B
  obtain ⟨N, hN, eN, eNo⟩ := hI0.n
  have hp8 : p < 8 := by omega
  have hlt : nI p < M 0 0 := nI_ltN eN (by omega) (by omega)
  have loop : ∀ n k, 8 + 1 ≤ k + n → k ≤ 8 → ∀ d2, Inv d2 → ∀ o7 : Option Value, AW Pp l Ee (rmK 5 (34 * 5)) Ss Mm Aa Bb Me Cc D (wl A cy 51 TC X) A0 8 0 0 (MQ Bb (QG D (wl A cy 51 TC X) A0 (rS (amin (spaV (M 0) p t) 1000 8).1 M)) Aa Ss 0 0 A0) 11 [some (.ref (A 37)), some (.ref (A 1)), some (.int (nI p)), some (.int (nI t)), some (.int (amin (spaV (M 0) p t) 1000 k).1), some (.int (amin (spaV (M 0) p t) 1000 k).2), some (.int (nI k)), o7] [] (stB M 2 d2) := by
    intro n
    induction n with
    | zero => intro k h1 h2; omega
    | succ n ih =>
      intro k h1 h2 d2 hId o7
      refine a_iload B dX3_sinToSpare_11 rfl ?_
      refine a_bipush (v := 8) B dX3_sinToSpare_13 (by decide) ?_
      refine a_icmp_ge 92 B dX3_sinToSpare_15 (by decide) (fun c15 => ?_) (fun c15 => ?_)
      · have e1 : k = 8 := by have := ge_n (b := 8) c15 rfl rfl (by omega) (by omega); omega
        subst e1
        refine a_iload B dX3_sinToSpare_92 rfl ?_
        exact a_iret B hr hlk dX3_sinToSpare_94 ⟨rfl, _, hId, rfl⟩
      have hlt0 := lt_n (b := 8) c15 rfl rfl (by omega) (by omega)
      refine a_aload_n B dX3_sinToSpare_18 rfl ?_
      refine a_getR B fl_X3_12 (by decide) rfl rfl dX3_sinToSpare_19 ?_
      refine a_aload_n B dX3_sinToSpare_22 rfl ?_
      refine a_callV1v B rfl cf_X0_becomeLike lk_X3_18 in_X0_becomeLike se_X0_becomeLike (wl_rc (p0 := 25) (by decide) rfl rfl rfl) (k_X0_becomeLike 2 0 (by decide) (by decide) (by decide) _ (by rw [stB_ne (show (0 : Nat) ≠ 2 by decide)]; exact hI0)) dX3_sinToSpare_23 (Nat.le_of_ble_eq_true rfl) ⟨Nat.le_of_ble_eq_true rfl, Nat.le_of_ble_eq_true rfl⟩ ⟨rfl, rfl⟩ ?_
      rw [stB_at, stB_ne (show (0 : Nat) ≠ 2 by decide), stB_st]
      have hS := Sim.like (d := d2) hI0
      have hIr : Inv (likeF d2 (M 0)) := hId.like hI0 _
      generalize likeF d2 (M 0) = dr at hS hIr ⊢
      refine a_aload_n B dX3_sinToSpare_26 rfl ?_
      refine a_getR B fl_X3_12 (by decide) rfl rfl dX3_sinToSpare_27 ?_
      refine a_iload_n B dX3_sinToSpare_30 rfl ?_
      refine a_callV1r B rfl cf_X0_at lk_X3_26 in_X0_at se_X0_at (wl_rc (p0 := 25) (by decide) rfl rfl rfl) (k_X0_at 2 p (by decide) hp8 _ (by rw [stB_at, hS.1 0 (by omega)]; exact hlt)) dX3_sinToSpare_31 (Nat.le_of_ble_eq_true rfl) ⟨Nat.le_of_ble_eq_true rfl, Nat.le_of_ble_eq_true rfl⟩ ⟨rfl, rfl⟩ ?_
      refine p_astore7 B dX3_sinToSpare_34 (by decide) (k := ?_)
      refine a_aload B dX3_sinToSpare_36 rfl ?_
      refine a_ifnull B dX3_sinToSpare_38 ?_
      refine a_aload B dX3_sinToSpare_41 rfl ?_
      refine a_dup B dX3_sinToSpare_43 rfl ?_
      refine a_getI B fl_X3_83 (by omega) (tcP 2 (by decide) p hp8) rfl dX3_sinToSpare_44 ?_
      refine a_iconst (v := 1) B dX3_sinToSpare_47 (by decide) ?_
      refine a_iload B dX3_sinToSpare_48 rfl ?_
      refine a_ishl B dX3_sinToSpare_50 ?_
      refine a_iconst (v := (-1)) B dX3_sinToSpare_51 (by decide) ?_
      refine a_ixor B dX3_sinToSpare_52 ?_
      refine a_iand B dX3_sinToSpare_53 ?_
      refine a_putI B twC fl_X3_83 fp_1_2 (by omega) (tcP 2 (by decide) p hp8) rfl dX3_sinToSpare_54 ?_
      rw [upB_stB, stB_at]
      have hIw := hIr.spa (k := k) hp8
      have hq := spa_q (t := t) (k := k) hS hIr hp hp8
      change AW Pp l Ee _ Ss Mm Aa Bb Me Cc D _ A0 _ 0 0 _ _ _ _ (stB M 2 (spaD dr p k))
      refine a_aload_n B dX3_sinToSpare_57 rfl ?_
      refine a_getR B fl_X3_12 (by decide) rfl rfl dX3_sinToSpare_58 ?_
      refine a_iload_n B dX3_sinToSpare_61 rfl ?_
      refine a_callV1v B rfl cf_X0_passDays lk_X3_22 in_X0_passDays se_X0_passDays (wl_rc (p0 := 25) (by decide) rfl rfl rfl) (k_X0_passDays 2 (by decide) t ht _ (by rw [stB_at]; exact hIw)) dX3_sinToSpare_62 (Nat.le_of_ble_eq_true rfl) ⟨Nat.le_of_ble_eq_true rfl, Nat.le_of_ble_eq_true rfl⟩ ⟨rfl, rfl⟩ ?_
      rw [stB_at, stB_st]
      refine a_aload B dX3_sinToSpare_65 rfl ?_
      refine a_getI B fl_X3_55 (by omega) (tcP 2 (by decide) p hp8) rfl dX3_sinToSpare_67 ?_
      rw [stB_at, hq]
      refine a_iload B dX3_sinToSpare_70 rfl ?_
      refine a_icmp_ge 86 B dX3_sinToSpare_72 (by decide) (fun c72 => ?_) (fun c72 => ?_)
      · refine p_iinc6 1 B dX3_sinToSpare_86 (by decide) (by decide) (k := ?_)
        refine a_goto 11 B dX3_sinToSpare_89 (by decide) ?_
        have e2 := amin_ge (f := spaV (M 0) p t) (l0 := 1000) (k := k) (Int32.not_lt.mpr c72)
        have h9 := ih (k + 1) (by omega) (by omega) _ (hIw.vDays t)
        rw [e2] at h9
        rw [nI_1]
        exact h9 _
      refine a_iload B dX3_sinToSpare_75 rfl ?_
      refine p_istore4 B dX3_sinToSpare_77 (by decide) (k := ?_)
      refine a_aload B dX3_sinToSpare_79 rfl ?_
      refine a_getI B fl_X3_55 (by omega) (tcP 2 (by decide) p hp8) rfl dX3_sinToSpare_81 ?_
      rw [stB_at, hq]
      refine p_istore5 B dX3_sinToSpare_84 (by decide) (k := ?_)
      refine p_iinc6 1 B dX3_sinToSpare_86 (by decide) (by decide) (k := ?_)
      refine a_goto 11 B dX3_sinToSpare_89 (by decide) ?_
      have e2 := amin_lt (f := spaV (M 0) p t) (l0 := 1000) (k := k) (Int32.not_le.mp c72)
      have h9 := ih (k + 1) (by omega) (by omega) _ (hIw.vDays t)
      rw [e2] at h9
      rw [nI_1]
      exact h9 _
  refine a_iconst (v := 0) B dX3_sinToSpare_0 (by decide) ?_
  refine p_istore4 B dX3_sinToSpare_1 (by decide) (k := ?_)
  refine a_sipush (v := 1000) B dX3_sinToSpare_3 (by decide) ?_
  refine p_istore5 B dX3_sinToSpare_6 (by decide) (k := ?_)
  refine a_iconst (v := 0) B dX3_sinToSpare_8 (by decide) ?_
  refine p_istore6 B dX3_sinToSpare_9 (by decide) (k := ?_)
  refine a_mem (stB_id (b := 2)).symm ?_
  exact loop 9 0 (by omega) (by omega) _ hI2 _
set_option maxRecDepth 20000 in
set_option maxHeartbeats 4000000 in
theorem k_X3_healthiestKind (M : Mem) (hI0 : Inv (M 0)) (hI2 : Inv (M 2)) (p : Nat) (hp : p < nOf (M 0)) (t : Nat) (ht : t < 100000) : CC l sk D cy A X mX3_healthiestKind 5 [.ref (A 37), .ref (A 1), .int (nI p), .int (nI t)] M (rS (amin (kinV (M 0) p t) 79993 7).1 M) := by
  refine Con.of (lo := [some (.ref (A 37)), some (.ref (A 1)), some (.int (nI p)), some (.int (nI t)), none, none, none, none, none]) cf_X3_healthiestKind (fun _ _ => wl_fst) 5 rfl (Nat.le_of_ble_eq_true rfl) (fun Pp Ee Ss Mm Aa Bb Me Cc A0 B hr hlk => ?_)
  have B : BS sk D cy (wl A cy 51 TC X) A0 Pp Ss Mm Aa Cc RX3 cX3_healthiestKind 9 := B
  obtain ⟨N, hN, eN, eNo⟩ := hI0.n
  have hp8 : p < 8 := by omega
  have hlt : nI p < M 0 0 := nI_ltN eN (by omega) (by omega)
  have loop : ∀ n k, 7 + 1 ≤ k + n → k ≤ 7 → ∀ d2, Inv d2 → ∀ o7 o8 : Option Value, AW Pp l Ee (rmK 5 (34 * 5)) Ss Mm Aa Bb Me Cc D (wl A cy 51 TC X) A0 9 0 0 (MQ Bb (QG D (wl A cy 51 TC X) A0 (rS (amin (kinV (M 0) p t) 79993 7).1 M)) Aa Ss 0 0 A0) 10 [some (.ref (A 37)), some (.ref (A 1)), some (.int (nI p)), some (.int (nI t)), some (.int (amin (kinV (M 0) p t) 79993 k).1), some (.int (amin (kinV (M 0) p t) 79993 k).2), some (.int (nI k)), o7, o8] [] (stB M 2 d2) := by
    intro n
    induction n with
    | zero => intro k h1 h2; omega
    | succ n ih =>
      intro k h1 h2 d2 hId o7 o8
      refine a_iload B dX3_healthiestKind_10 rfl ?_
      refine a_bipush (v := 7) B dX3_healthiestKind_12 (by decide) ?_
      refine a_icmp_ge 86 B dX3_healthiestKind_14 (by decide) (fun c14 => ?_) (fun c14 => ?_)
      · have e1 : k = 7 := by have := ge_n (b := 7) c14 rfl rfl (by omega) (by omega); omega
        subst e1
        refine a_iload B dX3_healthiestKind_86 rfl ?_
        exact a_iret B hr hlk dX3_healthiestKind_88 ⟨rfl, _, hId, rfl⟩
      have hlt0 := lt_n (b := 7) c14 rfl rfl (by omega) (by omega)
      refine a_aload_n B dX3_healthiestKind_17 rfl ?_
      refine a_getR B fl_X3_12 (by decide) rfl rfl dX3_healthiestKind_18 ?_
      refine a_aload_n B dX3_healthiestKind_21 rfl ?_
      refine a_callV1v B rfl cf_X0_becomeLike lk_X3_18 in_X0_becomeLike se_X0_becomeLike (wl_rc (p0 := 25) (by decide) rfl rfl rfl) (k_X0_becomeLike 2 0 (by decide) (by decide) (by decide) _ (by rw [stB_ne (show (0 : Nat) ≠ 2 by decide)]; exact hI0)) dX3_healthiestKind_22 (Nat.le_of_ble_eq_true rfl) ⟨Nat.le_of_ble_eq_true rfl, Nat.le_of_ble_eq_true rfl⟩ ⟨rfl, rfl⟩ ?_
      rw [stB_at, stB_ne (show (0 : Nat) ≠ 2 by decide), stB_st]
      have hS := Sim.like (d := d2) hI0
      have hIr : Inv (likeF d2 (M 0)) := hId.like hI0 _
      generalize likeF d2 (M 0) = dr at hS hIr ⊢
      refine a_aload_n B dX3_healthiestKind_25 rfl ?_
      refine a_getR B fl_X3_12 (by decide) rfl rfl dX3_healthiestKind_26 ?_
      refine a_iload_n B dX3_healthiestKind_29 rfl ?_
      refine a_callV1r B rfl cf_X0_at lk_X3_26 in_X0_at se_X0_at (wl_rc (p0 := 25) (by decide) rfl rfl rfl) (k_X0_at 2 p (by decide) hp8 _ (by rw [stB_at, hS.1 0 (by omega)]; exact hlt)) dX3_healthiestKind_30 (Nat.le_of_ble_eq_true rfl) ⟨Nat.le_of_ble_eq_true rfl, Nat.le_of_ble_eq_true rfl⟩ ⟨rfl, rfl⟩ ?_
      refine p_astore7 B dX3_healthiestKind_33 (by decide) (k := ?_)
      refine a_aload B dX3_healthiestKind_35 rfl ?_
      refine a_ifnull B dX3_healthiestKind_37 ?_
      refine a_aload B dX3_healthiestKind_40 rfl ?_
      refine a_iload B dX3_healthiestKind_42 rfl ?_
      refine a_putI B twC fl_X3_87 fp_1_0 (by omega) (tcP 2 (by decide) p hp8) rfl dX3_healthiestKind_44 ?_
      rw [upB_stB]
      have hIw := hIr.kin (k := k) hp8 (by omega)
      have hq := kin_q (t := t) (k := k) hS hIr hp8 (by omega)
      change AW Pp l Ee _ Ss Mm Aa Bb Me Cc D _ A0 _ 0 0 _ _ _ _ (stB M 2 (kinD dr p k))
      refine a_aload_n B dX3_healthiestKind_47 rfl ?_
      refine a_getR B fl_X3_12 (by decide) rfl rfl dX3_healthiestKind_48 ?_
      refine a_iload_n B dX3_healthiestKind_51 rfl ?_
      refine a_callV1v B rfl cf_X0_passDays lk_X3_22 in_X0_passDays se_X0_passDays (wl_rc (p0 := 25) (by decide) rfl rfl rfl) (k_X0_passDays 2 (by decide) t ht _ (by rw [stB_at]; exact hIw)) dX3_healthiestKind_52 (Nat.le_of_ble_eq_true rfl) ⟨Nat.le_of_ble_eq_true rfl, Nat.le_of_ble_eq_true rfl⟩ ⟨rfl, rfl⟩ ?_
      rw [stB_at, stB_st]
      refine a_aload_n B dX3_healthiestKind_55 rfl ?_
      refine a_getR B fl_X3_12 (by decide) rfl rfl dX3_healthiestKind_56 ?_
      refine a_iconst (v := 5) B dX3_healthiestKind_59 (by decide) ?_
      refine a_callV1r B rfl cf_X0_sumTogether lk_X3_69 in_X0_sumTogether se_X0_sumTogether (wl_rc (p0 := 25) (by decide) rfl rfl rfl) (k_X0_sumTogether 2 (by decide) _ _ (by rw [stB_at]; exact hIw.vDays t)) dX3_healthiestKind_60 (Nat.le_of_ble_eq_true rfl) ⟨Nat.le_of_ble_eq_true rfl, Nat.le_of_ble_eq_true rfl⟩ ⟨rfl, rfl⟩ ?_
      rw [stB_at, hq]
      refine p_istore8 B dX3_healthiestKind_63 (by decide) (k := ?_)
      refine a_iload B dX3_healthiestKind_65 rfl ?_
      refine a_iload B dX3_healthiestKind_67 rfl ?_
      refine a_icmp_ge 80 B dX3_healthiestKind_69 (by decide) (fun c69 => ?_) (fun c69 => ?_)
      · refine p_iinc6 1 B dX3_healthiestKind_80 (by decide) (by decide) (k := ?_)
        refine a_goto 10 B dX3_healthiestKind_83 (by decide) ?_
        have e2 := amin_ge (f := kinV (M 0) p t) (l0 := 79993) (k := k) (Int32.not_lt.mpr c69)
        have h9 := ih (k + 1) (by omega) (by omega) _ (hIw.vDays t)
        rw [e2] at h9
        rw [nI_1]
        exact h9 _ _
      refine a_iload B dX3_healthiestKind_72 rfl ?_
      refine p_istore4 B dX3_healthiestKind_74 (by decide) (k := ?_)
      refine a_iload B dX3_healthiestKind_76 rfl ?_
      refine p_istore5 B dX3_healthiestKind_78 (by decide) (k := ?_)
      refine p_iinc6 1 B dX3_healthiestKind_80 (by decide) (by decide) (k := ?_)
      refine a_goto 10 B dX3_healthiestKind_83 (by decide) ?_
      have e2 := amin_lt (f := kinV (M 0) p t) (l0 := 79993) (k := k) (Int32.not_le.mp c69)
      have h9 := ih (k + 1) (by omega) (by omega) _ (hIw.vDays t)
      rw [e2] at h9
      rw [nI_1]
      exact h9 _ _
  refine a_iconst (v := 0) B dX3_healthiestKind_0 (by decide) ?_
  refine p_istore4 B dX3_healthiestKind_1 (by decide) (k := ?_)
  refine a_ldc B dX3_healthiestKind_3 kc_X3_86 ?_
  refine p_istore5 B dX3_healthiestKind_5 (by decide) (k := ?_)
  refine a_iconst (v := 0) B dX3_healthiestKind_7 (by decide) ?_
  refine p_istore6 B dX3_healthiestKind_8 (by decide) (k := ?_)
  refine a_mem (stB_id (b := 2)).symm ?_
  exact loop 8 0 (by omega) (by omega) _ hI2 _ _
set_option maxRecDepth 20000 in
set_option maxHeartbeats 4000000 in
theorem k_X3_makeFast (M : Mem) (hI2 : Inv (M 2)) (g : Int32) : CC l sk D cy A X mX3_makeFast 1 [.ref (A 37), .int g] M (rV (stB M 2 (mkD (M 2) g (nOf (M 2))))) := by
  refine Con.of (lo := [some (.ref (A 37)), some (.int g), none, none]) cf_X3_makeFast (fun _ _ => wl_fst) 2 rfl (Nat.le_of_ble_eq_true rfl) (fun Pp Ee Ss Mm Aa Bb Me Cc A0 B hr hlk => ?_)
  have B : BS sk D cy (wl A cy 51 TC X) A0 Pp Ss Mm Aa Cc RX3 cX3_makeFast 4 := B
  obtain ⟨N, hN, eN, eNo⟩ := hI2.n
  have loop : ∀ n k, N + 1 ≤ k + n → k ≤ N → ∀ o3 : Option Value, AW Pp l Ee (rmK 1 (34 * 1)) Ss Mm Aa Bb Me Cc D (wl A cy 51 TC X) A0 4 0 0 (MQ Bb (QG D (wl A cy 51 TC X) A0 (rV (stB M 2 (mkD (M 2) g (nOf (M 2)))))) Aa Ss 0 0 A0) 2 [some (.ref (A 37)), some (.int g), some (.int (nI k)), o3] [] (stB M 2 (mkD (M 2) g k)) := by
    intro n
    induction n with
    | zero => intro k h1 h2; omega
    | succ n ih =>
      intro k h1 h2 o3
      have eN1 : (stB M 2 (mkD (M 2) g k)) 2 0 = nI N := by rw [stB_at]; rw [← eNo]; have h0 := mk_n (d := M 2) (g := g) k; have h8 := (hI2.mk (g := g) k (by omega)).n; obtain ⟨m, hm1, hm2, hm3⟩ := h8; rw [hm2, ← h0, hm3]
      refine a_iload_n B dX3_makeFast_2 rfl ?_
      refine a_aload_n B dX3_makeFast_3 rfl ?_
      refine a_getR B fl_X3_12 (by decide) rfl rfl dX3_makeFast_4 ?_
      refine a_getI B fl_X3_90 (by decide) rfl rfl dX3_makeFast_7 ?_
      refine a_icmp_ge 45 B dX3_makeFast_10 (by decide) (fun c10 => ?_) (fun c10 => ?_)
      · have e1 : k = N := by have := ge_n c10 rfl eN1 (by omega) (by omega); omega
        subst e1
        exact a_vret B hr hlk dX3_makeFast_45 ⟨rfl, by rw [eNo]⟩
      have hlt0 := lt_n c10 rfl eN1 (by omega) (by omega)
      have hk : k < 8 := by omega
      have hlt : nI k < (stB M 2 (mkD (M 2) g k)) 2 0 := nI_ltN eN1 hlt0 (by omega)
      refine a_aload_n B dX3_makeFast_13 rfl ?_
      refine a_getR B fl_X3_12 (by decide) rfl rfl dX3_makeFast_14 ?_
      refine a_iload_n B dX3_makeFast_17 rfl ?_
      refine a_callV1r B rfl cf_X0_at lk_X3_26 in_X0_at se_X0_at (wl_rc (p0 := 25) (by decide) rfl rfl rfl) (k_X0_at 2 k (by decide) hk _ hlt) dX3_makeFast_18 (Nat.le_of_ble_eq_true rfl) ⟨Nat.le_of_ble_eq_true rfl, Nat.le_of_ble_eq_true rfl⟩ ⟨rfl, rfl⟩ ?_
      refine p_astore3 B dX3_makeFast_21 (by decide) (k := ?_)
      refine a_aload_n B dX3_makeFast_22 rfl ?_
      refine a_ifnull B dX3_makeFast_23 ?_
      refine a_iload_n B dX3_makeFast_26 rfl ?_
      refine a_iload_n B dX3_makeFast_27 rfl ?_
      refine a_ishr B dX3_makeFast_28 ?_
      refine a_iconst (v := 1) B dX3_makeFast_29 (by decide) ?_
      refine a_iand B dX3_makeFast_30 ?_
      refine a_if_eq 39 B dX3_makeFast_31 (by decide) (fun c31 => ?_) (fun c31 => ?_)
      · refine p_iinc2 1 B dX3_makeFast_39 (by decide) (by decide) (k := ?_)
        refine a_goto 2 B dX3_makeFast_42 (by decide) ?_
        have e2 : mkD (M 2) g (k + 1) = mkD (M 2) g k := by rw [mkD, if_neg]; unfold gB; simpa using (and1_0.mp c31)
        rw [nI_1]
        have h9 := ih (k + 1) (by omega) (by omega) (some (.ref (A (5 + 12 * 2 + k))))
        rw [e2] at h9
        exact h9
      refine a_aload_n B dX3_makeFast_34 rfl ?_
      refine a_iconst (v := 0) B dX3_makeFast_35 (by decide) ?_
      refine a_putI B twC fl_X3_83 fp_1_2 (by omega) (tcP 2 (by decide) k hk) rfl dX3_makeFast_36 ?_
      refine p_iinc2 1 B dX3_makeFast_39 (by decide) (by decide) (k := ?_)
      refine a_goto 2 B dX3_makeFast_42 (by decide) ?_
      have e2 : mkD (M 2) g (k + 1) = upd (mkD (M 2) g k) (28 + k) 0 := by rw [mkD, if_pos]; unfold gB; simpa using (and1_iff.mp c31)
      rw [nI_1]
      have h9 := ih (k + 1) (by omega) (by omega) (some (.ref (A (5 + 12 * 2 + k))))
      rw [e2] at h9
      rw [upB_stB]
      exact h9
  refine a_iconst (v := 0) B dX3_makeFast_0 (by decide) ?_
  refine p_istore2 B dX3_makeFast_1 (by decide) (k := ?_)
  refine a_mem (stB_id (b := 2)).symm ?_
  exact loop (N + 1) 0 (by omega) (by omega) _
set_option maxRecDepth 20000 in
set_option maxHeartbeats 4000000 in
theorem k_X3_fewestFasting (M : Mem) (hI0 : Inv (M 0)) (hI2 : Inv (M 2)) (t : Nat) (ht : t < 100000) : CC l sk D cy A X mX3_fewestFasting 5 [.ref (A 37), .ref (A 1), .int (nI t)] M (rS (oI (fasO (M 0) t)) M) := by
  refine Con.of (lo := [some (.ref (A 37)), some (.ref (A 1)), some (.int (nI t)), none, none]) cf_X3_fewestFasting (fun _ _ => wl_fst) 2 rfl (Nat.le_of_ble_eq_true rfl) (fun Pp Ee Ss Mm Aa Bb Me Cc A0 B hr hlk => ?_)
  have B : BS sk D cy (wl A cy 51 TC X) A0 Pp Ss Mm Aa Cc RX3 cX3_fewestFasting 5 := B
  obtain ⟨N, hN, eN, eNo⟩ := hI0.n
  have hp := pow9 hN
  have inner : ∀ z, z ≤ N → fst2 (fasQ (M 0) t) (2 ^ N) z = none → (fst2 (fasQ (M 0) t) (2 ^ N) (z + 1) = none → ∀ d2, Inv d2 → AW Pp l Ee (rmK 5 (34 * 5)) Ss Mm Aa Bb Me Cc D (wl A cy 51 TC X) A0 5 0 0 (MQ Bb (QG D (wl A cy 51 TC X) A0 (rS (oI (fasO (M 0) t)) M)) Aa Ss 0 0 A0) 64 [some (.ref (A 37)), some (.ref (A 1)), some (.int (nI t)), some (.int (nI z)), some (.int (nI (2 ^ N)))] [] (stB M 2 d2)) → ∀ n k, 2 ^ N + 1 ≤ k + n → k ≤ 2 ^ N → fstN ((fasQ (M 0) t) z) k = none → ∀ d2, Inv d2 → AW Pp l Ee (rmK 5 (34 * 5)) Ss Mm Aa Bb Me Cc D (wl A cy 51 TC X) A0 5 0 0 (MQ Bb (QG D (wl A cy 51 TC X) A0 (rS (oI (fasO (M 0) t)) M)) Aa Ss 0 0 A0) 13 [some (.ref (A 37)), some (.ref (A 1)), some (.int (nI t)), some (.int (nI z)), some (.int (nI k))] [] (stB M 2 d2) := by
    intro z hz hz0 hout n
    induction n with
    | zero => intro k h1 h2; omega
    | succ n ih =>
      intro k h1 h2 h3 d2 hId
      refine a_iload B dX3_fewestFasting_13 rfl ?_
      refine a_iconst (v := 1) B dX3_fewestFasting_15 (by decide) ?_
      refine a_aload_n B dX3_fewestFasting_16 rfl ?_
      refine a_getI B fl_X3_90 (by decide) rfl rfl dX3_fewestFasting_17 ?_
      refine a_ishl B dX3_fewestFasting_20 ?_
      rw [stB_ne (show (0 : Nat) ≠ 2 by decide), eN, shl9 N (by omega)]
      refine a_icmp_ge 64 B dX3_fewestFasting_21 (by decide) (fun c21 => ?_) (fun c21 => ?_)
      · have e1 : k = 2 ^ N := by have := ge_n c21 rfl rfl (by omega) (by omega); omega
        subst e1
        exact hout (by rw [fst2, hz0]; exact h3) _ hId
      have hlt0 := lt_n c21 rfl rfl (by omega) (by omega)
      refine a_iload B dX3_fewestFasting_24 rfl ?_
      refine a_callS1r B rfl cf_J6_bitCount_0f7a4 lk_X3_49 st_J6_bitCount_0f7a4 (k_J6_bitCount_0f7a4 _ _) dX3_fewestFasting_26 (Nat.le_of_ble_eq_true rfl) ⟨Nat.le_of_ble_eq_true rfl, Nat.le_of_ble_eq_true rfl⟩ ⟨rfl, rfl⟩ ?_
      refine a_iload_n B dX3_fewestFasting_29 rfl ?_
      refine a_icmp_ne 58 B dX3_fewestFasting_30 (by decide) (fun c30 => ?_) (fun c30 => ?_)
      · refine p_iinc4 1 B dX3_fewestFasting_58 (by decide) (by decide) (k := ?_)
        refine a_goto 13 B dX3_fewestFasting_61 (by decide) ?_
        rw [nI_1]
        exact ih (k + 1) (by omega) (by omega) (fst_no h3 (by unfold fasQ; rw [decide_eq_false c30]; rfl)) _ hId
      refine a_aload_n B dX3_fewestFasting_33 rfl ?_
      refine a_getR B fl_X3_12 (by decide) rfl rfl dX3_fewestFasting_34 ?_
      refine a_aload_n B dX3_fewestFasting_37 rfl ?_
      refine a_callV1v B rfl cf_X0_becomeLike lk_X3_18 in_X0_becomeLike se_X0_becomeLike (wl_rc (p0 := 25) (by decide) rfl rfl rfl) (k_X0_becomeLike 2 0 (by decide) (by decide) (by decide) _ (by rw [stB_ne (show (0 : Nat) ≠ 2 by decide)]; exact hI0)) dX3_fewestFasting_38 (Nat.le_of_ble_eq_true rfl) ⟨Nat.le_of_ble_eq_true rfl, Nat.le_of_ble_eq_true rfl⟩ ⟨rfl, rfl⟩ ?_
      rw [stB_at, stB_ne (show (0 : Nat) ≠ 2 by decide), stB_st]
      have hS := Sim.like (d := d2) hI0
      have hIr : Inv (likeF d2 (M 0)) := hId.like hI0 _
      generalize likeF d2 (M 0) = dr at hS hIr ⊢
      refine a_aload_n B dX3_fewestFasting_41 rfl ?_
      refine a_iload B dX3_fewestFasting_42 rfl ?_
      refine a_callV1v B rfl cf_X3_makeFast lk_X3_93 in_X3_makeFast se_X3_makeFast (wl_rc (p0 := 37) (by decide) rfl rfl rfl) (k_X3_makeFast _ (by rw [stB_at]; exact hIr) _) dX3_fewestFasting_44 (Nat.le_of_ble_eq_true rfl) ⟨Nat.le_of_ble_eq_true rfl, Nat.le_of_ble_eq_true rfl⟩ ⟨rfl, rfl⟩ ?_
      rw [stB_at, stB_st]
      have hIw := hIr.mk (g := nI k) (nOf dr) (by rw [hS.n]; omega)
      have hq : qui (mkD dr (nI k) (nOf dr)) t = qui (mkD (M 0) (nI k) (nOf (M 0))) t := by rw [hS.n]; exact (hS.mk _).qui (by rw [← hS.n]; exact hIw)
      refine a_aload_n B dX3_fewestFasting_47 rfl ?_
      refine a_iload_n B dX3_fewestFasting_48 rfl ?_
      refine a_callV1p B rfl cf_X3_staysQuiet lk_X3_79 in_X3_staysQuiet se_X3_staysQuiet (wl_rc (p0 := 37) (by decide) rfl rfl rfl) (k_X3_staysQuiet _ (by rw [stB_at]; exact hIw) t ht) dX3_fewestFasting_49 (Nat.le_of_ble_eq_true rfl) ⟨Nat.le_of_ble_eq_true rfl, Nat.le_of_ble_eq_true rfl⟩ ⟨rfl, rfl⟩ ?_
      rintro _ _ ⟨rfl, dq, hIq, rfl⟩
      rw [stB_at, stB_st]
      show AW Pp l Ee _ Ss Mm Aa Bb Me Cc D _ A0 _ 0 0 _ _ _ (_ :: _) _
      refine a_if_eq 58 B dX3_fewestFasting_52 (by decide) (fun c52 => ?_) (fun c52 => ?_)
      · refine p_iinc4 1 B dX3_fewestFasting_58 (by decide) (by decide) (k := ?_)
        refine a_goto 13 B dX3_fewestFasting_61 (by decide) ?_
        rw [nI_1]
        exact ih (k + 1) (by omega) (by omega) (fst_no h3 (by unfold fasQ; rw [← hq, bI_eq0.mp c52]; exact Bool.and_false _)) _ hIq
      refine a_iload B dX3_fewestFasting_55 rfl ?_
      have e0 : (fasQ (M 0) t) z k = true := by
        unfold fasQ
        rw [decide_eq_true c30, ← hq]
        cases hb : qui (mkD dr (nI k) (nOf dr)) t with
        | true => rfl
        | false => exact absurd (by rw [hb]; rfl) c52
      have e3 : fst2 (fasQ (M 0) t) (2 ^ N) (z + 1) = some k := by rw [fst2, hz0]; exact fst_up (fst_yes h3 e0) _ (by omega)
      exact a_iret B hr hlk dX3_fewestFasting_57 ⟨by rw [fasO, eNo, fst2_up e3 (N + 1) (by omega)]; rfl, _, hIq, rfl⟩
  have loop : ∀ n k, N + 2 ≤ k + n → k ≤ N + 1 → fst2 (fasQ (M 0) t) (2 ^ N) k = none → ∀ d2, Inv d2 → ∀ o4 : Option Value, AW Pp l Ee (rmK 5 (34 * 5)) Ss Mm Aa Bb Me Cc D (wl A cy 51 TC X) A0 5 0 0 (MQ Bb (QG D (wl A cy 51 TC X) A0 (rS (oI (fasO (M 0) t)) M)) Aa Ss 0 0 A0) 2 [some (.ref (A 37)), some (.ref (A 1)), some (.int (nI t)), some (.int (nI k)), o4] [] (stB M 2 d2) := by
    intro n
    induction n with
    | zero => intro k h1 h2; omega
    | succ n ih =>
      intro k h1 h2 h3 d2 hId o4
      refine a_iload_n B dX3_fewestFasting_2 rfl ?_
      refine a_aload_n B dX3_fewestFasting_3 rfl ?_
      refine a_getI B fl_X3_90 (by decide) rfl rfl dX3_fewestFasting_4 ?_
      rw [stB_ne (show (0 : Nat) ≠ 2 by decide), eN]
      refine a_icmp_gt 70 B dX3_fewestFasting_7 (by decide) (fun c7 => ?_) (fun c7 => ?_)
      · have e1 : k = N + 1 := by have := (nI_ltI (by omega) (by omega)).mp c7; omega
        subst e1
        refine a_iconst (v := (-1)) B dX3_fewestFasting_70 (by decide) ?_
        exact a_iret B hr hlk dX3_fewestFasting_71 ⟨by rw [fasO, eNo, h3]; rfl, _, hId, rfl⟩
      have hlt0 : k ≤ N := Nat.le_of_not_lt (fun q => c7 ((nI_ltI (by omega) (by omega)).mpr q))
      refine a_iconst (v := 0) B dX3_fewestFasting_10 (by decide) ?_
      refine p_istore4 B dX3_fewestFasting_11 (by decide) (k := ?_)
      refine inner k hlt0 h3 (fun h4 d3 hId3 => ?_) (2 ^ N + 1) 0 (by rw [Nat.zero_add]; exact Nat.le_refl _) (Nat.zero_le _) rfl _ hId
      refine p_iinc3 1 B dX3_fewestFasting_64 (by decide) (by decide) (k := ?_)
      refine a_goto 2 B dX3_fewestFasting_67 (by decide) ?_
      rw [nI_1]
      exact ih (k + 1) (by omega) (by omega) h4 _ hId3 _
  refine a_iconst (v := 0) B dX3_fewestFasting_0 (by decide) ?_
  refine p_istore3 B dX3_fewestFasting_1 (by decide) (k := ?_)
  refine a_mem (stB_id (b := 2)).symm ?_
  exact loop (N + 2) 0 (by omega) (by omega) rfl _ hI2 _
end C6
