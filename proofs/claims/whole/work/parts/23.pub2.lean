section C10

theorem rQ_n {x : Oc} {M1 M M' : Mem} {v : Option Value} (h : rQ x M1 M v M') : rQ x M1 M v M' := h
theorem wvO_n (o : Option Nat) (h : ∀ k, o = some k → k ≤ 40) : (wvO o < 0 ↔ o = none) := by
  cases o with
  | none => exact ⟨fun _ => rfl, fun _ => by decide⟩
  | some k =>
    have h1 : ¬ wvO (some k) < 0 := nI_pos (by omega)
    exact ⟨fun q => absurd q h1, fun q => by cases q⟩
theorem amin_nn {f : Nat → Int32} {l0 : Int32} : ∀ n, ∃ q, q ≤ n ∧ (amin f l0 n).1 = nI q := by
  intro n
  induction n with
  | zero => exact ⟨0, by omega, rfl⟩
  | succ n ih =>
    by_cases h : f n < (amin f l0 n).2
    · exact ⟨n, by omega, by rw [amin_lt h]⟩
    · rw [amin_ge h]; obtain ⟨q, h1, h2⟩ := ih; exact ⟨q, by omega, h2⟩

variable {l : Launch} {sk : (Nat → Nat) × (Nat → Nat)} {D : va_G} {cy : Nat → ClassId} {A : Nat → Nat} {X : va_W}
set_option maxRecDepth 20000 in
set_option maxHeartbeats 4000000 in
theorem k_X6_ahead (v what n1 : Int32) (M : Mem) (hJ : CI M) : CC l sk D cy A X mX6_ahead 6 [.ref (A 0), .int v, .int what, .int n1] M (rQ (aheX (M 0) v what n1) (M) M) := by
  refine Con.of (lo := [some (.ref (A 0)), some (.int v), some (.int what), some (.int n1)]) cf_X6_ahead (fun _ _ => wl_fst) 0 rfl (Nat.le_of_ble_eq_true rfl) (fun Pp Ee Ss Mm Aa Bb Me Cc A0 B hr hlk => ?_)
  have B : BS sk D cy (wl A cy 51 TC X) A0 Pp Ss Mm Aa Cc RX6 cX6_ahead 4 := B
  obtain ⟨hI0, hI1, hI2, hT, hZ⟩ := hJ
  rcases at_cases hI0 v with ⟨q, hqn, hq8, hvq, hip, hlt⟩ | ⟨hn, hip⟩
  · subst hvq
    refine a_aload_n B dX6_ahead_0 rfl ?_
    refine a_getR B fl_X6_12 (by decide) rfl rfl dX6_ahead_1 ?_
    refine a_iload_n B dX6_ahead_4 rfl ?_
    refine a_callV1r B rfl cf_X0_at lk_X6_81 in_X0_at se_X0_at (wl_rc (p0 := 1) (by decide) rfl rfl rfl) (k_X0_at 0 q (by decide) hq8 _ hlt) dX6_ahead_5 (Nat.le_of_ble_eq_true rfl) ⟨Nat.le_of_ble_eq_true rfl, Nat.le_of_ble_eq_true rfl⟩ ⟨rfl, rfl⟩ ?_
    refine a_ifnull B dX6_ahead_8 ?_
    refine a_iload_n B dX6_ahead_11 rfl ?_
    refine a_callS1r B rfl cf_X6_changesByDays lk_X6_141 st_X6_changesByDays (k_X6_changesByDays _ _) dX6_ahead_12 (Nat.le_of_ble_eq_true rfl) ⟨Nat.le_of_ble_eq_true rfl, Nat.le_of_ble_eq_true rfl⟩ ⟨rfl, rfl⟩ ?_
    refine a_if_eq 27 B dX6_ahead_15 (by decide) (fun c15 => ?_) (fun c15 => ?_)
    · have c15 := bI_eq0.mp c15
      refine a_aload_n B dX6_ahead_27 rfl ?_
      refine a_ldc B dX6_ahead_28 kc_X6_59 ?_
      refine a_callV1r B rfl cf_X6_tell lk_X6_60 in_X6_tell se_X6_tell (wl_rc (p0 := 0) (by decide) rfl rfl rfl) (k_X6_tell 0 (by decide) _ (by decide) _) dX6_ahead_30 (Nat.le_of_ble_eq_true rfl) ⟨Nat.le_of_ble_eq_true rfl, Nat.le_of_ble_eq_true rfl⟩ ⟨rfl, rfl⟩ ?_
      exact a_iret B hr hlk dX6_ahead_33 (rQr0 (k := 0) (by simp [aheX, hip, c15]) (by decide) hI2 rfl)
    have c15 := bI_ne0.mp c15
    refine a_iload_n B dX6_ahead_18 rfl ?_
    refine a_bipush (v := 100) B dX6_ahead_19 (by decide) ?_
    refine a_callS2r B rfl cf_X6_within lk_X6_48 st_X6_within (k_X6_within _ _ _) dX6_ahead_21 (Nat.le_of_ble_eq_true rfl) ⟨Nat.le_of_ble_eq_true rfl, Nat.le_of_ble_eq_true rfl⟩ ⟨rfl, rfl⟩ ?_
    refine a_if_ne 34 B dX6_ahead_24 (by decide) (fun c24 => ?_) (fun c24 => ?_)
    · have c24 := bI_ne0.mp c24
      obtain ⟨t, htt, hte⟩ := wi_T (t := 100) c24 (by omega)
      subst hte
      refine a_aload_n B dX6_ahead_34 rfl ?_
      refine a_getR B fl_X6_26 (by decide) rfl rfl dX6_ahead_35 ?_
      refine a_aload_n B dX6_ahead_38 rfl ?_
      refine a_getR B fl_X6_12 (by decide) rfl rfl dX6_ahead_39 ?_
      refine a_iload_n B dX6_ahead_42 rfl ?_
      refine a_iload_n B dX6_ahead_43 rfl ?_
      refine a_iload_n B dX6_ahead_44 rfl ?_
      refine a_callV4p B rfl cf_X3_tellBehind lk_X6_144 in_X3_tellBehind se_X3_tellBehind (wl_rc (p0 := 37) (by decide) rfl rfl rfl) (k_X3_tellBehind _ hI0 hI2 q hqn _ t (by omega)) dX6_ahead_45 (Nat.le_of_ble_eq_true rfl) ⟨Nat.le_of_ble_eq_true rfl, Nat.le_of_ble_eq_true rfl⟩ ⟨rfl, rfl⟩ ?_
      rintro _ _ ⟨rfl, dq, hIq, rfl⟩
      show AW Pp l Ee _ Ss Mm Aa Bb Me Cc D _ A0 _ 0 0 _ _ _ (_ :: _) _
      exact a_iret B hr hlk dX6_ahead_48 (rQl (by simp [aheX, hip, nn_nI (show q < 2 ^ 31 by omega), nn_nI (show t < 2 ^ 31 by omega), c15, c24]) hIq rfl)
    have c24 := bI_eq0.mp c24
    refine a_aload_n B dX6_ahead_27 rfl ?_
    refine a_ldc B dX6_ahead_28 kc_X6_59 ?_
    refine a_callV1r B rfl cf_X6_tell lk_X6_60 in_X6_tell se_X6_tell (wl_rc (p0 := 0) (by decide) rfl rfl rfl) (k_X6_tell 0 (by decide) _ (by decide) _) dX6_ahead_30 (Nat.le_of_ble_eq_true rfl) ⟨Nat.le_of_ble_eq_true rfl, Nat.le_of_ble_eq_true rfl⟩ ⟨rfl, rfl⟩ ?_
    exact a_iret B hr hlk dX6_ahead_33 (rQr0 (k := 0) (by simp [aheX, hip, c15, c24]) (by decide) hI2 rfl)
  · refine a_aload_n B dX6_ahead_0 rfl ?_
    refine a_getR B fl_X6_12 (by decide) rfl rfl dX6_ahead_1 ?_
    refine a_iload_n B dX6_ahead_4 rfl ?_
    refine a_callV1r B rfl cf_X0_at lk_X6_81 in_X0_at se_X0_at (wl_rc (p0 := 1) (by decide) rfl rfl rfl) (k_X0_atN 0 (by decide) _ _ hn) dX6_ahead_5 (Nat.le_of_ble_eq_true rfl) ⟨Nat.le_of_ble_eq_true rfl, Nat.le_of_ble_eq_true rfl⟩ ⟨rfl, rfl⟩ ?_
    refine a_ifnullN 27 B dX6_ahead_8 (by decide) ?_
    refine a_aload_n B dX6_ahead_27 rfl ?_
    refine a_ldc B dX6_ahead_28 kc_X6_59 ?_
    refine a_callV1r B rfl cf_X6_tell lk_X6_60 in_X6_tell se_X6_tell (wl_rc (p0 := 0) (by decide) rfl rfl rfl) (k_X6_tell 0 (by decide) _ (by decide) _) dX6_ahead_30 (Nat.le_of_ble_eq_true rfl) ⟨Nat.le_of_ble_eq_true rfl, Nat.le_of_ble_eq_true rfl⟩ ⟨rfl, rfl⟩ ?_
    exact a_iret B hr hlk dX6_ahead_33 (rQr0 (k := 0) (by simp [aheX, hip]) (by decide) hI2 rfl)
set_option maxRecDepth 20000 in
set_option maxHeartbeats 4000000 in
theorem k_X6_ill (v : Int32) (M : Mem) (hJ : CI M) : CC l sk D cy A X mX6_ill 6 [.ref (A 0), .int v] M (rQ (illX (M 0) v) (M) M) := by
  refine Con.of (lo := [some (.ref (A 0)), some (.int v)]) cf_X6_ill (fun _ _ => wl_fst) 0 rfl (Nat.le_of_ble_eq_true rfl) (fun Pp Ee Ss Mm Aa Bb Me Cc A0 B hr hlk => ?_)
  have B : BS sk D cy (wl A cy 51 TC X) A0 Pp Ss Mm Aa Cc RX6 cX6_ill 2 := B
  obtain ⟨hI0, hI1, hI2, hT, hZ⟩ := hJ
  rcases at_cases hI0 v with ⟨q, hqn, hq8, hvq, hip, hlt⟩ | ⟨hn, hip⟩
  · subst hvq
    refine a_aload_n B dX6_ill_0 rfl ?_
    refine a_getR B fl_X6_12 (by decide) rfl rfl dX6_ill_1 ?_
    refine a_iload_n B dX6_ill_4 rfl ?_
    refine a_callV1r B rfl cf_X0_at lk_X6_81 in_X0_at se_X0_at (wl_rc (p0 := 1) (by decide) rfl rfl rfl) (k_X0_at 0 q (by decide) hq8 _ hlt) dX6_ill_5 (Nat.le_of_ble_eq_true rfl) ⟨Nat.le_of_ble_eq_true rfl, Nat.le_of_ble_eq_true rfl⟩ ⟨rfl, rfl⟩ ?_
    refine a_ifnull B dX6_ill_8 ?_
    refine a_aload_n B dX6_ill_11 rfl ?_
    refine a_aload_n B dX6_ill_12 rfl ?_
    refine a_getR B fl_X6_26 (by decide) rfl rfl dX6_ill_13 ?_
    refine a_aload_n B dX6_ill_16 rfl ?_
    refine a_getR B fl_X6_12 (by decide) rfl rfl dX6_ill_17 ?_
    refine a_iload_n B dX6_ill_20 rfl ?_
    refine a_callV2p B rfl cf_X3_daysTillIll lk_X6_148 in_X3_daysTillIll se_X3_daysTillIll (wl_rc (p0 := 37) (by decide) rfl rfl rfl) (k_X3_daysTillIll _ hI0 hI2 q hqn) dX6_ill_21 (Nat.le_of_ble_eq_true rfl) ⟨Nat.le_of_ble_eq_true rfl, Nat.le_of_ble_eq_true rfl⟩ ⟨rfl, rfl⟩ ?_
    rintro _ _ ⟨rfl, dq, hIq, rfl⟩
    show AW Pp l Ee _ Ss Mm Aa Bb Me Cc D _ A0 _ 0 0 _ _ _ (_ :: _) _
    refine a_callV1r B rfl cf_X6_orNone lk_X6_112 in_X6_orNone se_X6_orNone (wl_rc (p0 := 0) (by decide) rfl rfl rfl) (k_X6_orNone _ _) dX6_ill_24 (Nat.le_of_ble_eq_true rfl) ⟨Nat.le_of_ble_eq_true rfl, Nat.le_of_ble_eq_true rfl⟩ ⟨rfl, rfl⟩ ?_
    refine a_goto 36 B dX6_ill_27 (by decide) ?_
    exact a_iret B hr hlk dX6_ill_36 (rQ_on (o := _) (by simp [illX, hip, nn_nI (show q < 2 ^ 31 by omega)]) (fun k hk => by have := fst_lt _ _ hk; omega) hIq)
  · refine a_aload_n B dX6_ill_0 rfl ?_
    refine a_getR B fl_X6_12 (by decide) rfl rfl dX6_ill_1 ?_
    refine a_iload_n B dX6_ill_4 rfl ?_
    refine a_callV1r B rfl cf_X0_at lk_X6_81 in_X0_at se_X0_at (wl_rc (p0 := 1) (by decide) rfl rfl rfl) (k_X0_atN 0 (by decide) _ _ hn) dX6_ill_5 (Nat.le_of_ble_eq_true rfl) ⟨Nat.le_of_ble_eq_true rfl, Nat.le_of_ble_eq_true rfl⟩ ⟨rfl, rfl⟩ ?_
    refine a_ifnullN 30 B dX6_ill_8 (by decide) ?_
    refine a_aload_n B dX6_ill_30 rfl ?_
    refine a_ldc B dX6_ill_31 kc_X6_59 ?_
    refine a_callV1r B rfl cf_X6_tell lk_X6_60 in_X6_tell se_X6_tell (wl_rc (p0 := 0) (by decide) rfl rfl rfl) (k_X6_tell 0 (by decide) _ (by decide) _) dX6_ill_33 (Nat.le_of_ble_eq_true rfl) ⟨Nat.le_of_ble_eq_true rfl, Nat.le_of_ble_eq_true rfl⟩ ⟨rfl, rfl⟩ ?_
    exact a_iret B hr hlk dX6_ill_36 (rQr0 (k := 0) (by simp [illX, hip]) (by decide) hI2 rfl)
set_option maxRecDepth 20000 in
set_option maxHeartbeats 4000000 in
theorem k_X6_wise (v v2 : Int32) (M : Mem) (hJ : CI M) : CC l sk D cy A X mX6_wise 6 [.ref (A 0), .int v, .int v2] M (rQ (wisX (M 0) v v2) (M) M) := by
  refine Con.of (lo := [some (.ref (A 0)), some (.int v), some (.int v2)]) cf_X6_wise (fun _ _ => wl_fst) 0 rfl (Nat.le_of_ble_eq_true rfl) (fun Pp Ee Ss Mm Aa Bb Me Cc A0 B hr hlk => ?_)
  have B : BS sk D cy (wl A cy 51 TC X) A0 Pp Ss Mm Aa Cc RX6 cX6_wise 3 := B
  obtain ⟨hI0, hI1, hI2, hT, hZ⟩ := hJ
  rcases at_cases hI0 v with ⟨q, hqn, hq8, hvq, hip, hlt⟩ | ⟨hn, hip⟩
  · subst hvq
    refine a_aload_n B dX6_wise_0 rfl ?_
    refine a_getR B fl_X6_12 (by decide) rfl rfl dX6_wise_1 ?_
    refine a_iload_n B dX6_wise_4 rfl ?_
    refine a_callV1r B rfl cf_X0_at lk_X6_81 in_X0_at se_X0_at (wl_rc (p0 := 1) (by decide) rfl rfl rfl) (k_X0_at 0 q (by decide) hq8 _ hlt) dX6_wise_5 (Nat.le_of_ble_eq_true rfl) ⟨Nat.le_of_ble_eq_true rfl, Nat.le_of_ble_eq_true rfl⟩ ⟨rfl, rfl⟩ ?_
    refine a_ifnull B dX6_wise_8 ?_
    refine a_iload_n B dX6_wise_11 rfl ?_
    refine a_bipush (v := 8) B dX6_wise_12 (by decide) ?_
    refine a_callS2r B rfl cf_X6_within lk_X6_48 st_X6_within (k_X6_within _ _ _) dX6_wise_14 (Nat.le_of_ble_eq_true rfl) ⟨Nat.le_of_ble_eq_true rfl, Nat.le_of_ble_eq_true rfl⟩ ⟨rfl, rfl⟩ ?_
    refine a_if_ne 27 B dX6_wise_17 (by decide) (fun c17 => ?_) (fun c17 => ?_)
    · have c17 := bI_ne0.mp c17
      refine a_aload_n B dX6_wise_27 rfl ?_
      refine a_aload_n B dX6_wise_28 rfl ?_
      refine a_getR B fl_X6_26 (by decide) rfl rfl dX6_wise_29 ?_
      refine a_aload_n B dX6_wise_32 rfl ?_
      refine a_getR B fl_X6_12 (by decide) rfl rfl dX6_wise_33 ?_
      refine a_iload_n B dX6_wise_36 rfl ?_
      refine a_iload_n B dX6_wise_37 rfl ?_
      refine a_callV3p B rfl cf_X3_daysTillWise lk_X6_155 in_X3_daysTillWise se_X3_daysTillWise (wl_rc (p0 := 37) (by decide) rfl rfl rfl) (k_X3_daysTillWise _ hI0 hI2 q hqn _) dX6_wise_38 (Nat.le_of_ble_eq_true rfl) ⟨Nat.le_of_ble_eq_true rfl, Nat.le_of_ble_eq_true rfl⟩ ⟨rfl, rfl⟩ ?_
      rintro _ _ ⟨rfl, dq, hIq, rfl⟩
      show AW Pp l Ee _ Ss Mm Aa Bb Me Cc D _ A0 _ 0 0 _ _ _ (_ :: _) _
      refine a_callV1r B rfl cf_X6_orNone lk_X6_112 in_X6_orNone se_X6_orNone (wl_rc (p0 := 0) (by decide) rfl rfl rfl) (k_X6_orNone _ _) dX6_wise_41 (Nat.le_of_ble_eq_true rfl) ⟨Nat.le_of_ble_eq_true rfl, Nat.le_of_ble_eq_true rfl⟩ ⟨rfl, rfl⟩ ?_
      exact a_iret B hr hlk dX6_wise_44 (rQ_on (o := _) (by simp [wisX, hip, nn_nI (show q < 2 ^ 31 by omega), c17]) (fun k hk => by have := fst_lt _ _ hk; omega) hIq)
    have c17 := bI_eq0.mp c17
    refine a_aload_n B dX6_wise_20 rfl ?_
    refine a_ldc B dX6_wise_21 kc_X6_59 ?_
    refine a_callV1r B rfl cf_X6_tell lk_X6_60 in_X6_tell se_X6_tell (wl_rc (p0 := 0) (by decide) rfl rfl rfl) (k_X6_tell 0 (by decide) _ (by decide) _) dX6_wise_23 (Nat.le_of_ble_eq_true rfl) ⟨Nat.le_of_ble_eq_true rfl, Nat.le_of_ble_eq_true rfl⟩ ⟨rfl, rfl⟩ ?_
    exact a_iret B hr hlk dX6_wise_26 (rQr0 (k := 0) (by simp [wisX, hip, c17]) (by decide) hI2 rfl)
  · refine a_aload_n B dX6_wise_0 rfl ?_
    refine a_getR B fl_X6_12 (by decide) rfl rfl dX6_wise_1 ?_
    refine a_iload_n B dX6_wise_4 rfl ?_
    refine a_callV1r B rfl cf_X0_at lk_X6_81 in_X0_at se_X0_at (wl_rc (p0 := 1) (by decide) rfl rfl rfl) (k_X0_atN 0 (by decide) _ _ hn) dX6_wise_5 (Nat.le_of_ble_eq_true rfl) ⟨Nat.le_of_ble_eq_true rfl, Nat.le_of_ble_eq_true rfl⟩ ⟨rfl, rfl⟩ ?_
    refine a_ifnullN 20 B dX6_wise_8 (by decide) ?_
    refine a_aload_n B dX6_wise_20 rfl ?_
    refine a_ldc B dX6_wise_21 kc_X6_59 ?_
    refine a_callV1r B rfl cf_X6_tell lk_X6_60 in_X6_tell se_X6_tell (wl_rc (p0 := 0) (by decide) rfl rfl rfl) (k_X6_tell 0 (by decide) _ (by decide) _) dX6_wise_23 (Nat.le_of_ble_eq_true rfl) ⟨Nat.le_of_ble_eq_true rfl, Nat.le_of_ble_eq_true rfl⟩ ⟨rfl, rfl⟩ ?_
    exact a_iret B hr hlk dX6_wise_26 (rQr0 (k := 0) (by simp [wisX, hip]) (by decide) hI2 rfl)
set_option maxRecDepth 20000 in
set_option maxHeartbeats 4000000 in
theorem k_X6_when (v v2 : Int32) (M : Mem) (hJ : CI M) : CC l sk D cy A X mX6_when 6 [.ref (A 0), .int v, .int v2] M (rQ (whnX (M 0) v v2) (M) M) := by
  refine Con.of (lo := [some (.ref (A 0)), some (.int v), some (.int v2)]) cf_X6_when (fun _ _ => wl_fst) 0 rfl (Nat.le_of_ble_eq_true rfl) (fun Pp Ee Ss Mm Aa Bb Me Cc A0 B hr hlk => ?_)
  have B : BS sk D cy (wl A cy 51 TC X) A0 Pp Ss Mm Aa Cc RX6 cX6_when 3 := B
  obtain ⟨hI0, hI1, hI2, hT, hZ⟩ := hJ
  rcases at_cases hI0 v with ⟨q, hqn, hq8, hvq, hip, hlt⟩ | ⟨hn, hip⟩
  · subst hvq
    refine a_aload_n B dX6_when_0 rfl ?_
    refine a_getR B fl_X6_12 (by decide) rfl rfl dX6_when_1 ?_
    refine a_iload_n B dX6_when_4 rfl ?_
    refine a_callV1r B rfl cf_X0_at lk_X6_81 in_X0_at se_X0_at (wl_rc (p0 := 1) (by decide) rfl rfl rfl) (k_X0_at 0 q (by decide) hq8 _ hlt) dX6_when_5 (Nat.le_of_ble_eq_true rfl) ⟨Nat.le_of_ble_eq_true rfl, Nat.le_of_ble_eq_true rfl⟩ ⟨rfl, rfl⟩ ?_
    refine a_ifnull B dX6_when_8 ?_
    refine a_iload_n B dX6_when_11 rfl ?_
    refine a_sipush (v := 999) B dX6_when_12 (by decide) ?_
    refine a_callS2r B rfl cf_X6_within lk_X6_48 st_X6_within (k_X6_within _ _ _) dX6_when_15 (Nat.le_of_ble_eq_true rfl) ⟨Nat.le_of_ble_eq_true rfl, Nat.le_of_ble_eq_true rfl⟩ ⟨rfl, rfl⟩ ?_
    refine a_if_ne 28 B dX6_when_18 (by decide) (fun c18 => ?_) (fun c18 => ?_)
    · have c18 := bI_ne0.mp c18
      refine a_aload_n B dX6_when_28 rfl ?_
      refine a_aload_n B dX6_when_29 rfl ?_
      refine a_getR B fl_X6_26 (by decide) rfl rfl dX6_when_30 ?_
      refine a_aload_n B dX6_when_33 rfl ?_
      refine a_getR B fl_X6_12 (by decide) rfl rfl dX6_when_34 ?_
      refine a_iload_n B dX6_when_37 rfl ?_
      refine a_iload_n B dX6_when_38 rfl ?_
      refine a_callV3p B rfl cf_X3_daysTillStuffed lk_X6_159 in_X3_daysTillStuffed se_X3_daysTillStuffed (wl_rc (p0 := 37) (by decide) rfl rfl rfl) (k_X3_daysTillStuffed _ hI0 hI2 q hqn _) dX6_when_39 (Nat.le_of_ble_eq_true rfl) ⟨Nat.le_of_ble_eq_true rfl, Nat.le_of_ble_eq_true rfl⟩ ⟨rfl, rfl⟩ ?_
      rintro _ _ ⟨rfl, dq, hIq, rfl⟩
      show AW Pp l Ee _ Ss Mm Aa Bb Me Cc D _ A0 _ 0 0 _ _ _ (_ :: _) _
      refine a_callV1r B rfl cf_X6_orNone lk_X6_112 in_X6_orNone se_X6_orNone (wl_rc (p0 := 0) (by decide) rfl rfl rfl) (k_X6_orNone _ _) dX6_when_42 (Nat.le_of_ble_eq_true rfl) ⟨Nat.le_of_ble_eq_true rfl, Nat.le_of_ble_eq_true rfl⟩ ⟨rfl, rfl⟩ ?_
      exact a_iret B hr hlk dX6_when_45 (rQ_on (o := _) (by simp [whnX, hip, nn_nI (show q < 2 ^ 31 by omega), c18]) (fun k hk => by have := fst_lt _ _ hk; omega) hIq)
    have c18 := bI_eq0.mp c18
    refine a_aload_n B dX6_when_21 rfl ?_
    refine a_ldc B dX6_when_22 kc_X6_59 ?_
    refine a_callV1r B rfl cf_X6_tell lk_X6_60 in_X6_tell se_X6_tell (wl_rc (p0 := 0) (by decide) rfl rfl rfl) (k_X6_tell 0 (by decide) _ (by decide) _) dX6_when_24 (Nat.le_of_ble_eq_true rfl) ⟨Nat.le_of_ble_eq_true rfl, Nat.le_of_ble_eq_true rfl⟩ ⟨rfl, rfl⟩ ?_
    exact a_iret B hr hlk dX6_when_27 (rQr0 (k := 0) (by simp [whnX, hip, c18]) (by decide) hI2 rfl)
  · refine a_aload_n B dX6_when_0 rfl ?_
    refine a_getR B fl_X6_12 (by decide) rfl rfl dX6_when_1 ?_
    refine a_iload_n B dX6_when_4 rfl ?_
    refine a_callV1r B rfl cf_X0_at lk_X6_81 in_X0_at se_X0_at (wl_rc (p0 := 1) (by decide) rfl rfl rfl) (k_X0_atN 0 (by decide) _ _ hn) dX6_when_5 (Nat.le_of_ble_eq_true rfl) ⟨Nat.le_of_ble_eq_true rfl, Nat.le_of_ble_eq_true rfl⟩ ⟨rfl, rfl⟩ ?_
    refine a_ifnullN 21 B dX6_when_8 (by decide) ?_
    refine a_aload_n B dX6_when_21 rfl ?_
    refine a_ldc B dX6_when_22 kc_X6_59 ?_
    refine a_callV1r B rfl cf_X6_tell lk_X6_60 in_X6_tell se_X6_tell (wl_rc (p0 := 0) (by decide) rfl rfl rfl) (k_X6_tell 0 (by decide) _ (by decide) _) dX6_when_24 (Nat.le_of_ble_eq_true rfl) ⟨Nat.le_of_ble_eq_true rfl, Nat.le_of_ble_eq_true rfl⟩ ⟨rfl, rfl⟩ ?_
    exact a_iret B hr hlk dX6_when_27 (rQr0 (k := 0) (by simp [whnX, hip]) (by decide) hI2 rfl)
set_option maxRecDepth 20000 in
set_option maxHeartbeats 4000000 in
theorem k_X6_spare (v n1 : Int32) (M : Mem) (hJ : CI M) : CC l sk D cy A X mX6_spare 6 [.ref (A 0), .int v, .int n1] M (rQ (spaX (M 0) v n1) (M) M) := by
  refine Con.of (lo := [some (.ref (A 0)), some (.int v), some (.int n1)]) cf_X6_spare (fun _ _ => wl_fst) 0 rfl (Nat.le_of_ble_eq_true rfl) (fun Pp Ee Ss Mm Aa Bb Me Cc A0 B hr hlk => ?_)
  have B : BS sk D cy (wl A cy 51 TC X) A0 Pp Ss Mm Aa Cc RX6 cX6_spare 3 := B
  obtain ⟨hI0, hI1, hI2, hT, hZ⟩ := hJ
  rcases at_cases hI0 v with ⟨q, hqn, hq8, hvq, hip, hlt⟩ | ⟨hn, hip⟩
  · subst hvq
    refine a_aload_n B dX6_spare_0 rfl ?_
    refine a_getR B fl_X6_12 (by decide) rfl rfl dX6_spare_1 ?_
    refine a_iload_n B dX6_spare_4 rfl ?_
    refine a_callV1r B rfl cf_X0_at lk_X6_81 in_X0_at se_X0_at (wl_rc (p0 := 1) (by decide) rfl rfl rfl) (k_X0_at 0 q (by decide) hq8 _ hlt) dX6_spare_5 (Nat.le_of_ble_eq_true rfl) ⟨Nat.le_of_ble_eq_true rfl, Nat.le_of_ble_eq_true rfl⟩ ⟨rfl, rfl⟩ ?_
    refine a_ifnull B dX6_spare_8 ?_
    refine a_iload_n B dX6_spare_11 rfl ?_
    refine a_bipush (v := 60) B dX6_spare_12 (by decide) ?_
    refine a_callS2r B rfl cf_X6_within lk_X6_48 st_X6_within (k_X6_within _ _ _) dX6_spare_14 (Nat.le_of_ble_eq_true rfl) ⟨Nat.le_of_ble_eq_true rfl, Nat.le_of_ble_eq_true rfl⟩ ⟨rfl, rfl⟩ ?_
    refine a_if_ne 27 B dX6_spare_17 (by decide) (fun c17 => ?_) (fun c17 => ?_)
    · have c17 := bI_ne0.mp c17
      obtain ⟨t, htt, hte⟩ := wi_T (t := 60) c17 (by omega)
      subst hte
      refine a_aload_n B dX6_spare_27 rfl ?_
      refine a_getR B fl_X6_26 (by decide) rfl rfl dX6_spare_28 ?_
      refine a_aload_n B dX6_spare_31 rfl ?_
      refine a_getR B fl_X6_12 (by decide) rfl rfl dX6_spare_32 ?_
      refine a_iload_n B dX6_spare_35 rfl ?_
      refine a_iload_n B dX6_spare_36 rfl ?_
      refine a_callV3p B rfl cf_X3_sinToSpare lk_X6_168 in_X3_sinToSpare se_X3_sinToSpare (wl_rc (p0 := 37) (by decide) rfl rfl rfl) (k_X3_sinToSpare _ hI0 hI2 q hqn t (by omega)) dX6_spare_37 (Nat.le_of_ble_eq_true rfl) ⟨Nat.le_of_ble_eq_true rfl, Nat.le_of_ble_eq_true rfl⟩ ⟨rfl, rfl⟩ ?_
      rintro _ _ ⟨rfl, dq, hIq, rfl⟩
      show AW Pp l Ee _ Ss Mm Aa Bb Me Cc D _ A0 _ 0 0 _ _ _ (_ :: _) _
      exact a_iret B hr hlk dX6_spare_40 (rQl (by simp [spaX, hip, nn_nI (show q < 2 ^ 31 by omega), nn_nI (show t < 2 ^ 31 by omega), c17]) hIq rfl)
    have c17 := bI_eq0.mp c17
    refine a_aload_n B dX6_spare_20 rfl ?_
    refine a_ldc B dX6_spare_21 kc_X6_59 ?_
    refine a_callV1r B rfl cf_X6_tell lk_X6_60 in_X6_tell se_X6_tell (wl_rc (p0 := 0) (by decide) rfl rfl rfl) (k_X6_tell 0 (by decide) _ (by decide) _) dX6_spare_23 (Nat.le_of_ble_eq_true rfl) ⟨Nat.le_of_ble_eq_true rfl, Nat.le_of_ble_eq_true rfl⟩ ⟨rfl, rfl⟩ ?_
    exact a_iret B hr hlk dX6_spare_26 (rQr0 (k := 0) (by simp [spaX, hip, c17]) (by decide) hI2 rfl)
  · refine a_aload_n B dX6_spare_0 rfl ?_
    refine a_getR B fl_X6_12 (by decide) rfl rfl dX6_spare_1 ?_
    refine a_iload_n B dX6_spare_4 rfl ?_
    refine a_callV1r B rfl cf_X0_at lk_X6_81 in_X0_at se_X0_at (wl_rc (p0 := 1) (by decide) rfl rfl rfl) (k_X0_atN 0 (by decide) _ _ hn) dX6_spare_5 (Nat.le_of_ble_eq_true rfl) ⟨Nat.le_of_ble_eq_true rfl, Nat.le_of_ble_eq_true rfl⟩ ⟨rfl, rfl⟩ ?_
    refine a_ifnullN 20 B dX6_spare_8 (by decide) ?_
    refine a_aload_n B dX6_spare_20 rfl ?_
    refine a_ldc B dX6_spare_21 kc_X6_59 ?_
    refine a_callV1r B rfl cf_X6_tell lk_X6_60 in_X6_tell se_X6_tell (wl_rc (p0 := 0) (by decide) rfl rfl rfl) (k_X6_tell 0 (by decide) _ (by decide) _) dX6_spare_23 (Nat.le_of_ble_eq_true rfl) ⟨Nat.le_of_ble_eq_true rfl, Nat.le_of_ble_eq_true rfl⟩ ⟨rfl, rfl⟩ ?_
    exact a_iret B hr hlk dX6_spare_26 (rQr0 (k := 0) (by simp [spaX, hip]) (by decide) hI2 rfl)
set_option maxRecDepth 20000 in
set_option maxHeartbeats 4000000 in
theorem k_X6_kindFor (v n1 : Int32) (M : Mem) (hJ : CI M) : CC l sk D cy A X mX6_kindFor 6 [.ref (A 0), .int v, .int n1] M (rQ (kinX (M 0) v n1) (M) M) := by
  refine Con.of (lo := [some (.ref (A 0)), some (.int v), some (.int n1)]) cf_X6_kindFor (fun _ _ => wl_fst) 0 rfl (Nat.le_of_ble_eq_true rfl) (fun Pp Ee Ss Mm Aa Bb Me Cc A0 B hr hlk => ?_)
  have B : BS sk D cy (wl A cy 51 TC X) A0 Pp Ss Mm Aa Cc RX6 cX6_kindFor 3 := B
  obtain ⟨hI0, hI1, hI2, hT, hZ⟩ := hJ
  rcases at_cases hI0 v with ⟨q, hqn, hq8, hvq, hip, hlt⟩ | ⟨hn, hip⟩
  · subst hvq
    refine a_aload_n B dX6_kindFor_0 rfl ?_
    refine a_getR B fl_X6_12 (by decide) rfl rfl dX6_kindFor_1 ?_
    refine a_iload_n B dX6_kindFor_4 rfl ?_
    refine a_callV1r B rfl cf_X0_at lk_X6_81 in_X0_at se_X0_at (wl_rc (p0 := 1) (by decide) rfl rfl rfl) (k_X0_at 0 q (by decide) hq8 _ hlt) dX6_kindFor_5 (Nat.le_of_ble_eq_true rfl) ⟨Nat.le_of_ble_eq_true rfl, Nat.le_of_ble_eq_true rfl⟩ ⟨rfl, rfl⟩ ?_
    refine a_ifnull B dX6_kindFor_8 ?_
    refine a_iload_n B dX6_kindFor_11 rfl ?_
    refine a_bipush (v := 60) B dX6_kindFor_12 (by decide) ?_
    refine a_callS2r B rfl cf_X6_within lk_X6_48 st_X6_within (k_X6_within _ _ _) dX6_kindFor_14 (Nat.le_of_ble_eq_true rfl) ⟨Nat.le_of_ble_eq_true rfl, Nat.le_of_ble_eq_true rfl⟩ ⟨rfl, rfl⟩ ?_
    refine a_if_ne 27 B dX6_kindFor_17 (by decide) (fun c17 => ?_) (fun c17 => ?_)
    · have c17 := bI_ne0.mp c17
      obtain ⟨t, htt, hte⟩ := wi_T (t := 60) c17 (by omega)
      subst hte
      refine a_aload_n B dX6_kindFor_27 rfl ?_
      refine a_getR B fl_X6_26 (by decide) rfl rfl dX6_kindFor_28 ?_
      refine a_aload_n B dX6_kindFor_31 rfl ?_
      refine a_getR B fl_X6_12 (by decide) rfl rfl dX6_kindFor_32 ?_
      refine a_iload_n B dX6_kindFor_35 rfl ?_
      refine a_iload_n B dX6_kindFor_36 rfl ?_
      refine a_callV3p B rfl cf_X3_healthiestKind lk_X6_171 in_X3_healthiestKind se_X3_healthiestKind (wl_rc (p0 := 37) (by decide) rfl rfl rfl) (k_X3_healthiestKind _ hI0 hI2 q hqn t (by omega)) dX6_kindFor_37 (Nat.le_of_ble_eq_true rfl) ⟨Nat.le_of_ble_eq_true rfl, Nat.le_of_ble_eq_true rfl⟩ ⟨rfl, rfl⟩ ?_
      rintro _ _ ⟨rfl, dq, hIq, rfl⟩
      show AW Pp l Ee _ Ss Mm Aa Bb Me Cc D _ A0 _ 0 0 _ _ _ (_ :: _) _
      exact a_iret B hr hlk dX6_kindFor_40 (rQl (by simp [kinX, hip, nn_nI (show q < 2 ^ 31 by omega), nn_nI (show t < 2 ^ 31 by omega), c17]) hIq rfl)
    have c17 := bI_eq0.mp c17
    refine a_aload_n B dX6_kindFor_20 rfl ?_
    refine a_ldc B dX6_kindFor_21 kc_X6_59 ?_
    refine a_callV1r B rfl cf_X6_tell lk_X6_60 in_X6_tell se_X6_tell (wl_rc (p0 := 0) (by decide) rfl rfl rfl) (k_X6_tell 0 (by decide) _ (by decide) _) dX6_kindFor_23 (Nat.le_of_ble_eq_true rfl) ⟨Nat.le_of_ble_eq_true rfl, Nat.le_of_ble_eq_true rfl⟩ ⟨rfl, rfl⟩ ?_
    exact a_iret B hr hlk dX6_kindFor_26 (rQr0 (k := 0) (by simp [kinX, hip, c17]) (by decide) hI2 rfl)
  · refine a_aload_n B dX6_kindFor_0 rfl ?_
    refine a_getR B fl_X6_12 (by decide) rfl rfl dX6_kindFor_1 ?_
    refine a_iload_n B dX6_kindFor_4 rfl ?_
    refine a_callV1r B rfl cf_X0_at lk_X6_81 in_X0_at se_X0_at (wl_rc (p0 := 1) (by decide) rfl rfl rfl) (k_X0_atN 0 (by decide) _ _ hn) dX6_kindFor_5 (Nat.le_of_ble_eq_true rfl) ⟨Nat.le_of_ble_eq_true rfl, Nat.le_of_ble_eq_true rfl⟩ ⟨rfl, rfl⟩ ?_
    refine a_ifnullN 20 B dX6_kindFor_8 (by decide) ?_
    refine a_aload_n B dX6_kindFor_20 rfl ?_
    refine a_ldc B dX6_kindFor_21 kc_X6_59 ?_
    refine a_callV1r B rfl cf_X6_tell lk_X6_60 in_X6_tell se_X6_tell (wl_rc (p0 := 0) (by decide) rfl rfl rfl) (k_X6_tell 0 (by decide) _ (by decide) _) dX6_kindFor_23 (Nat.le_of_ble_eq_true rfl) ⟨Nat.le_of_ble_eq_true rfl, Nat.le_of_ble_eq_true rfl⟩ ⟨rfl, rfl⟩ ?_
    exact a_iret B hr hlk dX6_kindFor_26 (rQr0 (k := 0) (by simp [kinX, hip]) (by decide) hI2 rfl)
set_option maxRecDepth 20000 in
theorem k_X6_wordsFor (i n1 : Int32) (M : Mem) (hJ : CI M) : CC l sk D cy A X mX6_wordsFor 6 [.ref (A 0), .int i, .int n1] M (rQ (worX (M 0) i n1) M M) := by
  refine Con.of (lo := [some (.ref (A 0)), some (.int i), some (.int n1)]) cf_X6_wordsFor (fun _ _ => wl_fst) 0 rfl (Nat.le_of_ble_eq_true rfl) (fun Pp Ee Ss Mm Aa Bb Me Cc A0 B hr hlk => ?_)
  have B : BS sk D cy (wl A cy 51 TC X) A0 Pp Ss Mm Aa Cc RX6 cX6_wordsFor 3 := B
  obtain ⟨hI0, hI1, hI2, hT, hZ⟩ := hJ
  refine a_iload_n B dX6_wordsFor_0 rfl ?_
  refine a_iconst (v := 5) B dX6_wordsFor_1 (by decide) ?_
  refine a_callS2r B rfl cf_X6_within lk_X6_48 st_X6_within (k_X6_within _ _ _) dX6_wordsFor_2 (Nat.le_of_ble_eq_true rfl) ⟨Nat.le_of_ble_eq_true rfl, Nat.le_of_ble_eq_true rfl⟩ ⟨rfl, rfl⟩ ?_
  refine a_if_eq 17 B dX6_wordsFor_5 (by decide) (fun c5 => ?_) (fun c5 => ?_)
  · have c5 := bI_eq0.mp c5
    refine a_aload_n B dX6_wordsFor_17 rfl ?_
    refine a_ldc B dX6_wordsFor_18 kc_X6_59 ?_
    refine a_callV1r B rfl cf_X6_tell lk_X6_60 in_X6_tell se_X6_tell (wl_rc (p0 := 0) (by decide) rfl rfl rfl) (k_X6_tell 0 (by decide) _ (by decide) _) dX6_wordsFor_20 (Nat.le_of_ble_eq_true rfl) ⟨Nat.le_of_ble_eq_true rfl, Nat.le_of_ble_eq_true rfl⟩ ⟨rfl, rfl⟩ ?_
    exact a_iret B hr hlk dX6_wordsFor_23 (rQr0 (k := 0) (by simp [worX, c5]) (by decide) hI2 rfl)
  have c5 := bI_ne0.mp c5
  refine a_iload_n B dX6_wordsFor_8 rfl ?_
  refine a_bipush (v := 60) B dX6_wordsFor_9 (by decide) ?_
  refine a_callS2r B rfl cf_X6_within lk_X6_48 st_X6_within (k_X6_within _ _ _) dX6_wordsFor_11 (Nat.le_of_ble_eq_true rfl) ⟨Nat.le_of_ble_eq_true rfl, Nat.le_of_ble_eq_true rfl⟩ ⟨rfl, rfl⟩ ?_
  refine a_if_ne 24 B dX6_wordsFor_14 (by decide) (fun c14 => ?_) (fun c14 => ?_)
  · have c14 := bI_ne0.mp c14
    obtain ⟨q, hqt, hqe⟩ := wi_T (t := 5) c5 (by omega)
    subst hqe
    obtain ⟨t, htt, hte⟩ := wi_T (t := 60) c14 (by omega)
    subst hte
    refine a_aload_n B dX6_wordsFor_24 rfl ?_
    refine a_aload_n B dX6_wordsFor_25 rfl ?_
    refine a_getR B fl_X6_26 (by decide) rfl rfl dX6_wordsFor_26 ?_
    refine a_aload_n B dX6_wordsFor_29 rfl ?_
    refine a_getR B fl_X6_12 (by decide) rfl rfl dX6_wordsFor_30 ?_
    refine a_iload_n B dX6_wordsFor_33 rfl ?_
    refine a_iload_n B dX6_wordsFor_34 rfl ?_
    refine a_callV3p B rfl cf_X3_mostHarmlessWords lk_X6_162 in_X3_mostHarmlessWords se_X3_mostHarmlessWords (wl_rc (p0 := 37) (by decide) rfl rfl rfl) (k_X3_mostHarmlessWords _ hI0 hI2 q t (by omega) (by omega)) dX6_wordsFor_35 (Nat.le_of_ble_eq_true rfl) ⟨Nat.le_of_ble_eq_true rfl, Nat.le_of_ble_eq_true rfl⟩ ⟨rfl, rfl⟩ ?_
    rintro _ _ ⟨rfl, dq, hIq, rfl⟩
    show AW Pp l Ee _ Ss Mm Aa Bb Me Cc D _ A0 _ 0 0 _ _ _ (_ :: _) _
    refine a_callV1r B rfl cf_X6_orNone lk_X6_112 in_X6_orNone se_X6_orNone (wl_rc (p0 := 0) (by decide) rfl rfl rfl) (k_X6_orNone _ _) dX6_wordsFor_38 (Nat.le_of_ble_eq_true rfl) ⟨Nat.le_of_ble_eq_true rfl, Nat.le_of_ble_eq_true rfl⟩ ⟨rfl, rfl⟩ ?_
    have hle : ∀ k, fstN (worQ (M 0) q t) 41 = some k → k ≤ 40 := fun k hk => by have := fst_lt _ _ hk; omega
    have hx := wvO_n _ hle
    have ex : worX (M 0) (nI q) (nI t) = wS (fstN (worQ (M 0) q t) 41) := by simp [worX, nn_nI (show q < 2 ^ 31 by omega), nn_nI (show t < 2 ^ 31 by omega), c5, c14]
    cases hs : fstN (worQ (M 0) q t) 41 with
    | none =>
      rw [hs] at ex
      exact a_iret B hr hlk dX6_wordsFor_41 (by rw [if_pos (show wvO none < 0 by decide), if_pos (show wvO none < 0 by decide)]; exact rQr ex rfl hIq tell_2)
    | some k =>
      rw [hs] at ex hle
      exact a_iret B hr hlk dX6_wordsFor_41 (by have h1 : ¬ wvO (some k) < 0 := nI_pos (by have := hle k rfl; omega); rw [if_neg h1, if_neg h1]; exact rQl ex hIq rfl)
  have c14 := bI_eq0.mp c14
  refine a_aload_n B dX6_wordsFor_17 rfl ?_
  refine a_ldc B dX6_wordsFor_18 kc_X6_59 ?_
  refine a_callV1r B rfl cf_X6_tell lk_X6_60 in_X6_tell se_X6_tell (wl_rc (p0 := 0) (by decide) rfl rfl rfl) (k_X6_tell 0 (by decide) _ (by decide) _) dX6_wordsFor_20 (Nat.le_of_ble_eq_true rfl) ⟨Nat.le_of_ble_eq_true rfl, Nat.le_of_ble_eq_true rfl⟩ ⟨rfl, rfl⟩ ?_
  exact a_iret B hr hlk dX6_wordsFor_23 (rQr0 (k := 0) (by simp [worX, c5, c14]) (by decide) hI2 rfl)

def setX (d : Dm) (what v : Int32) : Oc × Dm := if what = 0 ∧ wi v 9 = true then (.inl (d 3), upd d 3 v) else if what = 1 ∧ wi v 255 = true then (.inl (d 4), upd d 4 v) else (.inr 0, d)
def lisX (d : Dm) (i cf : Int32) : Oc × Dm := if wi i 5 && icB cf then (.inl (d (6 + nn i)), upd d (6 + nn i) cf) else (.inr 0, d)
def priX (d : Dm) (kind sins : Int32) : Oc × Dm := if wi kind 6 && wi sins 255 then (if welV d < 0 then (.inr 1, d) else (.inl (welV d), welF d kind sins)) else (.inr 0, d)
def chaX (d : Dm) (p what v : Int32) : Oc × Dm := if isP d p && mayV what v then (.inl (tellV d (nn p) what), putF d (nn p) what v) else (.inr 0, d)
def dieX (d : Dm) (p : Int32) : Oc × Dm := if isP d p then (nS (bestF d (neB (nn p)) (nOf d)), buryD d (nn p)) else (.inr 0, d)
def goX (d : Dm) (n : Int32) : Oc × Dm := if n < 1 then (.inr 0, d) else if 60 < n then (.inr 0, d) else if 99999 < d 1 + n then (.inr 4, d) else (.inl (daysF d (nn n) 4), daysF d (nn n))
def com1 (d : Dm) : Dm :=
  let z1 := drawZ (d 2)
  let z2 := drawZ z1
  let d2 := upd (upd d 2 z1) 2 z2
  dayF (upd d2 (6 + todN d2) (100 * rmI (us z1 8) 8 + rmI (us z2 8) 41))
def comF (d : Dm) : Nat → Dm
  | 0 => d
  | k + 1 => com1 (comF d k)
def comX (d : Dm) (n : Int32) : Oc × Dm := if n < 1 then (.inr 0, d) else if 20 < n then (.inr 0, d) else if 99999 < d 1 + n then (.inr 4, d) else (.inl (comF d (nn n) 4), comF d (nn n))
def holX (d : Dm) (sp p : Int32) : Oc × Dm := if wi sp 9 && !decide (p < -1) && decide (p < d 0) then (.inl 1, upd d (60 + nn sp) p) else (.inr 0, d)
theorem st2 {M : Mem} {d : Dm} (h : Inv (M 2)) : Inv ((stB M 0 d) 2) := by rw [stB_ne (by decide)]; exact h

set_option maxRecDepth 20000 in
theorem k_X6_set (what v : Int32) (M : Mem) (hJ : CI M) : CC l sk D cy A X mX6_set 2 [.ref (A 0), .int what, .int v] M (rQ (setX (M 0) what v).1 (stB M 0 (setX (M 0) what v).2) M) := by
  refine Con.of (lo := [some (.ref (A 0)), some (.int what), some (.int v), none]) cf_X6_set (fun _ _ => wl_fst) 1 rfl (Nat.le_of_ble_eq_true rfl) (fun Pp Ee Ss Mm Aa Bb Me Cc A0 B hr hlk => ?_)
  have B : BS sk D cy (wl A cy 51 TC X) A0 Pp Ss Mm Aa Cc RX6 cX6_set 4 := B
  obtain ⟨hI0, hI1, hI2, hT, hZ⟩ := hJ
  refine a_iload_n B dX6_set_0 rfl ?_
  refine a_if_ne 31 B dX6_set_1 (by decide) (fun c1 => ?_) (fun c1 => ?_)
  · refine a_iload_n B dX6_set_31 rfl ?_
    refine a_iconst (v := 1) B dX6_set_32 (by decide) ?_
    refine a_icmp_ne 64 B dX6_set_33 (by decide) (fun c33 => ?_) (fun c33 => ?_)
    · refine a_aload_n B dX6_set_64 rfl ?_
      refine a_ldc B dX6_set_65 kc_X6_59 ?_
      refine a_callV1r B rfl cf_X6_tell lk_X6_60 in_X6_tell se_X6_tell (wl_rc (p0 := 0) (by decide) rfl rfl rfl) (k_X6_tell 0 (by decide) _ (by decide) _) dX6_set_67 (Nat.le_of_ble_eq_true rfl) ⟨Nat.le_of_ble_eq_true rfl, Nat.le_of_ble_eq_true rfl⟩ ⟨rfl, rfl⟩ ?_
      exact a_iret B hr hlk dX6_set_70 (rQr0 (k := 0) (by simp [setX, c1, c33]) (by decide) hI2 rfl)
    refine a_iload_n B dX6_set_36 rfl ?_
    refine a_sipush (v := 255) B dX6_set_37 (by decide) ?_
    refine a_callS2r B rfl cf_X6_within lk_X6_48 st_X6_within (k_X6_within _ _ _) dX6_set_40 (Nat.le_of_ble_eq_true rfl) ⟨Nat.le_of_ble_eq_true rfl, Nat.le_of_ble_eq_true rfl⟩ ⟨rfl, rfl⟩ ?_
    refine a_if_eq 64 B dX6_set_43 (by decide) (fun c43 => ?_) (fun c43 => ?_)
    · have c43 := bI_eq0.mp c43
      refine a_aload_n B dX6_set_64 rfl ?_
      refine a_ldc B dX6_set_65 kc_X6_59 ?_
      refine a_callV1r B rfl cf_X6_tell lk_X6_60 in_X6_tell se_X6_tell (wl_rc (p0 := 0) (by decide) rfl rfl rfl) (k_X6_tell 0 (by decide) _ (by decide) _) dX6_set_67 (Nat.le_of_ble_eq_true rfl) ⟨Nat.le_of_ble_eq_true rfl, Nat.le_of_ble_eq_true rfl⟩ ⟨rfl, rfl⟩ ?_
      exact a_iret B hr hlk dX6_set_70 (rQr0 (k := 0) (by simp [setX, c1, c33, c43]) (by decide) hI2 rfl)
    have c43 := bI_ne0.mp c43
    refine a_aload_n B dX6_set_46 rfl ?_
    refine a_getR B fl_X6_12 (by decide) rfl rfl dX6_set_47 ?_
    refine a_getI B fl_X6_56 (by decide) rfl rfl dX6_set_50 ?_
    refine p_istore3 B dX6_set_53 (by decide) (k := ?_)
    refine a_aload_n B dX6_set_54 rfl ?_
    refine a_getR B fl_X6_12 (by decide) rfl rfl dX6_set_55 ?_
    refine a_iload_n B dX6_set_58 rfl ?_
    refine a_putI B twC fl_X6_56 fp_0_2 (by decide) rfl rfl dX6_set_59 ?_
    refine a_iload_n B dX6_set_62 rfl ?_
    exact a_iret B hr hlk dX6_set_63 (rQl0 (by first | (simp [setX, c1, c33, c43]; done) | (rw [c1] at c33; exact absurd c33 (by decide))) (st2 hI2) (by rw [upB_st]; first | (simp [setX, c1, c33, c43]; done) | (rw [c1] at c33; exact absurd c33 (by decide))))
  refine a_iload_n B dX6_set_4 rfl ?_
  refine a_bipush (v := 9) B dX6_set_5 (by decide) ?_
  refine a_callS2r B rfl cf_X6_within lk_X6_48 st_X6_within (k_X6_within _ _ _) dX6_set_7 (Nat.le_of_ble_eq_true rfl) ⟨Nat.le_of_ble_eq_true rfl, Nat.le_of_ble_eq_true rfl⟩ ⟨rfl, rfl⟩ ?_
  refine a_if_eq 31 B dX6_set_10 (by decide) (fun c10 => ?_) (fun c10 => ?_)
  · have c10 := bI_eq0.mp c10
    refine a_iload_n B dX6_set_31 rfl ?_
    refine a_iconst (v := 1) B dX6_set_32 (by decide) ?_
    refine a_icmp_ne 64 B dX6_set_33 (by decide) (fun c33 => ?_) (fun c33 => ?_)
    · refine a_aload_n B dX6_set_64 rfl ?_
      refine a_ldc B dX6_set_65 kc_X6_59 ?_
      refine a_callV1r B rfl cf_X6_tell lk_X6_60 in_X6_tell se_X6_tell (wl_rc (p0 := 0) (by decide) rfl rfl rfl) (k_X6_tell 0 (by decide) _ (by decide) _) dX6_set_67 (Nat.le_of_ble_eq_true rfl) ⟨Nat.le_of_ble_eq_true rfl, Nat.le_of_ble_eq_true rfl⟩ ⟨rfl, rfl⟩ ?_
      exact a_iret B hr hlk dX6_set_70 (rQr0 (k := 0) (by simp [setX, c1, c10, c33]) (by decide) hI2 rfl)
    refine a_iload_n B dX6_set_36 rfl ?_
    refine a_sipush (v := 255) B dX6_set_37 (by decide) ?_
    refine a_callS2r B rfl cf_X6_within lk_X6_48 st_X6_within (k_X6_within _ _ _) dX6_set_40 (Nat.le_of_ble_eq_true rfl) ⟨Nat.le_of_ble_eq_true rfl, Nat.le_of_ble_eq_true rfl⟩ ⟨rfl, rfl⟩ ?_
    refine a_if_eq 64 B dX6_set_43 (by decide) (fun c43 => ?_) (fun c43 => ?_)
    · have c43 := bI_eq0.mp c43
      refine a_aload_n B dX6_set_64 rfl ?_
      refine a_ldc B dX6_set_65 kc_X6_59 ?_
      refine a_callV1r B rfl cf_X6_tell lk_X6_60 in_X6_tell se_X6_tell (wl_rc (p0 := 0) (by decide) rfl rfl rfl) (k_X6_tell 0 (by decide) _ (by decide) _) dX6_set_67 (Nat.le_of_ble_eq_true rfl) ⟨Nat.le_of_ble_eq_true rfl, Nat.le_of_ble_eq_true rfl⟩ ⟨rfl, rfl⟩ ?_
      exact a_iret B hr hlk dX6_set_70 (rQr0 (k := 0) (by simp [setX, c1, c10, c33, c43]) (by decide) hI2 rfl)
    have c43 := bI_ne0.mp c43
    refine a_aload_n B dX6_set_46 rfl ?_
    refine a_getR B fl_X6_12 (by decide) rfl rfl dX6_set_47 ?_
    refine a_getI B fl_X6_56 (by decide) rfl rfl dX6_set_50 ?_
    refine p_istore3 B dX6_set_53 (by decide) (k := ?_)
    refine a_aload_n B dX6_set_54 rfl ?_
    refine a_getR B fl_X6_12 (by decide) rfl rfl dX6_set_55 ?_
    refine a_iload_n B dX6_set_58 rfl ?_
    refine a_putI B twC fl_X6_56 fp_0_2 (by decide) rfl rfl dX6_set_59 ?_
    refine a_iload_n B dX6_set_62 rfl ?_
    exact a_iret B hr hlk dX6_set_63 (rQl0 (by first | (simp [setX, c1, c10, c33, c43]; done) | (rw [c1] at c33; exact absurd c33 (by decide))) (st2 hI2) (by rw [upB_st]; first | (simp [setX, c1, c10, c33, c43]; done) | (rw [c1] at c33; exact absurd c33 (by decide))))
  have c10 := bI_ne0.mp c10
  refine a_aload_n B dX6_set_13 rfl ?_
  refine a_getR B fl_X6_12 (by decide) rfl rfl dX6_set_14 ?_
  refine a_getI B fl_X6_52 (by decide) rfl rfl dX6_set_17 ?_
  refine p_istore3 B dX6_set_20 (by decide) (k := ?_)
  refine a_aload_n B dX6_set_21 rfl ?_
  refine a_getR B fl_X6_12 (by decide) rfl rfl dX6_set_22 ?_
  refine a_iload_n B dX6_set_25 rfl ?_
  refine a_putI B twC fl_X6_52 fp_0_1 (by decide) rfl rfl dX6_set_26 ?_
  refine a_iload_n B dX6_set_29 rfl ?_
  exact a_iret B hr hlk dX6_set_30 (rQl0 (by first | (simp [setX, c1, c10]; done) | (rw [c1] at c33; exact absurd c33 (by decide))) (st2 hI2) (by rw [upB_st]; first | (simp [setX, c1, c10]; done) | (rw [c1] at c33; exact absurd c33 (by decide))))
set_option maxRecDepth 20000 in
theorem k_X6_list (i cf : Int32) (M : Mem) (hJ : CI M) : CC l sk D cy A X mX6_list 2 [.ref (A 0), .int i, .int cf] M (rQ (lisX (M 0) i cf).1 (stB M 0 (lisX (M 0) i cf).2) M) := by
  refine Con.of (lo := [some (.ref (A 0)), some (.int i), some (.int cf), none]) cf_X6_list (fun _ _ => wl_fst) 1 rfl (Nat.le_of_ble_eq_true rfl) (fun Pp Ee Ss Mm Aa Bb Me Cc A0 B hr hlk => ?_)
  have B : BS sk D cy (wl A cy 51 TC X) A0 Pp Ss Mm Aa Cc RX6 cX6_list 4 := B
  obtain ⟨hI0, hI1, hI2, hT, hZ⟩ := hJ
  refine a_iload_n B dX6_list_0 rfl ?_
  refine a_iconst (v := 5) B dX6_list_1 (by decide) ?_
  refine a_callS2r B rfl cf_X6_within lk_X6_48 st_X6_within (k_X6_within _ _ _) dX6_list_2 (Nat.le_of_ble_eq_true rfl) ⟨Nat.le_of_ble_eq_true rfl, Nat.le_of_ble_eq_true rfl⟩ ⟨rfl, rfl⟩ ?_
  refine a_if_eq 15 B dX6_list_5 (by decide) (fun c5 => ?_) (fun c5 => ?_)
  · have c5 := bI_eq0.mp c5
    refine a_aload_n B dX6_list_15 rfl ?_
    refine a_ldc B dX6_list_16 kc_X6_59 ?_
    refine a_callV1r B rfl cf_X6_tell lk_X6_60 in_X6_tell se_X6_tell (wl_rc (p0 := 0) (by decide) rfl rfl rfl) (k_X6_tell 0 (by decide) _ (by decide) _) dX6_list_18 (Nat.le_of_ble_eq_true rfl) ⟨Nat.le_of_ble_eq_true rfl, Nat.le_of_ble_eq_true rfl⟩ ⟨rfl, rfl⟩ ?_
    exact a_iret B hr hlk dX6_list_21 (rQr0 (k := 0) (by simp [lisX, c5]) (by decide) hI2 rfl)
  have c5 := bI_ne0.mp c5
  refine a_iload_n B dX6_list_8 rfl ?_
  refine a_callS1r B rfl cf_X6_isConfession lk_X6_64 st_X6_isConfession (k_X6_isConfession _ _) dX6_list_9 (Nat.le_of_ble_eq_true rfl) ⟨Nat.le_of_ble_eq_true rfl, Nat.le_of_ble_eq_true rfl⟩ ⟨rfl, rfl⟩ ?_
  refine a_if_ne 22 B dX6_list_12 (by decide) (fun c12 => ?_) (fun c12 => ?_)
  · have c12 := bI_ne0.mp c12
    obtain ⟨q, hqt, hqe⟩ := wi_T (t := 5) c5 (by omega)
    subst hqe
    refine a_aload_n B dX6_list_22 rfl ?_
    refine a_getR B fl_X6_12 (by decide) rfl rfl dX6_list_23 ?_
    refine a_getR B fl_X6_68 (by decide) rfl rfl dX6_list_26 ?_
    refine a_iload_n B dX6_list_29 rfl ?_
    refine a_iald q B (by decide) rfl rfl (by omega) (by decide) dX6_list_30 ?_
    refine p_istore3 B dX6_list_31 (by decide) (k := ?_)
    refine a_aload_n B dX6_list_32 rfl ?_
    refine a_getR B fl_X6_12 (by decide) rfl rfl dX6_list_33 ?_
    refine a_getR B fl_X6_68 (by decide) rfl rfl dX6_list_36 ?_
    refine a_iload_n B dX6_list_39 rfl ?_
    refine a_iload_n B dX6_list_40 rfl ?_
    refine a_iast q B twC (by decide) rfl rfl (by omega) (by decide) dX6_list_41 ?_
    refine a_iload_n B dX6_list_42 rfl ?_
    exact a_iret B hr hlk dX6_list_43 (rQl0 (by simp [lisX, c5, c12, nn_nI (show q < 2 ^ 31 by omega)]) (st2 hI2) (by rw [upB_st]; simp [lisX, c5, c12, nn_nI (show q < 2 ^ 31 by omega)]))
  have c12 := bI_eq0.mp c12
  refine a_aload_n B dX6_list_15 rfl ?_
  refine a_ldc B dX6_list_16 kc_X6_59 ?_
  refine a_callV1r B rfl cf_X6_tell lk_X6_60 in_X6_tell se_X6_tell (wl_rc (p0 := 0) (by decide) rfl rfl rfl) (k_X6_tell 0 (by decide) _ (by decide) _) dX6_list_18 (Nat.le_of_ble_eq_true rfl) ⟨Nat.le_of_ble_eq_true rfl, Nat.le_of_ble_eq_true rfl⟩ ⟨rfl, rfl⟩ ?_
  exact a_iret B hr hlk dX6_list_21 (rQr0 (k := 0) (by simp [lisX, c5, c12]) (by decide) hI2 rfl)
set_option maxRecDepth 20000 in
theorem k_X6_priest (kind sins : Int32) (M : Mem) (hJ : CI M) : CC l sk D cy A X mX6_priest 2 [.ref (A 0), .int kind, .int sins] M (rQ (priX (M 0) kind sins).1 (stB M 0 (priX (M 0) kind sins).2) M) := by
  refine Con.of (lo := [some (.ref (A 0)), some (.int kind), some (.int sins), none]) cf_X6_priest (fun _ _ => wl_fst) 1 rfl (Nat.le_of_ble_eq_true rfl) (fun Pp Ee Ss Mm Aa Bb Me Cc A0 B hr hlk => ?_)
  have B : BS sk D cy (wl A cy 51 TC X) A0 Pp Ss Mm Aa Cc RX6 cX6_priest 4 := B
  obtain ⟨hI0, hI1, hI2, hT, hZ⟩ := hJ
  refine a_iload_n B dX6_priest_0 rfl ?_
  refine a_callS1r B rfl cf_X1_isKind lk_X6_71 st_X1_isKind (k_X1_isKind _ _) dX6_priest_1 (Nat.le_of_ble_eq_true rfl) ⟨Nat.le_of_ble_eq_true rfl, Nat.le_of_ble_eq_true rfl⟩ ⟨rfl, rfl⟩ ?_
  refine a_if_eq 17 B dX6_priest_4 (by decide) (fun c4 => ?_) (fun c4 => ?_)
  · have c4 := bI_eq0.mp c4
    refine a_aload_n B dX6_priest_17 rfl ?_
    refine a_ldc B dX6_priest_18 kc_X6_59 ?_
    refine a_callV1r B rfl cf_X6_tell lk_X6_60 in_X6_tell se_X6_tell (wl_rc (p0 := 0) (by decide) rfl rfl rfl) (k_X6_tell 0 (by decide) _ (by decide) _) dX6_priest_20 (Nat.le_of_ble_eq_true rfl) ⟨Nat.le_of_ble_eq_true rfl, Nat.le_of_ble_eq_true rfl⟩ ⟨rfl, rfl⟩ ?_
    exact a_iret B hr hlk dX6_priest_23 (rQr0 (k := 0) (by simp [priX, c4]) (by decide) hI2 rfl)
  have c4 := bI_ne0.mp c4
  refine a_iload_n B dX6_priest_7 rfl ?_
  refine a_sipush (v := 255) B dX6_priest_8 (by decide) ?_
  refine a_callS2r B rfl cf_X6_within lk_X6_48 st_X6_within (k_X6_within _ _ _) dX6_priest_11 (Nat.le_of_ble_eq_true rfl) ⟨Nat.le_of_ble_eq_true rfl, Nat.le_of_ble_eq_true rfl⟩ ⟨rfl, rfl⟩ ?_
  refine a_if_ne 24 B dX6_priest_14 (by decide) (fun c14 => ?_) (fun c14 => ?_)
  · have c14 := bI_ne0.mp c14
    refine a_aload_n B dX6_priest_24 rfl ?_
    refine a_getR B fl_X6_12 (by decide) rfl rfl dX6_priest_25 ?_
    refine a_iload_n B dX6_priest_28 rfl ?_
    refine a_iload_n B dX6_priest_29 rfl ?_
    refine a_callV2r B rfl cf_X0_welcome lk_X6_76 in_X0_welcome se_X0_welcome (wl_rc (p0 := 1) (by decide) rfl rfl rfl) (k_X0_welcome 0 (by decide) _ _ _ hI0) dX6_priest_30 (Nat.le_of_ble_eq_true rfl) ⟨Nat.le_of_ble_eq_true rfl, Nat.le_of_ble_eq_true rfl⟩ ⟨rfl, rfl⟩ ?_
    refine p_istore3 B dX6_priest_33 (by decide) (k := ?_)
    refine a_iload_n B dX6_priest_34 rfl ?_
    refine a_if_ge 47 B dX6_priest_35 (by decide) (fun c35 => ?_) (fun c35 => ?_)
    · refine a_iload_n B dX6_priest_47 rfl ?_
      exact a_iret B hr hlk dX6_priest_48 (rQl0 (by simp [priX, c4, c14, Int32.not_lt.mpr c35]) (st2 hI2) (by simp [priX, c4, c14, Int32.not_lt.mpr c35]))
    have e0 : welF (M 0) kind sins = M 0 := by unfold welF; rw [if_neg]; intro h8; unfold welV at c35; rw [if_pos h8] at c35; obtain ⟨N, hN, eN, eNo⟩ := hI0.n; rw [eN] at c35; exact c35 (nI_pos' (by omega))
    rw [e0, stB_id]
    refine a_aload_n B dX6_priest_38 rfl ?_
    refine a_ldc B dX6_priest_39 kc_X6_80 ?_
    refine a_callV1r B rfl cf_X6_tell lk_X6_60 in_X6_tell se_X6_tell (wl_rc (p0 := 0) (by decide) rfl rfl rfl) (k_X6_tell 1 (by decide) _ (by decide) _) dX6_priest_41 (Nat.le_of_ble_eq_true rfl) ⟨Nat.le_of_ble_eq_true rfl, Nat.le_of_ble_eq_true rfl⟩ ⟨rfl, rfl⟩ ?_
    refine a_goto 48 B dX6_priest_44 (by decide) ?_
    exact a_iret B hr hlk dX6_priest_48 (rQr0 (k := 1) (by simp [priX, c4, c14, Int32.not_le.mp c35]) (by decide) hI2 rfl)
  have c14 := bI_eq0.mp c14
  refine a_aload_n B dX6_priest_17 rfl ?_
  refine a_ldc B dX6_priest_18 kc_X6_59 ?_
  refine a_callV1r B rfl cf_X6_tell lk_X6_60 in_X6_tell se_X6_tell (wl_rc (p0 := 0) (by decide) rfl rfl rfl) (k_X6_tell 0 (by decide) _ (by decide) _) dX6_priest_20 (Nat.le_of_ble_eq_true rfl) ⟨Nat.le_of_ble_eq_true rfl, Nat.le_of_ble_eq_true rfl⟩ ⟨rfl, rfl⟩ ?_
  exact a_iret B hr hlk dX6_priest_23 (rQr0 (k := 0) (by simp [priX, c4, c14]) (by decide) hI2 rfl)
set_option maxRecDepth 20000 in
set_option maxHeartbeats 4000000 in
theorem k_X6_change (v what v2 : Int32) (M : Mem) (hJ : CI M) : CC l sk D cy A X mX6_change 3 [.ref (A 0), .int v, .int what, .int v2] M (rQ ((chaX (M 0) v what v2).1) (stB M 0 (chaX (M 0) v what v2).2) M) := by
  refine Con.of (lo := [some (.ref (A 0)), some (.int v), some (.int what), some (.int v2), none, none]) cf_X6_change (fun _ _ => wl_fst) 2 rfl (Nat.le_of_ble_eq_true rfl) (fun Pp Ee Ss Mm Aa Bb Me Cc A0 B hr hlk => ?_)
  have B : BS sk D cy (wl A cy 51 TC X) A0 Pp Ss Mm Aa Cc RX6 cX6_change 6 := B
  obtain ⟨hI0, hI1, hI2, hT, hZ⟩ := hJ
  rcases at_cases hI0 v with ⟨q, hqn, hq8, hvq, hip, hlt⟩ | ⟨hn, hip⟩
  · subst hvq
    refine a_aload_n B dX6_change_0 rfl ?_
    refine a_getR B fl_X6_12 (by decide) rfl rfl dX6_change_1 ?_
    refine a_iload_n B dX6_change_4 rfl ?_
    refine a_callV1r B rfl cf_X0_at lk_X6_81 in_X0_at se_X0_at (wl_rc (p0 := 1) (by decide) rfl rfl rfl) (k_X0_at 0 q (by decide) hq8 _ hlt) dX6_change_5 (Nat.le_of_ble_eq_true rfl) ⟨Nat.le_of_ble_eq_true rfl, Nat.le_of_ble_eq_true rfl⟩ ⟨rfl, rfl⟩ ?_
    refine p_astore4 B dX6_change_8 (by decide) (k := ?_)
    refine a_aload B dX6_change_10 rfl ?_
    refine a_ifnull B dX6_change_12 ?_
    refine a_iload_n B dX6_change_15 rfl ?_
    refine a_iload_n B dX6_change_16 rfl ?_
    refine a_callS2r B rfl cf_X1_mayBe lk_X6_89 st_X1_mayBe (k_X1_mayBe _ _ _) dX6_change_17 (Nat.le_of_ble_eq_true rfl) ⟨Nat.le_of_ble_eq_true rfl, Nat.le_of_ble_eq_true rfl⟩ ⟨rfl, rfl⟩ ?_
    refine a_if_ne 30 B dX6_change_20 (by decide) (fun c20 => ?_) (fun c20 => ?_)
    · have c20 := bI_ne0.mp c20
      refine a_aload_n B dX6_change_30 rfl ?_
      refine a_getR B fl_X6_12 (by decide) rfl rfl dX6_change_31 ?_
      refine a_aload B dX6_change_34 rfl ?_
      refine a_iload_n B dX6_change_36 rfl ?_
      refine a_callV2r B rfl cf_X0_tellOf lk_X6_85 in_X0_tellOf se_X0_tellOf (wl_rc (p0 := 1) (by decide) rfl rfl rfl) (k_X0_tellOf 0 q (by decide) hq8 _ _ hI0) dX6_change_37 (Nat.le_of_ble_eq_true rfl) ⟨Nat.le_of_ble_eq_true rfl, Nat.le_of_ble_eq_true rfl⟩ ⟨rfl, rfl⟩ ?_
      refine p_istore5 B dX6_change_40 (by decide) (k := ?_)
      refine a_aload B dX6_change_42 rfl ?_
      refine a_iload_n B dX6_change_44 rfl ?_
      refine a_iload_n B dX6_change_45 rfl ?_
      refine a_callV2v B rfl cf_X1_put lk_X6_92 in_X1_put se_X1_put (wl_rc (p0 := 5 + 12 * 0 + q) (by omega) (tcP 0 (by decide) q hq8) rfl rfl) (k_X1_put 0 q (by decide) hq8 _ _ _) dX6_change_46 (Nat.le_of_ble_eq_true rfl) ⟨Nat.le_of_ble_eq_true rfl, Nat.le_of_ble_eq_true rfl⟩ ⟨rfl, rfl⟩ ?_
      refine a_iload B dX6_change_49 rfl ?_
      exact a_iret B hr hlk dX6_change_51 (rQl0 (by simp [chaX, hip, c20, nn_nI (show q < 2 ^ 31 by omega)]) (st2 hI2) (by simp [chaX, hip, c20, nn_nI (show q < 2 ^ 31 by omega)]))
    have c20 := bI_eq0.mp c20
    refine a_aload_n B dX6_change_23 rfl ?_
    refine a_ldc B dX6_change_24 kc_X6_59 ?_
    refine a_callV1r B rfl cf_X6_tell lk_X6_60 in_X6_tell se_X6_tell (wl_rc (p0 := 0) (by decide) rfl rfl rfl) (k_X6_tell 0 (by decide) _ (by decide) _) dX6_change_26 (Nat.le_of_ble_eq_true rfl) ⟨Nat.le_of_ble_eq_true rfl, Nat.le_of_ble_eq_true rfl⟩ ⟨rfl, rfl⟩ ?_
    exact a_iret B hr hlk dX6_change_29 (rQr0 (k := 0) (by simp [chaX, hip, c20]) (by decide) hI2 rfl)
  · refine a_aload_n B dX6_change_0 rfl ?_
    refine a_getR B fl_X6_12 (by decide) rfl rfl dX6_change_1 ?_
    refine a_iload_n B dX6_change_4 rfl ?_
    refine a_callV1r B rfl cf_X0_at lk_X6_81 in_X0_at se_X0_at (wl_rc (p0 := 1) (by decide) rfl rfl rfl) (k_X0_atN 0 (by decide) _ _ hn) dX6_change_5 (Nat.le_of_ble_eq_true rfl) ⟨Nat.le_of_ble_eq_true rfl, Nat.le_of_ble_eq_true rfl⟩ ⟨rfl, rfl⟩ ?_
    refine p_astoreN4 B dX6_change_8 (by decide) (k := ?_)
    refine a_aloadN B dX6_change_10 rfl ?_
    refine a_ifnullN 23 B dX6_change_12 (by decide) ?_
    refine a_aload_n B dX6_change_23 rfl ?_
    refine a_ldc B dX6_change_24 kc_X6_59 ?_
    refine a_callV1r B rfl cf_X6_tell lk_X6_60 in_X6_tell se_X6_tell (wl_rc (p0 := 0) (by decide) rfl rfl rfl) (k_X6_tell 0 (by decide) _ (by decide) _) dX6_change_26 (Nat.le_of_ble_eq_true rfl) ⟨Nat.le_of_ble_eq_true rfl, Nat.le_of_ble_eq_true rfl⟩ ⟨rfl, rfl⟩ ?_
    exact a_iret B hr hlk dX6_change_29 (rQr0 (k := 0) (by simp [chaX, hip]) (by decide) hI2 rfl)
set_option maxRecDepth 20000 in
set_option maxHeartbeats 4000000 in
theorem k_X6_dies (v : Int32) (M : Mem) (hJ : CI M) : CC l sk D cy A X mX6_dies 4 [.ref (A 0), .int v] M (rQ ((dieX (M 0) v).1) (stB M 0 (dieX (M 0) v).2) M) := by
  refine Con.of (lo := [some (.ref (A 0)), some (.int v), none]) cf_X6_dies (fun _ _ => wl_fst) 1 rfl (Nat.le_of_ble_eq_true rfl) (fun Pp Ee Ss Mm Aa Bb Me Cc A0 B hr hlk => ?_)
  have B : BS sk D cy (wl A cy 51 TC X) A0 Pp Ss Mm Aa Cc RX6 cX6_dies 3 := B
  obtain ⟨hI0, hI1, hI2, hT, hZ⟩ := hJ
  rcases at_cases hI0 v with ⟨q, hqn, hq8, hvq, hip, hlt⟩ | ⟨hn, hip⟩
  · subst hvq
    refine a_aload_n B dX6_dies_0 rfl ?_
    refine a_getR B fl_X6_12 (by decide) rfl rfl dX6_dies_1 ?_
    refine a_iload_n B dX6_dies_4 rfl ?_
    refine a_callV1r B rfl cf_X0_at lk_X6_81 in_X0_at se_X0_at (wl_rc (p0 := 1) (by decide) rfl rfl rfl) (k_X0_at 0 q (by decide) hq8 _ hlt) dX6_dies_5 (Nat.le_of_ble_eq_true rfl) ⟨Nat.le_of_ble_eq_true rfl, Nat.le_of_ble_eq_true rfl⟩ ⟨rfl, rfl⟩ ?_
    refine p_astore2 B dX6_dies_8 (by decide) (k := ?_)
    refine a_aload_n B dX6_dies_9 rfl ?_
    refine a_ifnull B dX6_dies_10 ?_
    refine a_aload_n B dX6_dies_13 rfl ?_
    refine a_aload_n B dX6_dies_14 rfl ?_
    refine a_getR B fl_X6_12 (by decide) rfl rfl dX6_dies_15 ?_
    refine a_iload_n B dX6_dies_18 rfl ?_
    refine a_aload_n B dX6_dies_19 rfl ?_
    refine a_callV2r B rfl cf_X0_bury lk_X6_115 in_X0_bury se_X0_bury (wl_rc (p0 := 1) (by decide) rfl rfl rfl) (k_X0_bury 0 q (by decide) hq8 _ hI0) dX6_dies_20 (Nat.le_of_ble_eq_true rfl) ⟨Nat.le_of_ble_eq_true rfl, Nat.le_of_ble_eq_true rfl⟩ ⟨rfl, rfl⟩ ?_
    refine a_callV1r B rfl cf_X6_orNone lk_X6_112 in_X6_orNone se_X6_orNone (wl_rc (p0 := 0) (by decide) rfl rfl rfl) (k_X6_orNone _ _) dX6_dies_23 (Nat.le_of_ble_eq_true rfl) ⟨Nat.le_of_ble_eq_true rfl, Nat.le_of_ble_eq_true rfl⟩ ⟨rfl, rfl⟩ ?_
    refine a_goto 35 B dX6_dies_26 (by decide) ?_
    have ex : dieX (M 0) (nI q) = (nS (bestF (M 0) (neB q) (nOf (M 0))), buryD (M 0) q) := by simp [dieX, hip, nn_nI (show q < 2 ^ 31 by omega)]
    cases hs : bestF (M 0) (neB q) (nOf (M 0)) with
    | none =>
      rw [hs] at ex
      have e0 : buryD (M 0) q = M 0 := by unfold buryD; rw [hs]
      exact a_iret B hr hlk dX6_dies_35 (by rw [if_pos (show oI none < 0 by decide), if_pos (show oI none < 0 by decide), e0, stB_id, ex]; exact rQr0 rfl rfl hI2 rfl)
    | some k =>
      rw [hs] at ex
      exact a_iret B hr hlk dX6_dies_35 (by have h1 : ¬ oI (some k) < 0 := nI_pos (by have := best_lt _ _ _ _ hs; obtain ⟨N, hN, eN, eNo⟩ := hI0.n; omega); rw [if_neg h1, if_neg h1, ex]; exact rQl0 rfl (st2 hI2) rfl)
  · refine a_aload_n B dX6_dies_0 rfl ?_
    refine a_getR B fl_X6_12 (by decide) rfl rfl dX6_dies_1 ?_
    refine a_iload_n B dX6_dies_4 rfl ?_
    refine a_callV1r B rfl cf_X0_at lk_X6_81 in_X0_at se_X0_at (wl_rc (p0 := 1) (by decide) rfl rfl rfl) (k_X0_atN 0 (by decide) _ _ hn) dX6_dies_5 (Nat.le_of_ble_eq_true rfl) ⟨Nat.le_of_ble_eq_true rfl, Nat.le_of_ble_eq_true rfl⟩ ⟨rfl, rfl⟩ ?_
    refine p_astoreN2 B dX6_dies_8 (by decide) (k := ?_)
    refine a_aload_nN B dX6_dies_9 rfl ?_
    refine a_ifnullN 29 B dX6_dies_10 (by decide) ?_
    refine a_aload_n B dX6_dies_29 rfl ?_
    refine a_ldc B dX6_dies_30 kc_X6_59 ?_
    refine a_callV1r B rfl cf_X6_tell lk_X6_60 in_X6_tell se_X6_tell (wl_rc (p0 := 0) (by decide) rfl rfl rfl) (k_X6_tell 0 (by decide) _ (by decide) _) dX6_dies_32 (Nat.le_of_ble_eq_true rfl) ⟨Nat.le_of_ble_eq_true rfl, Nat.le_of_ble_eq_true rfl⟩ ⟨rfl, rfl⟩ ?_
    exact a_iret B hr hlk dX6_dies_35 (rQr0 (k := 0) (by simp [dieX, hip]) (by decide) hI2 rfl)

theorem day_nn {n : Int32} (h1 : ¬ n < 1) : ∃ t, t < 2 ^ 31 ∧ n = nI t := nI_of (fun h => h1 (Int32.lt_trans h (by decide)))

set_option maxRecDepth 20000 in
theorem k_X6_go (n1 : Int32) (M : Mem) (hJ : CI M) : CC l sk D cy A X mX6_go 5 [.ref (A 0), .int n1] M (rQ (goX (M 0) n1).1 (stB M 0 (goX (M 0) n1).2) M) := by
  refine Con.of (lo := [some (.ref (A 0)), some (.int n1)]) cf_X6_go (fun _ _ => wl_fst) 0 rfl (Nat.le_of_ble_eq_true rfl) (fun Pp Ee Ss Mm Aa Bb Me Cc A0 B hr hlk => ?_)
  have B : BS sk D cy (wl A cy 51 TC X) A0 Pp Ss Mm Aa Cc RX6 cX6_go 2 := B
  obtain ⟨hI0, hI1, hI2, hT, hZ⟩ := hJ
  refine a_iload_n B dX6_go_0 rfl ?_
  refine a_iconst (v := 1) B dX6_go_1 (by decide) ?_
  refine a_icmp_lt 11 B dX6_go_2 (by decide) (fun c2 => ?_) (fun c2 => ?_)
  · refine a_aload_n B dX6_go_11 rfl ?_
    refine a_ldc B dX6_go_12 kc_X6_59 ?_
    refine a_callV1r B rfl cf_X6_tell lk_X6_60 in_X6_tell se_X6_tell (wl_rc (p0 := 0) (by decide) rfl rfl rfl) (k_X6_tell 0 (by decide) _ (by decide) _) dX6_go_14 (Nat.le_of_ble_eq_true rfl) ⟨Nat.le_of_ble_eq_true rfl, Nat.le_of_ble_eq_true rfl⟩ ⟨rfl, rfl⟩ ?_
    exact a_iret B hr hlk dX6_go_17 (rQr0 (k := 0) (by simp [goX, c2]) (by decide) hI2 rfl)
  refine a_iload_n B dX6_go_5 rfl ?_
  refine a_bipush (v := 60) B dX6_go_6 (by decide) ?_
  refine a_icmp_le 18 B dX6_go_8 (by decide) (fun c8 => ?_) (fun c8 => ?_)
  · refine a_aload_n B dX6_go_18 rfl ?_
    refine a_getR B fl_X6_12 (by decide) rfl rfl dX6_go_19 ?_
    refine a_getI B fl_X6_119 (by decide) rfl rfl dX6_go_22 ?_
    refine a_iload_n B dX6_go_25 rfl ?_
    refine a_iadd B dX6_go_26 ?_
    refine a_ldc B dX6_go_27 kc_X6_122 ?_
    refine a_icmp_le 39 B dX6_go_29 (by decide) (fun c29 => ?_) (fun c29 => ?_)
    · refine a_aload_n B dX6_go_39 rfl ?_
      refine a_getR B fl_X6_12 (by decide) rfl rfl dX6_go_40 ?_
      refine a_iload_n B dX6_go_43 rfl ?_
      obtain ⟨t, ht0, hte⟩ := day_nn c2
      subst hte
      have ht : t < 100000 := by have := (nI_leI (b := 60) ht0 (by omega)).mp c8; omega
      refine a_callV1v B rfl cf_X0_passDays lk_X6_124 in_X0_passDays se_X0_passDays (wl_rc (p0 := 1) (by decide) rfl rfl rfl) (k_X0_passDays 0 (by decide) t ht _ hI0) dX6_go_44 (Nat.le_of_ble_eq_true rfl) ⟨Nat.le_of_ble_eq_true rfl, Nat.le_of_ble_eq_true rfl⟩ ⟨rfl, rfl⟩ ?_
      refine a_aload_n B dX6_go_47 rfl ?_
      refine a_getR B fl_X6_12 (by decide) rfl rfl dX6_go_48 ?_
      refine a_getI B fl_X6_56 (by decide) rfl rfl dX6_go_51 ?_
      exact a_iret B hr hlk dX6_go_54 (rQl0 (by rw [stB_at]; simp [goX, c2, Int32.not_lt.mpr c8, Int32.not_lt.mpr c29, nn_nI ht0]) (st2 hI2) (by simp [goX, c2, Int32.not_lt.mpr c8, Int32.not_lt.mpr c29, nn_nI ht0]))
    refine a_aload_n B dX6_go_32 rfl ?_
    refine a_ldc B dX6_go_33 kc_X6_123 ?_
    refine a_callV1r B rfl cf_X6_tell lk_X6_60 in_X6_tell se_X6_tell (wl_rc (p0 := 0) (by decide) rfl rfl rfl) (k_X6_tell 4 (by decide) _ (by decide) _) dX6_go_35 (Nat.le_of_ble_eq_true rfl) ⟨Nat.le_of_ble_eq_true rfl, Nat.le_of_ble_eq_true rfl⟩ ⟨rfl, rfl⟩ ?_
    exact a_iret B hr hlk dX6_go_38 (rQr0 (k := 4) (by simp [goX, c2, Int32.not_lt.mpr c8, Int32.not_le.mp c29]) (by decide) hI2 rfl)
  refine a_aload_n B dX6_go_11 rfl ?_
  refine a_ldc B dX6_go_12 kc_X6_59 ?_
  refine a_callV1r B rfl cf_X6_tell lk_X6_60 in_X6_tell se_X6_tell (wl_rc (p0 := 0) (by decide) rfl rfl rfl) (k_X6_tell 0 (by decide) _ (by decide) _) dX6_go_14 (Nat.le_of_ble_eq_true rfl) ⟨Nat.le_of_ble_eq_true rfl, Nat.le_of_ble_eq_true rfl⟩ ⟨rfl, rfl⟩ ?_
  exact a_iret B hr hlk dX6_go_17 (rQr0 (k := 0) (by simp [goX, c2, Int32.not_le.mp c8]) (by decide) hI2 rfl)
set_option maxRecDepth 20000 in
theorem k_X6_seed (v : Int32) (M : Mem) (hJ : CI M) : CC l sk D cy A X mX6_seed 0 [.ref (A 0), .int v] M (rQ (.inl (M 0 2)) (stB M 0 (upd (M 0) 2 v)) M) := by
  refine Con.of (lo := [some (.ref (A 0)), some (.int v), none]) cf_X6_seed (fun _ _ => wl_fst) 1 rfl (Nat.le_of_ble_eq_true rfl) (fun Pp Ee Ss Mm Aa Bb Me Cc A0 B hr hlk => ?_)
  have B : BS sk D cy (wl A cy 51 TC X) A0 Pp Ss Mm Aa Cc RX6 cX6_seed 3 := B
  obtain ⟨hI0, hI1, hI2, hT, hZ⟩ := hJ
  refine a_aload_n B dX6_seed_0 rfl ?_
  refine a_getR B fl_X6_12 (by decide) rfl rfl dX6_seed_1 ?_
  refine a_getI B fl_X6_226 (by decide) rfl rfl dX6_seed_4 ?_
  refine p_istore2 B dX6_seed_7 (by decide) (k := ?_)
  refine a_aload_n B dX6_seed_8 rfl ?_
  refine a_getR B fl_X6_12 (by decide) rfl rfl dX6_seed_9 ?_
  refine a_iload_n B dX6_seed_12 rfl ?_
  refine a_putI B twC fl_X6_226 fp_0_4 (by decide) rfl rfl dX6_seed_13 ?_
  refine a_iload_n B dX6_seed_16 rfl ?_
  exact a_iret B hr hlk dX6_seed_17 (rQl0 (rfl) (st2 hI2) (upB_st))
set_option maxRecDepth 20000 in
theorem k_X6_hold (sp v : Int32) (M : Mem) (hJ : CI M) : CC l sk D cy A X mX6_hold 2 [.ref (A 0), .int sp, .int v] M (rQ (holX (M 0) sp v).1 (stB M 0 (holX (M 0) sp v).2) M) := by
  refine Con.of (lo := [some (.ref (A 0)), some (.int sp), some (.int v)]) cf_X6_hold (fun _ _ => wl_fst) 0 rfl (Nat.le_of_ble_eq_true rfl) (fun Pp Ee Ss Mm Aa Bb Me Cc A0 B hr hlk => ?_)
  have B : BS sk D cy (wl A cy 51 TC X) A0 Pp Ss Mm Aa Cc RX6 cX6_hold 3 := B
  obtain ⟨hI0, hI1, hI2, hT, hZ⟩ := hJ
  refine a_iload_n B dX6_hold_0 rfl ?_
  refine a_bipush (v := 9) B dX6_hold_1 (by decide) ?_
  refine a_callS2r B rfl cf_X6_within lk_X6_48 st_X6_within (k_X6_within _ _ _) dX6_hold_3 (Nat.le_of_ble_eq_true rfl) ⟨Nat.le_of_ble_eq_true rfl, Nat.le_of_ble_eq_true rfl⟩ ⟨rfl, rfl⟩ ?_
  refine a_if_eq 25 B dX6_hold_6 (by decide) (fun c6 => ?_) (fun c6 => ?_)
  · have c6 := bI_eq0.mp c6
    refine a_aload_n B dX6_hold_25 rfl ?_
    refine a_ldc B dX6_hold_26 kc_X6_59 ?_
    refine a_callV1r B rfl cf_X6_tell lk_X6_60 in_X6_tell se_X6_tell (wl_rc (p0 := 0) (by decide) rfl rfl rfl) (k_X6_tell 0 (by decide) _ (by decide) _) dX6_hold_28 (Nat.le_of_ble_eq_true rfl) ⟨Nat.le_of_ble_eq_true rfl, Nat.le_of_ble_eq_true rfl⟩ ⟨rfl, rfl⟩ ?_
    exact a_iret B hr hlk dX6_hold_31 (rQr0 (k := 0) (by simp [holX, c6]) (by decide) hI2 rfl)
  have c6 := bI_ne0.mp c6
  refine a_iload_n B dX6_hold_9 rfl ?_
  refine a_iconst (v := (-1)) B dX6_hold_10 (by decide) ?_
  refine a_icmp_lt 25 B dX6_hold_11 (by decide) (fun c11 => ?_) (fun c11 => ?_)
  · refine a_aload_n B dX6_hold_25 rfl ?_
    refine a_ldc B dX6_hold_26 kc_X6_59 ?_
    refine a_callV1r B rfl cf_X6_tell lk_X6_60 in_X6_tell se_X6_tell (wl_rc (p0 := 0) (by decide) rfl rfl rfl) (k_X6_tell 0 (by decide) _ (by decide) _) dX6_hold_28 (Nat.le_of_ble_eq_true rfl) ⟨Nat.le_of_ble_eq_true rfl, Nat.le_of_ble_eq_true rfl⟩ ⟨rfl, rfl⟩ ?_
    exact a_iret B hr hlk dX6_hold_31 (rQr0 (k := 0) (by simp [holX, c6, c11]) (by decide) hI2 rfl)
  refine a_iload_n B dX6_hold_14 rfl ?_
  refine a_aload_n B dX6_hold_15 rfl ?_
  refine a_getR B fl_X6_12 (by decide) rfl rfl dX6_hold_16 ?_
  refine a_getI B fl_X6_259 (by decide) rfl rfl dX6_hold_19 ?_
  refine a_icmp_lt 32 B dX6_hold_22 (by decide) (fun c22 => ?_) (fun c22 => ?_)
  · obtain ⟨q, hqt, hqe⟩ := wi_T (t := 9) c6 (by omega)
    subst hqe
    refine a_aload_n B dX6_hold_32 rfl ?_
    refine a_getR B fl_X6_12 (by decide) rfl rfl dX6_hold_33 ?_
    refine a_getR B fl_X6_262 (by decide) rfl rfl dX6_hold_36 ?_
    refine a_iload_n B dX6_hold_39 rfl ?_
    refine a_iload_n B dX6_hold_40 rfl ?_
    refine a_iast q B twC (by decide) rfl rfl (by omega) (by decide) dX6_hold_41 ?_
    refine a_iconst (v := 1) B dX6_hold_42 (by decide) ?_
    exact a_iret B hr hlk dX6_hold_43 (rQl0 (by simp [holX, c6, c11, c22, nn_nI (show q < 2 ^ 31 by omega)]) (st2 hI2) (by rw [upB_st]; simp [holX, c6, c11, c22, nn_nI (show q < 2 ^ 31 by omega)]))
  refine a_aload_n B dX6_hold_25 rfl ?_
  refine a_ldc B dX6_hold_26 kc_X6_59 ?_
  refine a_callV1r B rfl cf_X6_tell lk_X6_60 in_X6_tell se_X6_tell (wl_rc (p0 := 0) (by decide) rfl rfl rfl) (k_X6_tell 0 (by decide) _ (by decide) _) dX6_hold_28 (Nat.le_of_ble_eq_true rfl) ⟨Nat.le_of_ble_eq_true rfl, Nat.le_of_ble_eq_true rfl⟩ ⟨rfl, rfl⟩ ?_
  exact a_iret B hr hlk dX6_hold_31 (rQr0 (k := 0) (by simp [holX, c6, c11, c22]) (by decide) hI2 rfl)
end C10
