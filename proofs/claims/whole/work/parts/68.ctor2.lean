section U2
def obP : List Value := [.int 0, .int 0, .int 0, .int 0, .int 0, .int 0]
def spF (j : Nat) : Int32 := if j < 10 then -1 else 0
def roF (B : Nat → Nat) (j : Nat) : Option Nat := if j < 8 then some (B (4 + j)) else none
def misW (cy : Nat → ClassId) (B : Nat → Nat) : va_W := [(B 0, .inr (0, [.int 0, .int 2, .int 0, .int 0, .int 1, .int 0, .ref (B 1), .ref (B 2), .ref (B 3)])), (B 1, .inl (cy 0, 6, .inl (fun _ => 0))), (B 2, .inl (cy 0, 10, .inl spF)), (B 3, .inl (cy 2, 8, .inr (.inr (.inr (.inr (roF B)))))), (B 4, .inr (1, obP)), (B 5, .inr (1, obP)), (B 6, .inr (1, obP)), (B 7, .inr (1, obP)), (B 8, .inr (1, obP)), (B 9, .inr (1, obP)), (B 10, .inr (1, obP)), (B 11, .inr (1, obP))]
def tapW (cy : Nat → ClassId) (a b : Nat) : va_W := [(a, .inr (5, [.ref b, .int 0])), (b, .inl (cy 1, 120, .inl (fun _ => 0)))]
def reaW (cy : Nat → ClassId) (a b d : Nat) : va_W := [(a, .inr (2, [.ref b, .int 0, .int 0, .int 0, .int 0, .int 0])), (b, .inr (5, [.ref d, .int 0])), (d, .inl (cy 1, 120, .inl (fun _ => 0)))]
def sheW (cy : Nat → ClassId) (a b : Nat) : va_W := [(a, .inr (4, [.int 0, .int 0, .ref b])), (b, .inl (cy 0, 40, .inl (fun _ => 0)))]

theorem fg_X5_9 : FLG RX5 9 5 0 := ⟨RX5, TX5, 2, tyX5, rfl, by decide, gi_X5, rfl, nmX5, tyX5_ok, gw_of (List.mem_append_right _ (List.mem_of_getElem? (i := 139) (by decide +kernel))) rfl⟩
theorem ff_5_0 : FFK RX5 5 0 (.array .byte) := fun q h => by cases h; exact ⟨rfl, rfl, by decide +kernel⟩
theorem fg_X4_18 : FLG RX4 18 4 2 := ⟨RX4, TX4, 3, tyX4, rfl, by decide, gi_X4, rfl, nmX4, tyX4_ok, gw_of (List.mem_append_right _ (List.mem_of_getElem? (i := 180) (by decide +kernel))) rfl⟩
theorem ff_4_2 : FFK RX4 4 2 (.array .int) := fun q h => by cases h; exact ⟨rfl, rfl, by decide +kernel⟩
theorem fg_X0_30 : FLG RX0 30 0 6 := ⟨RX0, TX0, 9, tyX0, rfl, by decide, gi_X0, rfl, nmX0, tyX0_ok, gw_of (List.mem_append_right _ (List.mem_of_getElem? (i := 88) (by decide +kernel))) rfl⟩
theorem ff_0_6 : FFK RX0 0 6 (.array .int) := fun q h => by cases h; exact ⟨rfl, rfl, by decide +kernel⟩
theorem fg_X0_34 : FLG RX0 34 0 7 := ⟨RX0, TX0, 9, tyX0, rfl, by decide, gi_X0, rfl, nmX0, tyX0_ok, gw_of (List.mem_append_right _ (List.mem_of_getElem? (i := 92) (by decide +kernel))) rfl⟩
theorem ff_0_7 : FFK RX0 0 7 (.array .int) := fun q h => by cases h; exact ⟨rfl, rfl, by decide +kernel⟩
theorem cl_X0_37 : Cond.classLink RX0 37 RX1 ∈ GW := gw_of (List.mem_append_right _ (List.mem_of_getElem? (i := 31) (by decide +kernel))) rfl
theorem fg_X0_39 : FLG RX0 39 0 8 := ⟨RX0, TX0, 9, tyX0, rfl, by decide, gi_X0, rfl, nmX0, tyX0_ok, gw_of (List.mem_append_right _ (List.mem_of_getElem? (i := 94) (by decide +kernel))) rfl⟩
theorem ff_0_8 : FFK RX0 0 8 (.array (.object "RicePriests$Priest")) := fun q h => by cases h; exact ⟨rfl, rfl, by decide +kernel⟩
theorem nw_X0_37 : NWK RX0 37 1 6 [.int 0, .int 0, .int 0, .int 0, .int 0, .int 0] := ⟨RX1, TX1, tyX1, rfl, gi_X1, tyX1_ok, gw_of (List.mem_append_right _ (List.mem_of_getElem? (i := 31) (by decide +kernel))) rfl, gw_of (List.mem_append_right _ (List.mem_of_getElem? (i := 33) (by decide +kernel))) rfl, ii_X1, fun j hj => by rcases (show j = 0 ∨ j = 1 ∨ j = 2 ∨ j = 3 ∨ j = 4 ∨ j = 5 by omega) with rfl | rfl | rfl | rfl | rfl | rfl <;> rfl⟩
variable {l : Launch} {sk : (Nat → Nat) × (Nat → Nat)} {D : va_G} {cy : Nat → ClassId}
set_option maxRecDepth 20000 in
set_option maxHeartbeats 4000000 in
theorem k_X1_init (h0 : Nat) : CN l sk D cy mX1_init 1 0 0 h0 (.inr (1, [.int 0, .int 0, .int 0, .int 0, .int 0, .int 0])) (fun W1 => W1 = [(h0, .inr (1, obP))]) := by
  refine CN.of (lo := [some (.ref h0)]) cf_X1_init rfl 0 rfl (Nat.le_of_ble_eq_true rfl) (fun Pp Ee Ss Mm Aa Bb Me Cc A0 B hr hlk hin hao => ?_)
  have B : BS sk D cy (UW [(h0, .inr (1, [.int 0, .int 0, .int 0, .int 0, .int 0, .int 0]))]) A0 Pp Ss Mm Aa Cc RX1 cX1_init 1 := B
  refine a_aload_n B dX1_init_0 rfl ?_
  refine u_obj B lo_X1_5 dX1_init_1 (Nat.le_of_ble_eq_true rfl) ⟨Nat.le_of_ble_eq_true rfl, Nat.le_of_ble_eq_true rfl⟩ ?_
  have hSh : ([(h0, .inr (1, [.int 0, .int 0, .int 0, .int 0, .int 0, .int 0]))] : va_W) = [(h0, .inr (1, obP))] := rfl
  exact u_vret B hr hlk (Nat.le_of_ble_eq_true rfl) (Nat.le_of_ble_eq_true rfl) hSh dX1_init_4
set_option maxRecDepth 20000 in
set_option maxHeartbeats 4000000 in
theorem k_X5_init (h0 : Nat) : CN l sk D cy mX5_init 1 1 120 h0 (.inr (5, [.null, .int 0])) (fun W1 => ∃ b, W1 = tapW cy h0 b) := by
  refine CN.of (lo := [some (.ref h0)]) cf_X5_init rfl 0 rfl (Nat.le_of_ble_eq_true rfl) (fun Pp Ee Ss Mm Aa Bb Me Cc A0 B hr hlk hin hao => ?_)
  have B : BS sk D cy (UW [(h0, .inr (5, [.null, .int 0]))]) A0 Pp Ss Mm Aa Cc RX5 cX5_init 1 := B
  refine a_aload_n B dX5_init_0 rfl ?_
  refine u_obj B lo_X5_3 dX5_init_1 (Nat.le_of_ble_eq_true rfl) ⟨Nat.le_of_ble_eq_true rfl, Nat.le_of_ble_eq_true rfl⟩ ?_
  refine a_aload_n B dX5_init_4 rfl ?_
  refine a_bipush (v := 120) B dX5_init_5 (by decide) ?_
  refine u_newB (n := 120) (W' := fun q1 => [(h0, .inr (5, [.null, .int 0])), (q1, .inl (cy 1, 120, .inl (fun _ => 0)))]) B rfl (by decide) (fun _ => rfl) (Nat.le_of_ble_eq_true rfl) (Nat.le_of_ble_eq_true rfl) dX5_init_7 (fun q1 B => ?_)
  refine u_putF (q0 := 0) (W' := [(h0, .inr (5, [.ref q1, .int 0])), (q1, .inl (cy 1, 120, .inl (fun _ => 0)))]) B hin fg_X5_9 ff_5_0 rfl (Nat.le_of_ble_eq_true rfl) rfl rfl rfl dX5_init_9 (fun B => ?_)
  refine a_aload_n B dX5_init_12 rfl ?_
  refine a_iconst (v := 0) B dX5_init_13 (by decide) ?_
  refine u_put (q0 := 0) (W' := [(h0, .inr (5, [.ref q1, .int 0])), (q1, .inl (cy 1, 120, .inl (fun _ => 0)))]) B fl_X5_15 fp_5_1 rfl (Nat.le_of_ble_eq_true rfl) rfl rfl rfl dX5_init_14 (fun B => ?_)
  have hSh : ∃ b, ([(h0, .inr (5, [.ref q1, .int 0])), (q1, .inl (cy 1, 120, .inl (fun _ => 0)))] : va_W) = tapW cy h0 b := ⟨q1, rfl⟩
  exact u_vret B hr hlk (Nat.le_of_ble_eq_true rfl) (Nat.le_of_ble_eq_true rfl) hSh dX5_init_17
set_option maxRecDepth 20000 in
set_option maxHeartbeats 4000000 in
theorem k_X4_init (h0 : Nat) : CN l sk D cy mX4_init 1 1 40 h0 (.inr (4, [.int 0, .int 0, .null])) (fun W1 => ∃ b, W1 = sheW cy h0 b) := by
  refine CN.of (lo := [some (.ref h0)]) cf_X4_init rfl 0 rfl (Nat.le_of_ble_eq_true rfl) (fun Pp Ee Ss Mm Aa Bb Me Cc A0 B hr hlk hin hao => ?_)
  have B : BS sk D cy (UW [(h0, .inr (4, [.int 0, .int 0, .null]))]) A0 Pp Ss Mm Aa Cc RX4 cX4_init 1 := B
  refine a_aload_n B dX4_init_0 rfl ?_
  refine u_obj B lo_X4_3 dX4_init_1 (Nat.le_of_ble_eq_true rfl) ⟨Nat.le_of_ble_eq_true rfl, Nat.le_of_ble_eq_true rfl⟩ ?_
  refine a_aload_n B dX4_init_4 rfl ?_
  refine a_iconst (v := 0) B dX4_init_5 (by decide) ?_
  refine u_put (q0 := 0) (W' := [(h0, .inr (4, [.int 0, .int 0, .null]))]) B fl_X4_9 fp_4_0 rfl (Nat.le_of_ble_eq_true rfl) rfl rfl rfl dX4_init_6 (fun B => ?_)
  refine a_aload_n B dX4_init_9 rfl ?_
  refine a_iconst (v := 0) B dX4_init_10 (by decide) ?_
  refine u_put (q0 := 0) (W' := [(h0, .inr (4, [.int 0, .int 0, .null]))]) B fl_X4_15 fp_4_1 rfl (Nat.le_of_ble_eq_true rfl) rfl rfl rfl dX4_init_11 (fun B => ?_)
  refine a_aload_n B dX4_init_14 rfl ?_
  refine a_bipush (v := 40) B dX4_init_15 (by decide) ?_
  refine u_newI (n := 40) (W' := fun q1 => [(h0, .inr (4, [.int 0, .int 0, .null])), (q1, .inl (cy 0, 40, .inl (fun _ => 0)))]) B rfl (by decide) (fun _ => rfl) (Nat.le_of_ble_eq_true rfl) (Nat.le_of_ble_eq_true rfl) dX4_init_17 (fun q1 B => ?_)
  refine u_putF (q0 := 0) (W' := [(h0, .inr (4, [.int 0, .int 0, .ref q1])), (q1, .inl (cy 0, 40, .inl (fun _ => 0)))]) B hin fg_X4_18 ff_4_2 rfl (Nat.le_of_ble_eq_true rfl) rfl rfl rfl dX4_init_19 (fun B => ?_)
  have hSh : ∃ b, ([(h0, .inr (4, [.int 0, .int 0, .ref q1])), (q1, .inl (cy 0, 40, .inl (fun _ => 0)))] : va_W) = sheW cy h0 b := ⟨q1, rfl⟩
  exact u_vret B hr hlk (Nat.le_of_ble_eq_true rfl) (Nat.le_of_ble_eq_true rfl) hSh dX4_init_22
set_option maxRecDepth 20000 in
set_option maxHeartbeats 4000000 in
theorem k_X0_init (h0 : Nat) : CN l sk D cy mX0_init 2 11 72 h0 (.inr (0, [.int 0, .int 0, .int 0, .int 0, .int 0, .int 0, .null, .null, .null])) (fun W1 => ∃ Ba : Nat → Nat, Ba 0 = h0 ∧ W1 = misW cy Ba) := by
  refine CN.of (lo := [some (.ref h0), none]) cf_X0_init rfl 1 rfl (Nat.le_of_ble_eq_true rfl) (fun Pp Ee Ss Mm Aa Bb Me Cc A0 B hr hlk hin hao => ?_)
  have B : BS sk D cy (UW [(h0, .inr (0, [.int 0, .int 0, .int 0, .int 0, .int 0, .int 0, .null, .null, .null]))]) A0 Pp Ss Mm Aa Cc RX0 cX0_init 2 := B
  refine a_aload_n B dX0_init_0 rfl ?_
  refine u_obj B lo_X0_3 dX0_init_1 (Nat.le_of_ble_eq_true rfl) ⟨Nat.le_of_ble_eq_true rfl, Nat.le_of_ble_eq_true rfl⟩ ?_
  refine a_aload_n B dX0_init_4 rfl ?_
  refine a_iconst (v := 0) B dX0_init_5 (by decide) ?_
  refine u_put (q0 := 0) (W' := [(h0, .inr (0, [.int 0, .int 0, .int 0, .int 0, .int 0, .int 0, .null, .null, .null]))]) B fl_X0_9 fp_0_0 rfl (Nat.le_of_ble_eq_true rfl) rfl rfl rfl dX0_init_6 (fun B => ?_)
  refine a_aload_n B dX0_init_9 rfl ?_
  refine a_iconst (v := 2) B dX0_init_10 (by decide) ?_
  refine u_put (q0 := 0) (W' := [(h0, .inr (0, [.int 0, .int 2, .int 0, .int 0, .int 0, .int 0, .null, .null, .null]))]) B fl_X0_15 fp_0_1 rfl (Nat.le_of_ble_eq_true rfl) rfl rfl rfl dX0_init_11 (fun B => ?_)
  refine a_aload_n B dX0_init_14 rfl ?_
  refine a_iconst (v := 0) B dX0_init_15 (by decide) ?_
  refine u_put (q0 := 0) (W' := [(h0, .inr (0, [.int 0, .int 2, .int 0, .int 0, .int 0, .int 0, .null, .null, .null]))]) B fl_X0_18 fp_0_2 rfl (Nat.le_of_ble_eq_true rfl) rfl rfl rfl dX0_init_16 (fun B => ?_)
  refine a_aload_n B dX0_init_19 rfl ?_
  refine a_iconst (v := 0) B dX0_init_20 (by decide) ?_
  refine u_put (q0 := 0) (W' := [(h0, .inr (0, [.int 0, .int 2, .int 0, .int 0, .int 0, .int 0, .null, .null, .null]))]) B fl_X0_21 fp_0_3 rfl (Nat.le_of_ble_eq_true rfl) rfl rfl rfl dX0_init_21 (fun B => ?_)
  refine a_aload_n B dX0_init_24 rfl ?_
  refine a_iconst (v := 1) B dX0_init_25 (by decide) ?_
  refine u_put (q0 := 0) (W' := [(h0, .inr (0, [.int 0, .int 2, .int 0, .int 0, .int 1, .int 0, .null, .null, .null]))]) B fl_X0_24 fp_0_4 rfl (Nat.le_of_ble_eq_true rfl) rfl rfl rfl dX0_init_26 (fun B => ?_)
  refine a_aload_n B dX0_init_29 rfl ?_
  refine a_iconst (v := 0) B dX0_init_30 (by decide) ?_
  refine u_put (q0 := 0) (W' := [(h0, .inr (0, [.int 0, .int 2, .int 0, .int 0, .int 1, .int 0, .null, .null, .null]))]) B fl_X0_27 fp_0_5 rfl (Nat.le_of_ble_eq_true rfl) rfl rfl rfl dX0_init_31 (fun B => ?_)
  refine a_aload_n B dX0_init_34 rfl ?_
  refine a_bipush (v := 6) B dX0_init_35 (by decide) ?_
  refine u_newI (n := 6) (W' := fun q1 => [(h0, .inr (0, [.int 0, .int 2, .int 0, .int 0, .int 1, .int 0, .null, .null, .null])), (q1, .inl (cy 0, 6, .inl (fun _ => 0)))]) B rfl (by decide) (fun _ => rfl) (Nat.le_of_ble_eq_true rfl) (Nat.le_of_ble_eq_true rfl) dX0_init_37 (fun q1 B => ?_)
  refine u_putF (q0 := 0) (W' := [(h0, .inr (0, [.int 0, .int 2, .int 0, .int 0, .int 1, .int 0, .ref q1, .null, .null])), (q1, .inl (cy 0, 6, .inl (fun _ => 0)))]) B hin fg_X0_30 ff_0_6 rfl (Nat.le_of_ble_eq_true rfl) rfl rfl rfl dX0_init_39 (fun B => ?_)
  refine a_aload_n B dX0_init_42 rfl ?_
  refine a_bipush (v := 10) B dX0_init_43 (by decide) ?_
  refine u_newI (n := 10) (W' := fun q2 => [(h0, .inr (0, [.int 0, .int 2, .int 0, .int 0, .int 1, .int 0, .ref q1, .null, .null])), (q1, .inl (cy 0, 6, .inl (fun _ => 0))), (q2, .inl (cy 0, 10, .inl (fun _ => 0)))]) B rfl (by decide) (fun _ => rfl) (Nat.le_of_ble_eq_true rfl) (Nat.le_of_ble_eq_true rfl) dX0_init_45 (fun q2 B => ?_)
  refine u_putF (q0 := 0) (W' := [(h0, .inr (0, [.int 0, .int 2, .int 0, .int 0, .int 1, .int 0, .ref q1, .ref q2, .null])), (q1, .inl (cy 0, 6, .inl (fun _ => 0))), (q2, .inl (cy 0, 10, .inl (fun _ => 0)))]) B hin fg_X0_34 ff_0_7 rfl (Nat.le_of_ble_eq_true rfl) rfl rfl rfl dX0_init_47 (fun B => ?_)
  refine a_aload_n B dX0_init_50 rfl ?_
  refine a_bipush (v := 8) B dX0_init_51 (by decide) ?_
  refine u_newQ (n := 8) (t0 := 2) (W' := fun q3 => [(h0, .inr (0, [.int 0, .int 2, .int 0, .int 0, .int 1, .int 0, .ref q1, .ref q2, .null])), (q1, .inl (cy 0, 6, .inl (fun _ => 0))), (q2, .inl (cy 0, 10, .inl (fun _ => 0))), (q3, .inl (cy 2, 8, .inr (.inr (.inr (.inr (fun _ => none))))))]) B cl_X0_37 hao.1 rfl rfl (by decide) (fun _ => rfl) (Nat.le_of_ble_eq_true rfl) (Nat.le_of_ble_eq_true rfl) dX0_init_53 (fun q3 B => ?_)
  refine u_putF (q0 := 0) (W' := [(h0, .inr (0, [.int 0, .int 2, .int 0, .int 0, .int 1, .int 0, .ref q1, .ref q2, .ref q3])), (q1, .inl (cy 0, 6, .inl (fun _ => 0))), (q2, .inl (cy 0, 10, .inl (fun _ => 0))), (q3, .inl (cy 2, 8, .inr (.inr (.inr (.inr (fun _ => none))))))]) B hin fg_X0_39 ff_0_8 rfl (Nat.le_of_ble_eq_true rfl) rfl rfl rfl dX0_init_56 (fun B => ?_)
  refine a_iconst (v := 0) B dX0_init_59 (by decide) ?_
  refine p_istore1 B dX0_init_60 (by decide) (k := ?_)
  refine a_iload_n B dX0_init_61 rfl ?_
  refine a_bipush (v := 10) B dX0_init_62 (by decide) ?_
  refine a_icmp_ge 80 B dX0_init_64 (by decide) (fun c9 => absurd c9 (by decide)) (fun c9 => ?_)
  refine a_aload_n B dX0_init_67 rfl ?_
  refine u_get (q0 := 0) (k := 7) (v := .ref q2) B fl_X0_34 rfl rfl dX0_init_68 ?_
  refine a_iload_n B dX0_init_71 rfl ?_
  refine a_iconst (v := (-1)) B dX0_init_72 (by decide) ?_
  refine u_iast (q0 := 2) (i := 0) (W' := [(h0, .inr (0, [.int 0, .int 2, .int 0, .int 0, .int 1, .int 0, .ref q1, .ref q2, .ref q3])), (q1, .inl (cy 0, 6, .inl (fun _ => 0))), (q2, .inl (cy 0, 10, .inl (upd (fun _ => 0) 0 (-1)))), (q3, .inl (cy 2, 8, .inr (.inr (.inr (.inr (fun _ => none))))))]) B rfl (by decide) (by decide) rfl dX0_init_73 (fun B => ?_)
  refine p_iinc1 1 B dX0_init_74 (by decide) (by decide) (k := ?_)
  rw [show (0 : Int32) + 1 = 1 from by decide]
  refine a_goto 61 B dX0_init_77 (by decide) ?_
  refine a_iload_n B dX0_init_61 rfl ?_
  refine a_bipush (v := 10) B dX0_init_62 (by decide) ?_
  refine a_icmp_ge 80 B dX0_init_64 (by decide) (fun c9 => absurd c9 (by decide)) (fun c9 => ?_)
  refine a_aload_n B dX0_init_67 rfl ?_
  refine u_get (q0 := 0) (k := 7) (v := .ref q2) B fl_X0_34 rfl rfl dX0_init_68 ?_
  refine a_iload_n B dX0_init_71 rfl ?_
  refine a_iconst (v := (-1)) B dX0_init_72 (by decide) ?_
  refine u_iast (q0 := 2) (i := 1) (W' := [(h0, .inr (0, [.int 0, .int 2, .int 0, .int 0, .int 1, .int 0, .ref q1, .ref q2, .ref q3])), (q1, .inl (cy 0, 6, .inl (fun _ => 0))), (q2, .inl (cy 0, 10, .inl (upd (upd (fun _ => 0) 0 (-1)) 1 (-1)))), (q3, .inl (cy 2, 8, .inr (.inr (.inr (.inr (fun _ => none))))))]) B rfl (by decide) (by decide) rfl dX0_init_73 (fun B => ?_)
  refine p_iinc1 1 B dX0_init_74 (by decide) (by decide) (k := ?_)
  rw [show (1 : Int32) + 1 = 2 from by decide]
  refine a_goto 61 B dX0_init_77 (by decide) ?_
  refine a_iload_n B dX0_init_61 rfl ?_
  refine a_bipush (v := 10) B dX0_init_62 (by decide) ?_
  refine a_icmp_ge 80 B dX0_init_64 (by decide) (fun c9 => absurd c9 (by decide)) (fun c9 => ?_)
  refine a_aload_n B dX0_init_67 rfl ?_
  refine u_get (q0 := 0) (k := 7) (v := .ref q2) B fl_X0_34 rfl rfl dX0_init_68 ?_
  refine a_iload_n B dX0_init_71 rfl ?_
  refine a_iconst (v := (-1)) B dX0_init_72 (by decide) ?_
  refine u_iast (q0 := 2) (i := 2) (W' := [(h0, .inr (0, [.int 0, .int 2, .int 0, .int 0, .int 1, .int 0, .ref q1, .ref q2, .ref q3])), (q1, .inl (cy 0, 6, .inl (fun _ => 0))), (q2, .inl (cy 0, 10, .inl (upd (upd (upd (fun _ => 0) 0 (-1)) 1 (-1)) 2 (-1)))), (q3, .inl (cy 2, 8, .inr (.inr (.inr (.inr (fun _ => none))))))]) B rfl (by decide) (by decide) rfl dX0_init_73 (fun B => ?_)
  refine p_iinc1 1 B dX0_init_74 (by decide) (by decide) (k := ?_)
  rw [show (2 : Int32) + 1 = 3 from by decide]
  refine a_goto 61 B dX0_init_77 (by decide) ?_
  refine a_iload_n B dX0_init_61 rfl ?_
  refine a_bipush (v := 10) B dX0_init_62 (by decide) ?_
  refine a_icmp_ge 80 B dX0_init_64 (by decide) (fun c9 => absurd c9 (by decide)) (fun c9 => ?_)
  refine a_aload_n B dX0_init_67 rfl ?_
  refine u_get (q0 := 0) (k := 7) (v := .ref q2) B fl_X0_34 rfl rfl dX0_init_68 ?_
  refine a_iload_n B dX0_init_71 rfl ?_
  refine a_iconst (v := (-1)) B dX0_init_72 (by decide) ?_
  refine u_iast (q0 := 2) (i := 3) (W' := [(h0, .inr (0, [.int 0, .int 2, .int 0, .int 0, .int 1, .int 0, .ref q1, .ref q2, .ref q3])), (q1, .inl (cy 0, 6, .inl (fun _ => 0))), (q2, .inl (cy 0, 10, .inl (upd (upd (upd (upd (fun _ => 0) 0 (-1)) 1 (-1)) 2 (-1)) 3 (-1)))), (q3, .inl (cy 2, 8, .inr (.inr (.inr (.inr (fun _ => none))))))]) B rfl (by decide) (by decide) rfl dX0_init_73 (fun B => ?_)
  refine p_iinc1 1 B dX0_init_74 (by decide) (by decide) (k := ?_)
  rw [show (3 : Int32) + 1 = 4 from by decide]
  refine a_goto 61 B dX0_init_77 (by decide) ?_
  refine a_iload_n B dX0_init_61 rfl ?_
  refine a_bipush (v := 10) B dX0_init_62 (by decide) ?_
  refine a_icmp_ge 80 B dX0_init_64 (by decide) (fun c9 => absurd c9 (by decide)) (fun c9 => ?_)
  refine a_aload_n B dX0_init_67 rfl ?_
  refine u_get (q0 := 0) (k := 7) (v := .ref q2) B fl_X0_34 rfl rfl dX0_init_68 ?_
  refine a_iload_n B dX0_init_71 rfl ?_
  refine a_iconst (v := (-1)) B dX0_init_72 (by decide) ?_
  refine u_iast (q0 := 2) (i := 4) (W' := [(h0, .inr (0, [.int 0, .int 2, .int 0, .int 0, .int 1, .int 0, .ref q1, .ref q2, .ref q3])), (q1, .inl (cy 0, 6, .inl (fun _ => 0))), (q2, .inl (cy 0, 10, .inl (upd (upd (upd (upd (upd (fun _ => 0) 0 (-1)) 1 (-1)) 2 (-1)) 3 (-1)) 4 (-1)))), (q3, .inl (cy 2, 8, .inr (.inr (.inr (.inr (fun _ => none))))))]) B rfl (by decide) (by decide) rfl dX0_init_73 (fun B => ?_)
  refine p_iinc1 1 B dX0_init_74 (by decide) (by decide) (k := ?_)
  rw [show (4 : Int32) + 1 = 5 from by decide]
  refine a_goto 61 B dX0_init_77 (by decide) ?_
  refine a_iload_n B dX0_init_61 rfl ?_
  refine a_bipush (v := 10) B dX0_init_62 (by decide) ?_
  refine a_icmp_ge 80 B dX0_init_64 (by decide) (fun c9 => absurd c9 (by decide)) (fun c9 => ?_)
  refine a_aload_n B dX0_init_67 rfl ?_
  refine u_get (q0 := 0) (k := 7) (v := .ref q2) B fl_X0_34 rfl rfl dX0_init_68 ?_
  refine a_iload_n B dX0_init_71 rfl ?_
  refine a_iconst (v := (-1)) B dX0_init_72 (by decide) ?_
  refine u_iast (q0 := 2) (i := 5) (W' := [(h0, .inr (0, [.int 0, .int 2, .int 0, .int 0, .int 1, .int 0, .ref q1, .ref q2, .ref q3])), (q1, .inl (cy 0, 6, .inl (fun _ => 0))), (q2, .inl (cy 0, 10, .inl (upd (upd (upd (upd (upd (upd (fun _ => 0) 0 (-1)) 1 (-1)) 2 (-1)) 3 (-1)) 4 (-1)) 5 (-1)))), (q3, .inl (cy 2, 8, .inr (.inr (.inr (.inr (fun _ => none))))))]) B rfl (by decide) (by decide) rfl dX0_init_73 (fun B => ?_)
  refine p_iinc1 1 B dX0_init_74 (by decide) (by decide) (k := ?_)
  rw [show (5 : Int32) + 1 = 6 from by decide]
  refine a_goto 61 B dX0_init_77 (by decide) ?_
  refine a_iload_n B dX0_init_61 rfl ?_
  refine a_bipush (v := 10) B dX0_init_62 (by decide) ?_
  refine a_icmp_ge 80 B dX0_init_64 (by decide) (fun c9 => absurd c9 (by decide)) (fun c9 => ?_)
  refine a_aload_n B dX0_init_67 rfl ?_
  refine u_get (q0 := 0) (k := 7) (v := .ref q2) B fl_X0_34 rfl rfl dX0_init_68 ?_
  refine a_iload_n B dX0_init_71 rfl ?_
  refine a_iconst (v := (-1)) B dX0_init_72 (by decide) ?_
  refine u_iast (q0 := 2) (i := 6) (W' := [(h0, .inr (0, [.int 0, .int 2, .int 0, .int 0, .int 1, .int 0, .ref q1, .ref q2, .ref q3])), (q1, .inl (cy 0, 6, .inl (fun _ => 0))), (q2, .inl (cy 0, 10, .inl (upd (upd (upd (upd (upd (upd (upd (fun _ => 0) 0 (-1)) 1 (-1)) 2 (-1)) 3 (-1)) 4 (-1)) 5 (-1)) 6 (-1)))), (q3, .inl (cy 2, 8, .inr (.inr (.inr (.inr (fun _ => none))))))]) B rfl (by decide) (by decide) rfl dX0_init_73 (fun B => ?_)
  refine p_iinc1 1 B dX0_init_74 (by decide) (by decide) (k := ?_)
  rw [show (6 : Int32) + 1 = 7 from by decide]
  refine a_goto 61 B dX0_init_77 (by decide) ?_
  refine a_iload_n B dX0_init_61 rfl ?_
  refine a_bipush (v := 10) B dX0_init_62 (by decide) ?_
  refine a_icmp_ge 80 B dX0_init_64 (by decide) (fun c9 => absurd c9 (by decide)) (fun c9 => ?_)
  refine a_aload_n B dX0_init_67 rfl ?_
  refine u_get (q0 := 0) (k := 7) (v := .ref q2) B fl_X0_34 rfl rfl dX0_init_68 ?_
  refine a_iload_n B dX0_init_71 rfl ?_
  refine a_iconst (v := (-1)) B dX0_init_72 (by decide) ?_
  refine u_iast (q0 := 2) (i := 7) (W' := [(h0, .inr (0, [.int 0, .int 2, .int 0, .int 0, .int 1, .int 0, .ref q1, .ref q2, .ref q3])), (q1, .inl (cy 0, 6, .inl (fun _ => 0))), (q2, .inl (cy 0, 10, .inl (upd (upd (upd (upd (upd (upd (upd (upd (fun _ => 0) 0 (-1)) 1 (-1)) 2 (-1)) 3 (-1)) 4 (-1)) 5 (-1)) 6 (-1)) 7 (-1)))), (q3, .inl (cy 2, 8, .inr (.inr (.inr (.inr (fun _ => none))))))]) B rfl (by decide) (by decide) rfl dX0_init_73 (fun B => ?_)
  refine p_iinc1 1 B dX0_init_74 (by decide) (by decide) (k := ?_)
  rw [show (7 : Int32) + 1 = 8 from by decide]
  refine a_goto 61 B dX0_init_77 (by decide) ?_
  refine a_iload_n B dX0_init_61 rfl ?_
  refine a_bipush (v := 10) B dX0_init_62 (by decide) ?_
  refine a_icmp_ge 80 B dX0_init_64 (by decide) (fun c9 => absurd c9 (by decide)) (fun c9 => ?_)
  refine a_aload_n B dX0_init_67 rfl ?_
  refine u_get (q0 := 0) (k := 7) (v := .ref q2) B fl_X0_34 rfl rfl dX0_init_68 ?_
  refine a_iload_n B dX0_init_71 rfl ?_
  refine a_iconst (v := (-1)) B dX0_init_72 (by decide) ?_
  refine u_iast (q0 := 2) (i := 8) (W' := [(h0, .inr (0, [.int 0, .int 2, .int 0, .int 0, .int 1, .int 0, .ref q1, .ref q2, .ref q3])), (q1, .inl (cy 0, 6, .inl (fun _ => 0))), (q2, .inl (cy 0, 10, .inl (upd (upd (upd (upd (upd (upd (upd (upd (upd (fun _ => 0) 0 (-1)) 1 (-1)) 2 (-1)) 3 (-1)) 4 (-1)) 5 (-1)) 6 (-1)) 7 (-1)) 8 (-1)))), (q3, .inl (cy 2, 8, .inr (.inr (.inr (.inr (fun _ => none))))))]) B rfl (by decide) (by decide) rfl dX0_init_73 (fun B => ?_)
  refine p_iinc1 1 B dX0_init_74 (by decide) (by decide) (k := ?_)
  rw [show (8 : Int32) + 1 = 9 from by decide]
  refine a_goto 61 B dX0_init_77 (by decide) ?_
  refine a_iload_n B dX0_init_61 rfl ?_
  refine a_bipush (v := 10) B dX0_init_62 (by decide) ?_
  refine a_icmp_ge 80 B dX0_init_64 (by decide) (fun c9 => absurd c9 (by decide)) (fun c9 => ?_)
  refine a_aload_n B dX0_init_67 rfl ?_
  refine u_get (q0 := 0) (k := 7) (v := .ref q2) B fl_X0_34 rfl rfl dX0_init_68 ?_
  refine a_iload_n B dX0_init_71 rfl ?_
  refine a_iconst (v := (-1)) B dX0_init_72 (by decide) ?_
  refine u_iast (q0 := 2) (i := 9) (W' := [(h0, .inr (0, [.int 0, .int 2, .int 0, .int 0, .int 1, .int 0, .ref q1, .ref q2, .ref q3])), (q1, .inl (cy 0, 6, .inl (fun _ => 0))), (q2, .inl (cy 0, 10, .inl (upd (upd (upd (upd (upd (upd (upd (upd (upd (upd (fun _ => 0) 0 (-1)) 1 (-1)) 2 (-1)) 3 (-1)) 4 (-1)) 5 (-1)) 6 (-1)) 7 (-1)) 8 (-1)) 9 (-1)))), (q3, .inl (cy 2, 8, .inr (.inr (.inr (.inr (fun _ => none))))))]) B rfl (by decide) (by decide) rfl dX0_init_73 (fun B => ?_)
  refine p_iinc1 1 B dX0_init_74 (by decide) (by decide) (k := ?_)
  rw [show (9 : Int32) + 1 = 10 from by decide]
  refine a_goto 61 B dX0_init_77 (by decide) ?_
  refine a_iload_n B dX0_init_61 rfl ?_
  refine a_bipush (v := 10) B dX0_init_62 (by decide) ?_
  refine a_icmp_ge 80 B dX0_init_64 (by decide) (fun c9 => ?_) (fun c9 => absurd (by decide) c9)
  refine a_iconst (v := 0) B dX0_init_80 (by decide) ?_
  refine p_istore1 B dX0_init_81 (by decide) (k := ?_)
  refine a_iload_n B dX0_init_82 rfl ?_
  refine a_bipush (v := 8) B dX0_init_83 (by decide) ?_
  refine a_icmp_ge 107 B dX0_init_85 (by decide) (fun c9 => absurd c9 (by decide)) (fun c9 => ?_)
  refine a_aload_n B dX0_init_88 rfl ?_
  refine u_get (q0 := 0) (k := 8) (v := .ref q3) B fl_X0_39 rfl rfl dX0_init_89 ?_
  refine a_iload_n B dX0_init_92 rfl ?_
  refine u_new (W' := fun q4 => [(h0, .inr (0, [.int 0, .int 2, .int 0, .int 0, .int 1, .int 0, .ref q1, .ref q2, .ref q3])), (q1, .inl (cy 0, 6, .inl (fun _ => 0))), (q2, .inl (cy 0, 10, .inl (upd (upd (upd (upd (upd (upd (upd (upd (upd (upd (fun _ => 0) 0 (-1)) 1 (-1)) 2 (-1)) 3 (-1)) 4 (-1)) 5 (-1)) 6 (-1)) 7 (-1)) 8 (-1)) 9 (-1)))), (q3, .inl (cy 2, 8, .inr (.inr (.inr (.inr (fun _ => none)))))), (q4, .inr (1, [.int 0, .int 0, .int 0, .int 0, .int 0, .int 0]))]) B nw_X0_37 (fun _ => rfl) (Nat.le_of_ble_eq_true rfl) (Nat.le_of_ble_eq_true rfl) dX0_init_93 (fun q4 B => ?_)
  refine a_dup B dX0_init_96 rfl ?_
  refine u_call (X := [(h0, .inr (0, [.int 0, .int 2, .int 0, .int 0, .int 1, .int 0, .ref q1, .ref q2, .ref q3])), (q1, .inl (cy 0, 6, .inl (fun _ => 0))), (q2, .inl (cy 0, 10, .inl (upd (upd (upd (upd (upd (upd (upd (upd (upd (upd (fun _ => 0) 0 (-1)) 1 (-1)) 2 (-1)) 3 (-1)) 4 (-1)) 5 (-1)) 6 (-1)) 7 (-1)) 8 (-1)) 9 (-1)))), (q3, .inl (cy 2, 8, .inr (.inr (.inr (.inr (fun _ => none))))))]) B hao cf_X1_init rfl (Or.inr ⟨_, ln_X0_43⟩) in_X1_init rfl rfl (k_X1_init q4) dX0_init_97 (Nat.le_of_ble_eq_true rfl) ⟨Nat.le_of_ble_eq_true rfl, Nat.le_of_ble_eq_true rfl⟩ ⟨Nat.le_of_ble_eq_true rfl, Nat.le_of_ble_eq_true rfl⟩ (fun W1 hW1 B => ?_)
  subst hW1
  refine u_as (W' := [(h0, .inr (0, [.int 0, .int 2, .int 0, .int 0, .int 1, .int 0, .ref q1, .ref q2, .ref q3])), (q1, .inl (cy 0, 6, .inl (fun _ => 0))), (q2, .inl (cy 0, 10, .inl (upd (upd (upd (upd (upd (upd (upd (upd (upd (upd (fun _ => 0) 0 (-1)) 1 (-1)) 2 (-1)) 3 (-1)) 4 (-1)) 5 (-1)) 6 (-1)) 7 (-1)) 8 (-1)) 9 (-1)))), (q3, .inl (cy 2, 8, .inr (.inr (.inr (.inr (fun _ => none)))))), (q4, .inr (1, [.int 0, .int 0, .int 0, .int 0, .int 0, .int 0]))]) rfl ?_
  have B : BS sk D cy (UW ([(h0, .inr (0, [.int 0, .int 2, .int 0, .int 0, .int 1, .int 0, .ref q1, .ref q2, .ref q3])), (q1, .inl (cy 0, 6, .inl (fun _ => 0))), (q2, .inl (cy 0, 10, .inl (upd (upd (upd (upd (upd (upd (upd (upd (upd (upd (fun _ => 0) 0 (-1)) 1 (-1)) 2 (-1)) 3 (-1)) 4 (-1)) 5 (-1)) 6 (-1)) 7 (-1)) 8 (-1)) 9 (-1)))), (q3, .inl (cy 2, 8, .inr (.inr (.inr (.inr (fun _ => none)))))), (q4, .inr (1, [.int 0, .int 0, .int 0, .int 0, .int 0, .int 0]))])) A0 Pp Ss Mm Aa Cc RX0 cX0_init 2 := B
  refine u_aast (q0 := 3) (qk := 4) (i := 0) (t0 := 2) (ci := 1) B rfl rfl rfl rfl (by decide) (by decide) (W' := [(h0, .inr (0, [.int 0, .int 2, .int 0, .int 0, .int 1, .int 0, .ref q1, .ref q2, .ref q3])), (q1, .inl (cy 0, 6, .inl (fun _ => 0))), (q2, .inl (cy 0, 10, .inl (upd (upd (upd (upd (upd (upd (upd (upd (upd (upd (fun _ => 0) 0 (-1)) 1 (-1)) 2 (-1)) 3 (-1)) 4 (-1)) 5 (-1)) 6 (-1)) 7 (-1)) 8 (-1)) 9 (-1)))), (q3, .inl (cy 2, 8, .inr (.inr (.inr (.inr (va_up (fun _ => none) 0 (some q4))))))), (q4, .inr (1, [.int 0, .int 0, .int 0, .int 0, .int 0, .int 0]))]) rfl dX0_init_100 (fun B => ?_)
  refine p_iinc1 1 B dX0_init_101 (by decide) (by decide) (k := ?_)
  rw [show (0 : Int32) + 1 = 1 from by decide]
  refine a_goto 82 B dX0_init_104 (by decide) ?_
  refine a_iload_n B dX0_init_82 rfl ?_
  refine a_bipush (v := 8) B dX0_init_83 (by decide) ?_
  refine a_icmp_ge 107 B dX0_init_85 (by decide) (fun c9 => absurd c9 (by decide)) (fun c9 => ?_)
  refine a_aload_n B dX0_init_88 rfl ?_
  refine u_get (q0 := 0) (k := 8) (v := .ref q3) B fl_X0_39 rfl rfl dX0_init_89 ?_
  refine a_iload_n B dX0_init_92 rfl ?_
  refine u_new (W' := fun q5 => [(h0, .inr (0, [.int 0, .int 2, .int 0, .int 0, .int 1, .int 0, .ref q1, .ref q2, .ref q3])), (q1, .inl (cy 0, 6, .inl (fun _ => 0))), (q2, .inl (cy 0, 10, .inl (upd (upd (upd (upd (upd (upd (upd (upd (upd (upd (fun _ => 0) 0 (-1)) 1 (-1)) 2 (-1)) 3 (-1)) 4 (-1)) 5 (-1)) 6 (-1)) 7 (-1)) 8 (-1)) 9 (-1)))), (q3, .inl (cy 2, 8, .inr (.inr (.inr (.inr (va_up (fun _ => none) 0 (some q4))))))), (q4, .inr (1, [.int 0, .int 0, .int 0, .int 0, .int 0, .int 0])), (q5, .inr (1, [.int 0, .int 0, .int 0, .int 0, .int 0, .int 0]))]) B nw_X0_37 (fun _ => rfl) (Nat.le_of_ble_eq_true rfl) (Nat.le_of_ble_eq_true rfl) dX0_init_93 (fun q5 B => ?_)
  refine a_dup B dX0_init_96 rfl ?_
  refine u_call (X := [(h0, .inr (0, [.int 0, .int 2, .int 0, .int 0, .int 1, .int 0, .ref q1, .ref q2, .ref q3])), (q1, .inl (cy 0, 6, .inl (fun _ => 0))), (q2, .inl (cy 0, 10, .inl (upd (upd (upd (upd (upd (upd (upd (upd (upd (upd (fun _ => 0) 0 (-1)) 1 (-1)) 2 (-1)) 3 (-1)) 4 (-1)) 5 (-1)) 6 (-1)) 7 (-1)) 8 (-1)) 9 (-1)))), (q3, .inl (cy 2, 8, .inr (.inr (.inr (.inr (va_up (fun _ => none) 0 (some q4))))))), (q4, .inr (1, [.int 0, .int 0, .int 0, .int 0, .int 0, .int 0]))]) B hao cf_X1_init rfl (Or.inr ⟨_, ln_X0_43⟩) in_X1_init rfl rfl (k_X1_init q5) dX0_init_97 (Nat.le_of_ble_eq_true rfl) ⟨Nat.le_of_ble_eq_true rfl, Nat.le_of_ble_eq_true rfl⟩ ⟨Nat.le_of_ble_eq_true rfl, Nat.le_of_ble_eq_true rfl⟩ (fun W1 hW1 B => ?_)
  subst hW1
  refine u_as (W' := [(h0, .inr (0, [.int 0, .int 2, .int 0, .int 0, .int 1, .int 0, .ref q1, .ref q2, .ref q3])), (q1, .inl (cy 0, 6, .inl (fun _ => 0))), (q2, .inl (cy 0, 10, .inl (upd (upd (upd (upd (upd (upd (upd (upd (upd (upd (fun _ => 0) 0 (-1)) 1 (-1)) 2 (-1)) 3 (-1)) 4 (-1)) 5 (-1)) 6 (-1)) 7 (-1)) 8 (-1)) 9 (-1)))), (q3, .inl (cy 2, 8, .inr (.inr (.inr (.inr (va_up (fun _ => none) 0 (some q4))))))), (q4, .inr (1, [.int 0, .int 0, .int 0, .int 0, .int 0, .int 0])), (q5, .inr (1, [.int 0, .int 0, .int 0, .int 0, .int 0, .int 0]))]) rfl ?_
  have B : BS sk D cy (UW ([(h0, .inr (0, [.int 0, .int 2, .int 0, .int 0, .int 1, .int 0, .ref q1, .ref q2, .ref q3])), (q1, .inl (cy 0, 6, .inl (fun _ => 0))), (q2, .inl (cy 0, 10, .inl (upd (upd (upd (upd (upd (upd (upd (upd (upd (upd (fun _ => 0) 0 (-1)) 1 (-1)) 2 (-1)) 3 (-1)) 4 (-1)) 5 (-1)) 6 (-1)) 7 (-1)) 8 (-1)) 9 (-1)))), (q3, .inl (cy 2, 8, .inr (.inr (.inr (.inr (va_up (fun _ => none) 0 (some q4))))))), (q4, .inr (1, [.int 0, .int 0, .int 0, .int 0, .int 0, .int 0])), (q5, .inr (1, [.int 0, .int 0, .int 0, .int 0, .int 0, .int 0]))])) A0 Pp Ss Mm Aa Cc RX0 cX0_init 2 := B
  refine u_aast (q0 := 3) (qk := 5) (i := 1) (t0 := 2) (ci := 1) B rfl rfl rfl rfl (by decide) (by decide) (W' := [(h0, .inr (0, [.int 0, .int 2, .int 0, .int 0, .int 1, .int 0, .ref q1, .ref q2, .ref q3])), (q1, .inl (cy 0, 6, .inl (fun _ => 0))), (q2, .inl (cy 0, 10, .inl (upd (upd (upd (upd (upd (upd (upd (upd (upd (upd (fun _ => 0) 0 (-1)) 1 (-1)) 2 (-1)) 3 (-1)) 4 (-1)) 5 (-1)) 6 (-1)) 7 (-1)) 8 (-1)) 9 (-1)))), (q3, .inl (cy 2, 8, .inr (.inr (.inr (.inr (va_up (va_up (fun _ => none) 0 (some q4)) 1 (some q5))))))), (q4, .inr (1, [.int 0, .int 0, .int 0, .int 0, .int 0, .int 0])), (q5, .inr (1, [.int 0, .int 0, .int 0, .int 0, .int 0, .int 0]))]) rfl dX0_init_100 (fun B => ?_)
  refine p_iinc1 1 B dX0_init_101 (by decide) (by decide) (k := ?_)
  rw [show (1 : Int32) + 1 = 2 from by decide]
  refine a_goto 82 B dX0_init_104 (by decide) ?_
  refine a_iload_n B dX0_init_82 rfl ?_
  refine a_bipush (v := 8) B dX0_init_83 (by decide) ?_
  refine a_icmp_ge 107 B dX0_init_85 (by decide) (fun c9 => absurd c9 (by decide)) (fun c9 => ?_)
  refine a_aload_n B dX0_init_88 rfl ?_
  refine u_get (q0 := 0) (k := 8) (v := .ref q3) B fl_X0_39 rfl rfl dX0_init_89 ?_
  refine a_iload_n B dX0_init_92 rfl ?_
  refine u_new (W' := fun q6 => [(h0, .inr (0, [.int 0, .int 2, .int 0, .int 0, .int 1, .int 0, .ref q1, .ref q2, .ref q3])), (q1, .inl (cy 0, 6, .inl (fun _ => 0))), (q2, .inl (cy 0, 10, .inl (upd (upd (upd (upd (upd (upd (upd (upd (upd (upd (fun _ => 0) 0 (-1)) 1 (-1)) 2 (-1)) 3 (-1)) 4 (-1)) 5 (-1)) 6 (-1)) 7 (-1)) 8 (-1)) 9 (-1)))), (q3, .inl (cy 2, 8, .inr (.inr (.inr (.inr (va_up (va_up (fun _ => none) 0 (some q4)) 1 (some q5))))))), (q4, .inr (1, [.int 0, .int 0, .int 0, .int 0, .int 0, .int 0])), (q5, .inr (1, [.int 0, .int 0, .int 0, .int 0, .int 0, .int 0])), (q6, .inr (1, [.int 0, .int 0, .int 0, .int 0, .int 0, .int 0]))]) B nw_X0_37 (fun _ => rfl) (Nat.le_of_ble_eq_true rfl) (Nat.le_of_ble_eq_true rfl) dX0_init_93 (fun q6 B => ?_)
  refine a_dup B dX0_init_96 rfl ?_
  refine u_call (X := [(h0, .inr (0, [.int 0, .int 2, .int 0, .int 0, .int 1, .int 0, .ref q1, .ref q2, .ref q3])), (q1, .inl (cy 0, 6, .inl (fun _ => 0))), (q2, .inl (cy 0, 10, .inl (upd (upd (upd (upd (upd (upd (upd (upd (upd (upd (fun _ => 0) 0 (-1)) 1 (-1)) 2 (-1)) 3 (-1)) 4 (-1)) 5 (-1)) 6 (-1)) 7 (-1)) 8 (-1)) 9 (-1)))), (q3, .inl (cy 2, 8, .inr (.inr (.inr (.inr (va_up (va_up (fun _ => none) 0 (some q4)) 1 (some q5))))))), (q4, .inr (1, [.int 0, .int 0, .int 0, .int 0, .int 0, .int 0])), (q5, .inr (1, [.int 0, .int 0, .int 0, .int 0, .int 0, .int 0]))]) B hao cf_X1_init rfl (Or.inr ⟨_, ln_X0_43⟩) in_X1_init rfl rfl (k_X1_init q6) dX0_init_97 (Nat.le_of_ble_eq_true rfl) ⟨Nat.le_of_ble_eq_true rfl, Nat.le_of_ble_eq_true rfl⟩ ⟨Nat.le_of_ble_eq_true rfl, Nat.le_of_ble_eq_true rfl⟩ (fun W1 hW1 B => ?_)
  subst hW1
  refine u_as (W' := [(h0, .inr (0, [.int 0, .int 2, .int 0, .int 0, .int 1, .int 0, .ref q1, .ref q2, .ref q3])), (q1, .inl (cy 0, 6, .inl (fun _ => 0))), (q2, .inl (cy 0, 10, .inl (upd (upd (upd (upd (upd (upd (upd (upd (upd (upd (fun _ => 0) 0 (-1)) 1 (-1)) 2 (-1)) 3 (-1)) 4 (-1)) 5 (-1)) 6 (-1)) 7 (-1)) 8 (-1)) 9 (-1)))), (q3, .inl (cy 2, 8, .inr (.inr (.inr (.inr (va_up (va_up (fun _ => none) 0 (some q4)) 1 (some q5))))))), (q4, .inr (1, [.int 0, .int 0, .int 0, .int 0, .int 0, .int 0])), (q5, .inr (1, [.int 0, .int 0, .int 0, .int 0, .int 0, .int 0])), (q6, .inr (1, [.int 0, .int 0, .int 0, .int 0, .int 0, .int 0]))]) rfl ?_
  have B : BS sk D cy (UW ([(h0, .inr (0, [.int 0, .int 2, .int 0, .int 0, .int 1, .int 0, .ref q1, .ref q2, .ref q3])), (q1, .inl (cy 0, 6, .inl (fun _ => 0))), (q2, .inl (cy 0, 10, .inl (upd (upd (upd (upd (upd (upd (upd (upd (upd (upd (fun _ => 0) 0 (-1)) 1 (-1)) 2 (-1)) 3 (-1)) 4 (-1)) 5 (-1)) 6 (-1)) 7 (-1)) 8 (-1)) 9 (-1)))), (q3, .inl (cy 2, 8, .inr (.inr (.inr (.inr (va_up (va_up (fun _ => none) 0 (some q4)) 1 (some q5))))))), (q4, .inr (1, [.int 0, .int 0, .int 0, .int 0, .int 0, .int 0])), (q5, .inr (1, [.int 0, .int 0, .int 0, .int 0, .int 0, .int 0])), (q6, .inr (1, [.int 0, .int 0, .int 0, .int 0, .int 0, .int 0]))])) A0 Pp Ss Mm Aa Cc RX0 cX0_init 2 := B
  refine u_aast (q0 := 3) (qk := 6) (i := 2) (t0 := 2) (ci := 1) B rfl rfl rfl rfl (by decide) (by decide) (W' := [(h0, .inr (0, [.int 0, .int 2, .int 0, .int 0, .int 1, .int 0, .ref q1, .ref q2, .ref q3])), (q1, .inl (cy 0, 6, .inl (fun _ => 0))), (q2, .inl (cy 0, 10, .inl (upd (upd (upd (upd (upd (upd (upd (upd (upd (upd (fun _ => 0) 0 (-1)) 1 (-1)) 2 (-1)) 3 (-1)) 4 (-1)) 5 (-1)) 6 (-1)) 7 (-1)) 8 (-1)) 9 (-1)))), (q3, .inl (cy 2, 8, .inr (.inr (.inr (.inr (va_up (va_up (va_up (fun _ => none) 0 (some q4)) 1 (some q5)) 2 (some q6))))))), (q4, .inr (1, [.int 0, .int 0, .int 0, .int 0, .int 0, .int 0])), (q5, .inr (1, [.int 0, .int 0, .int 0, .int 0, .int 0, .int 0])), (q6, .inr (1, [.int 0, .int 0, .int 0, .int 0, .int 0, .int 0]))]) rfl dX0_init_100 (fun B => ?_)
  refine p_iinc1 1 B dX0_init_101 (by decide) (by decide) (k := ?_)
  rw [show (2 : Int32) + 1 = 3 from by decide]
  refine a_goto 82 B dX0_init_104 (by decide) ?_
  refine a_iload_n B dX0_init_82 rfl ?_
  refine a_bipush (v := 8) B dX0_init_83 (by decide) ?_
  refine a_icmp_ge 107 B dX0_init_85 (by decide) (fun c9 => absurd c9 (by decide)) (fun c9 => ?_)
  refine a_aload_n B dX0_init_88 rfl ?_
  refine u_get (q0 := 0) (k := 8) (v := .ref q3) B fl_X0_39 rfl rfl dX0_init_89 ?_
  refine a_iload_n B dX0_init_92 rfl ?_
  refine u_new (W' := fun q7 => [(h0, .inr (0, [.int 0, .int 2, .int 0, .int 0, .int 1, .int 0, .ref q1, .ref q2, .ref q3])), (q1, .inl (cy 0, 6, .inl (fun _ => 0))), (q2, .inl (cy 0, 10, .inl (upd (upd (upd (upd (upd (upd (upd (upd (upd (upd (fun _ => 0) 0 (-1)) 1 (-1)) 2 (-1)) 3 (-1)) 4 (-1)) 5 (-1)) 6 (-1)) 7 (-1)) 8 (-1)) 9 (-1)))), (q3, .inl (cy 2, 8, .inr (.inr (.inr (.inr (va_up (va_up (va_up (fun _ => none) 0 (some q4)) 1 (some q5)) 2 (some q6))))))), (q4, .inr (1, [.int 0, .int 0, .int 0, .int 0, .int 0, .int 0])), (q5, .inr (1, [.int 0, .int 0, .int 0, .int 0, .int 0, .int 0])), (q6, .inr (1, [.int 0, .int 0, .int 0, .int 0, .int 0, .int 0])), (q7, .inr (1, [.int 0, .int 0, .int 0, .int 0, .int 0, .int 0]))]) B nw_X0_37 (fun _ => rfl) (Nat.le_of_ble_eq_true rfl) (Nat.le_of_ble_eq_true rfl) dX0_init_93 (fun q7 B => ?_)
  refine a_dup B dX0_init_96 rfl ?_
  refine u_call (X := [(h0, .inr (0, [.int 0, .int 2, .int 0, .int 0, .int 1, .int 0, .ref q1, .ref q2, .ref q3])), (q1, .inl (cy 0, 6, .inl (fun _ => 0))), (q2, .inl (cy 0, 10, .inl (upd (upd (upd (upd (upd (upd (upd (upd (upd (upd (fun _ => 0) 0 (-1)) 1 (-1)) 2 (-1)) 3 (-1)) 4 (-1)) 5 (-1)) 6 (-1)) 7 (-1)) 8 (-1)) 9 (-1)))), (q3, .inl (cy 2, 8, .inr (.inr (.inr (.inr (va_up (va_up (va_up (fun _ => none) 0 (some q4)) 1 (some q5)) 2 (some q6))))))), (q4, .inr (1, [.int 0, .int 0, .int 0, .int 0, .int 0, .int 0])), (q5, .inr (1, [.int 0, .int 0, .int 0, .int 0, .int 0, .int 0])), (q6, .inr (1, [.int 0, .int 0, .int 0, .int 0, .int 0, .int 0]))]) B hao cf_X1_init rfl (Or.inr ⟨_, ln_X0_43⟩) in_X1_init rfl rfl (k_X1_init q7) dX0_init_97 (Nat.le_of_ble_eq_true rfl) ⟨Nat.le_of_ble_eq_true rfl, Nat.le_of_ble_eq_true rfl⟩ ⟨Nat.le_of_ble_eq_true rfl, Nat.le_of_ble_eq_true rfl⟩ (fun W1 hW1 B => ?_)
  subst hW1
  refine u_as (W' := [(h0, .inr (0, [.int 0, .int 2, .int 0, .int 0, .int 1, .int 0, .ref q1, .ref q2, .ref q3])), (q1, .inl (cy 0, 6, .inl (fun _ => 0))), (q2, .inl (cy 0, 10, .inl (upd (upd (upd (upd (upd (upd (upd (upd (upd (upd (fun _ => 0) 0 (-1)) 1 (-1)) 2 (-1)) 3 (-1)) 4 (-1)) 5 (-1)) 6 (-1)) 7 (-1)) 8 (-1)) 9 (-1)))), (q3, .inl (cy 2, 8, .inr (.inr (.inr (.inr (va_up (va_up (va_up (fun _ => none) 0 (some q4)) 1 (some q5)) 2 (some q6))))))), (q4, .inr (1, [.int 0, .int 0, .int 0, .int 0, .int 0, .int 0])), (q5, .inr (1, [.int 0, .int 0, .int 0, .int 0, .int 0, .int 0])), (q6, .inr (1, [.int 0, .int 0, .int 0, .int 0, .int 0, .int 0])), (q7, .inr (1, [.int 0, .int 0, .int 0, .int 0, .int 0, .int 0]))]) rfl ?_
  have B : BS sk D cy (UW ([(h0, .inr (0, [.int 0, .int 2, .int 0, .int 0, .int 1, .int 0, .ref q1, .ref q2, .ref q3])), (q1, .inl (cy 0, 6, .inl (fun _ => 0))), (q2, .inl (cy 0, 10, .inl (upd (upd (upd (upd (upd (upd (upd (upd (upd (upd (fun _ => 0) 0 (-1)) 1 (-1)) 2 (-1)) 3 (-1)) 4 (-1)) 5 (-1)) 6 (-1)) 7 (-1)) 8 (-1)) 9 (-1)))), (q3, .inl (cy 2, 8, .inr (.inr (.inr (.inr (va_up (va_up (va_up (fun _ => none) 0 (some q4)) 1 (some q5)) 2 (some q6))))))), (q4, .inr (1, [.int 0, .int 0, .int 0, .int 0, .int 0, .int 0])), (q5, .inr (1, [.int 0, .int 0, .int 0, .int 0, .int 0, .int 0])), (q6, .inr (1, [.int 0, .int 0, .int 0, .int 0, .int 0, .int 0])), (q7, .inr (1, [.int 0, .int 0, .int 0, .int 0, .int 0, .int 0]))])) A0 Pp Ss Mm Aa Cc RX0 cX0_init 2 := B
  refine u_aast (q0 := 3) (qk := 7) (i := 3) (t0 := 2) (ci := 1) B rfl rfl rfl rfl (by decide) (by decide) (W' := [(h0, .inr (0, [.int 0, .int 2, .int 0, .int 0, .int 1, .int 0, .ref q1, .ref q2, .ref q3])), (q1, .inl (cy 0, 6, .inl (fun _ => 0))), (q2, .inl (cy 0, 10, .inl (upd (upd (upd (upd (upd (upd (upd (upd (upd (upd (fun _ => 0) 0 (-1)) 1 (-1)) 2 (-1)) 3 (-1)) 4 (-1)) 5 (-1)) 6 (-1)) 7 (-1)) 8 (-1)) 9 (-1)))), (q3, .inl (cy 2, 8, .inr (.inr (.inr (.inr (va_up (va_up (va_up (va_up (fun _ => none) 0 (some q4)) 1 (some q5)) 2 (some q6)) 3 (some q7))))))), (q4, .inr (1, [.int 0, .int 0, .int 0, .int 0, .int 0, .int 0])), (q5, .inr (1, [.int 0, .int 0, .int 0, .int 0, .int 0, .int 0])), (q6, .inr (1, [.int 0, .int 0, .int 0, .int 0, .int 0, .int 0])), (q7, .inr (1, [.int 0, .int 0, .int 0, .int 0, .int 0, .int 0]))]) rfl dX0_init_100 (fun B => ?_)
  refine p_iinc1 1 B dX0_init_101 (by decide) (by decide) (k := ?_)
  rw [show (3 : Int32) + 1 = 4 from by decide]
  refine a_goto 82 B dX0_init_104 (by decide) ?_
  refine a_iload_n B dX0_init_82 rfl ?_
  refine a_bipush (v := 8) B dX0_init_83 (by decide) ?_
  refine a_icmp_ge 107 B dX0_init_85 (by decide) (fun c9 => absurd c9 (by decide)) (fun c9 => ?_)
  refine a_aload_n B dX0_init_88 rfl ?_
  refine u_get (q0 := 0) (k := 8) (v := .ref q3) B fl_X0_39 rfl rfl dX0_init_89 ?_
  refine a_iload_n B dX0_init_92 rfl ?_
  refine u_new (W' := fun q8 => [(h0, .inr (0, [.int 0, .int 2, .int 0, .int 0, .int 1, .int 0, .ref q1, .ref q2, .ref q3])), (q1, .inl (cy 0, 6, .inl (fun _ => 0))), (q2, .inl (cy 0, 10, .inl (upd (upd (upd (upd (upd (upd (upd (upd (upd (upd (fun _ => 0) 0 (-1)) 1 (-1)) 2 (-1)) 3 (-1)) 4 (-1)) 5 (-1)) 6 (-1)) 7 (-1)) 8 (-1)) 9 (-1)))), (q3, .inl (cy 2, 8, .inr (.inr (.inr (.inr (va_up (va_up (va_up (va_up (fun _ => none) 0 (some q4)) 1 (some q5)) 2 (some q6)) 3 (some q7))))))), (q4, .inr (1, [.int 0, .int 0, .int 0, .int 0, .int 0, .int 0])), (q5, .inr (1, [.int 0, .int 0, .int 0, .int 0, .int 0, .int 0])), (q6, .inr (1, [.int 0, .int 0, .int 0, .int 0, .int 0, .int 0])), (q7, .inr (1, [.int 0, .int 0, .int 0, .int 0, .int 0, .int 0])), (q8, .inr (1, [.int 0, .int 0, .int 0, .int 0, .int 0, .int 0]))]) B nw_X0_37 (fun _ => rfl) (Nat.le_of_ble_eq_true rfl) (Nat.le_of_ble_eq_true rfl) dX0_init_93 (fun q8 B => ?_)
  refine a_dup B dX0_init_96 rfl ?_
  refine u_call (X := [(h0, .inr (0, [.int 0, .int 2, .int 0, .int 0, .int 1, .int 0, .ref q1, .ref q2, .ref q3])), (q1, .inl (cy 0, 6, .inl (fun _ => 0))), (q2, .inl (cy 0, 10, .inl (upd (upd (upd (upd (upd (upd (upd (upd (upd (upd (fun _ => 0) 0 (-1)) 1 (-1)) 2 (-1)) 3 (-1)) 4 (-1)) 5 (-1)) 6 (-1)) 7 (-1)) 8 (-1)) 9 (-1)))), (q3, .inl (cy 2, 8, .inr (.inr (.inr (.inr (va_up (va_up (va_up (va_up (fun _ => none) 0 (some q4)) 1 (some q5)) 2 (some q6)) 3 (some q7))))))), (q4, .inr (1, [.int 0, .int 0, .int 0, .int 0, .int 0, .int 0])), (q5, .inr (1, [.int 0, .int 0, .int 0, .int 0, .int 0, .int 0])), (q6, .inr (1, [.int 0, .int 0, .int 0, .int 0, .int 0, .int 0])), (q7, .inr (1, [.int 0, .int 0, .int 0, .int 0, .int 0, .int 0]))]) B hao cf_X1_init rfl (Or.inr ⟨_, ln_X0_43⟩) in_X1_init rfl rfl (k_X1_init q8) dX0_init_97 (Nat.le_of_ble_eq_true rfl) ⟨Nat.le_of_ble_eq_true rfl, Nat.le_of_ble_eq_true rfl⟩ ⟨Nat.le_of_ble_eq_true rfl, Nat.le_of_ble_eq_true rfl⟩ (fun W1 hW1 B => ?_)
  subst hW1
  refine u_as (W' := [(h0, .inr (0, [.int 0, .int 2, .int 0, .int 0, .int 1, .int 0, .ref q1, .ref q2, .ref q3])), (q1, .inl (cy 0, 6, .inl (fun _ => 0))), (q2, .inl (cy 0, 10, .inl (upd (upd (upd (upd (upd (upd (upd (upd (upd (upd (fun _ => 0) 0 (-1)) 1 (-1)) 2 (-1)) 3 (-1)) 4 (-1)) 5 (-1)) 6 (-1)) 7 (-1)) 8 (-1)) 9 (-1)))), (q3, .inl (cy 2, 8, .inr (.inr (.inr (.inr (va_up (va_up (va_up (va_up (fun _ => none) 0 (some q4)) 1 (some q5)) 2 (some q6)) 3 (some q7))))))), (q4, .inr (1, [.int 0, .int 0, .int 0, .int 0, .int 0, .int 0])), (q5, .inr (1, [.int 0, .int 0, .int 0, .int 0, .int 0, .int 0])), (q6, .inr (1, [.int 0, .int 0, .int 0, .int 0, .int 0, .int 0])), (q7, .inr (1, [.int 0, .int 0, .int 0, .int 0, .int 0, .int 0])), (q8, .inr (1, [.int 0, .int 0, .int 0, .int 0, .int 0, .int 0]))]) rfl ?_
  have B : BS sk D cy (UW ([(h0, .inr (0, [.int 0, .int 2, .int 0, .int 0, .int 1, .int 0, .ref q1, .ref q2, .ref q3])), (q1, .inl (cy 0, 6, .inl (fun _ => 0))), (q2, .inl (cy 0, 10, .inl (upd (upd (upd (upd (upd (upd (upd (upd (upd (upd (fun _ => 0) 0 (-1)) 1 (-1)) 2 (-1)) 3 (-1)) 4 (-1)) 5 (-1)) 6 (-1)) 7 (-1)) 8 (-1)) 9 (-1)))), (q3, .inl (cy 2, 8, .inr (.inr (.inr (.inr (va_up (va_up (va_up (va_up (fun _ => none) 0 (some q4)) 1 (some q5)) 2 (some q6)) 3 (some q7))))))), (q4, .inr (1, [.int 0, .int 0, .int 0, .int 0, .int 0, .int 0])), (q5, .inr (1, [.int 0, .int 0, .int 0, .int 0, .int 0, .int 0])), (q6, .inr (1, [.int 0, .int 0, .int 0, .int 0, .int 0, .int 0])), (q7, .inr (1, [.int 0, .int 0, .int 0, .int 0, .int 0, .int 0])), (q8, .inr (1, [.int 0, .int 0, .int 0, .int 0, .int 0, .int 0]))])) A0 Pp Ss Mm Aa Cc RX0 cX0_init 2 := B
  refine u_aast (q0 := 3) (qk := 8) (i := 4) (t0 := 2) (ci := 1) B rfl rfl rfl rfl (by decide) (by decide) (W' := [(h0, .inr (0, [.int 0, .int 2, .int 0, .int 0, .int 1, .int 0, .ref q1, .ref q2, .ref q3])), (q1, .inl (cy 0, 6, .inl (fun _ => 0))), (q2, .inl (cy 0, 10, .inl (upd (upd (upd (upd (upd (upd (upd (upd (upd (upd (fun _ => 0) 0 (-1)) 1 (-1)) 2 (-1)) 3 (-1)) 4 (-1)) 5 (-1)) 6 (-1)) 7 (-1)) 8 (-1)) 9 (-1)))), (q3, .inl (cy 2, 8, .inr (.inr (.inr (.inr (va_up (va_up (va_up (va_up (va_up (fun _ => none) 0 (some q4)) 1 (some q5)) 2 (some q6)) 3 (some q7)) 4 (some q8))))))), (q4, .inr (1, [.int 0, .int 0, .int 0, .int 0, .int 0, .int 0])), (q5, .inr (1, [.int 0, .int 0, .int 0, .int 0, .int 0, .int 0])), (q6, .inr (1, [.int 0, .int 0, .int 0, .int 0, .int 0, .int 0])), (q7, .inr (1, [.int 0, .int 0, .int 0, .int 0, .int 0, .int 0])), (q8, .inr (1, [.int 0, .int 0, .int 0, .int 0, .int 0, .int 0]))]) rfl dX0_init_100 (fun B => ?_)
  refine p_iinc1 1 B dX0_init_101 (by decide) (by decide) (k := ?_)
  rw [show (4 : Int32) + 1 = 5 from by decide]
  refine a_goto 82 B dX0_init_104 (by decide) ?_
  refine a_iload_n B dX0_init_82 rfl ?_
  refine a_bipush (v := 8) B dX0_init_83 (by decide) ?_
  refine a_icmp_ge 107 B dX0_init_85 (by decide) (fun c9 => absurd c9 (by decide)) (fun c9 => ?_)
  refine a_aload_n B dX0_init_88 rfl ?_
  refine u_get (q0 := 0) (k := 8) (v := .ref q3) B fl_X0_39 rfl rfl dX0_init_89 ?_
  refine a_iload_n B dX0_init_92 rfl ?_
  refine u_new (W' := fun q9 => [(h0, .inr (0, [.int 0, .int 2, .int 0, .int 0, .int 1, .int 0, .ref q1, .ref q2, .ref q3])), (q1, .inl (cy 0, 6, .inl (fun _ => 0))), (q2, .inl (cy 0, 10, .inl (upd (upd (upd (upd (upd (upd (upd (upd (upd (upd (fun _ => 0) 0 (-1)) 1 (-1)) 2 (-1)) 3 (-1)) 4 (-1)) 5 (-1)) 6 (-1)) 7 (-1)) 8 (-1)) 9 (-1)))), (q3, .inl (cy 2, 8, .inr (.inr (.inr (.inr (va_up (va_up (va_up (va_up (va_up (fun _ => none) 0 (some q4)) 1 (some q5)) 2 (some q6)) 3 (some q7)) 4 (some q8))))))), (q4, .inr (1, [.int 0, .int 0, .int 0, .int 0, .int 0, .int 0])), (q5, .inr (1, [.int 0, .int 0, .int 0, .int 0, .int 0, .int 0])), (q6, .inr (1, [.int 0, .int 0, .int 0, .int 0, .int 0, .int 0])), (q7, .inr (1, [.int 0, .int 0, .int 0, .int 0, .int 0, .int 0])), (q8, .inr (1, [.int 0, .int 0, .int 0, .int 0, .int 0, .int 0])), (q9, .inr (1, [.int 0, .int 0, .int 0, .int 0, .int 0, .int 0]))]) B nw_X0_37 (fun _ => rfl) (Nat.le_of_ble_eq_true rfl) (Nat.le_of_ble_eq_true rfl) dX0_init_93 (fun q9 B => ?_)
  refine a_dup B dX0_init_96 rfl ?_
  refine u_call (X := [(h0, .inr (0, [.int 0, .int 2, .int 0, .int 0, .int 1, .int 0, .ref q1, .ref q2, .ref q3])), (q1, .inl (cy 0, 6, .inl (fun _ => 0))), (q2, .inl (cy 0, 10, .inl (upd (upd (upd (upd (upd (upd (upd (upd (upd (upd (fun _ => 0) 0 (-1)) 1 (-1)) 2 (-1)) 3 (-1)) 4 (-1)) 5 (-1)) 6 (-1)) 7 (-1)) 8 (-1)) 9 (-1)))), (q3, .inl (cy 2, 8, .inr (.inr (.inr (.inr (va_up (va_up (va_up (va_up (va_up (fun _ => none) 0 (some q4)) 1 (some q5)) 2 (some q6)) 3 (some q7)) 4 (some q8))))))), (q4, .inr (1, [.int 0, .int 0, .int 0, .int 0, .int 0, .int 0])), (q5, .inr (1, [.int 0, .int 0, .int 0, .int 0, .int 0, .int 0])), (q6, .inr (1, [.int 0, .int 0, .int 0, .int 0, .int 0, .int 0])), (q7, .inr (1, [.int 0, .int 0, .int 0, .int 0, .int 0, .int 0])), (q8, .inr (1, [.int 0, .int 0, .int 0, .int 0, .int 0, .int 0]))]) B hao cf_X1_init rfl (Or.inr ⟨_, ln_X0_43⟩) in_X1_init rfl rfl (k_X1_init q9) dX0_init_97 (Nat.le_of_ble_eq_true rfl) ⟨Nat.le_of_ble_eq_true rfl, Nat.le_of_ble_eq_true rfl⟩ ⟨Nat.le_of_ble_eq_true rfl, Nat.le_of_ble_eq_true rfl⟩ (fun W1 hW1 B => ?_)
  subst hW1
  refine u_as (W' := [(h0, .inr (0, [.int 0, .int 2, .int 0, .int 0, .int 1, .int 0, .ref q1, .ref q2, .ref q3])), (q1, .inl (cy 0, 6, .inl (fun _ => 0))), (q2, .inl (cy 0, 10, .inl (upd (upd (upd (upd (upd (upd (upd (upd (upd (upd (fun _ => 0) 0 (-1)) 1 (-1)) 2 (-1)) 3 (-1)) 4 (-1)) 5 (-1)) 6 (-1)) 7 (-1)) 8 (-1)) 9 (-1)))), (q3, .inl (cy 2, 8, .inr (.inr (.inr (.inr (va_up (va_up (va_up (va_up (va_up (fun _ => none) 0 (some q4)) 1 (some q5)) 2 (some q6)) 3 (some q7)) 4 (some q8))))))), (q4, .inr (1, [.int 0, .int 0, .int 0, .int 0, .int 0, .int 0])), (q5, .inr (1, [.int 0, .int 0, .int 0, .int 0, .int 0, .int 0])), (q6, .inr (1, [.int 0, .int 0, .int 0, .int 0, .int 0, .int 0])), (q7, .inr (1, [.int 0, .int 0, .int 0, .int 0, .int 0, .int 0])), (q8, .inr (1, [.int 0, .int 0, .int 0, .int 0, .int 0, .int 0])), (q9, .inr (1, [.int 0, .int 0, .int 0, .int 0, .int 0, .int 0]))]) rfl ?_
  have B : BS sk D cy (UW ([(h0, .inr (0, [.int 0, .int 2, .int 0, .int 0, .int 1, .int 0, .ref q1, .ref q2, .ref q3])), (q1, .inl (cy 0, 6, .inl (fun _ => 0))), (q2, .inl (cy 0, 10, .inl (upd (upd (upd (upd (upd (upd (upd (upd (upd (upd (fun _ => 0) 0 (-1)) 1 (-1)) 2 (-1)) 3 (-1)) 4 (-1)) 5 (-1)) 6 (-1)) 7 (-1)) 8 (-1)) 9 (-1)))), (q3, .inl (cy 2, 8, .inr (.inr (.inr (.inr (va_up (va_up (va_up (va_up (va_up (fun _ => none) 0 (some q4)) 1 (some q5)) 2 (some q6)) 3 (some q7)) 4 (some q8))))))), (q4, .inr (1, [.int 0, .int 0, .int 0, .int 0, .int 0, .int 0])), (q5, .inr (1, [.int 0, .int 0, .int 0, .int 0, .int 0, .int 0])), (q6, .inr (1, [.int 0, .int 0, .int 0, .int 0, .int 0, .int 0])), (q7, .inr (1, [.int 0, .int 0, .int 0, .int 0, .int 0, .int 0])), (q8, .inr (1, [.int 0, .int 0, .int 0, .int 0, .int 0, .int 0])), (q9, .inr (1, [.int 0, .int 0, .int 0, .int 0, .int 0, .int 0]))])) A0 Pp Ss Mm Aa Cc RX0 cX0_init 2 := B
  refine u_aast (q0 := 3) (qk := 9) (i := 5) (t0 := 2) (ci := 1) B rfl rfl rfl rfl (by decide) (by decide) (W' := [(h0, .inr (0, [.int 0, .int 2, .int 0, .int 0, .int 1, .int 0, .ref q1, .ref q2, .ref q3])), (q1, .inl (cy 0, 6, .inl (fun _ => 0))), (q2, .inl (cy 0, 10, .inl (upd (upd (upd (upd (upd (upd (upd (upd (upd (upd (fun _ => 0) 0 (-1)) 1 (-1)) 2 (-1)) 3 (-1)) 4 (-1)) 5 (-1)) 6 (-1)) 7 (-1)) 8 (-1)) 9 (-1)))), (q3, .inl (cy 2, 8, .inr (.inr (.inr (.inr (va_up (va_up (va_up (va_up (va_up (va_up (fun _ => none) 0 (some q4)) 1 (some q5)) 2 (some q6)) 3 (some q7)) 4 (some q8)) 5 (some q9))))))), (q4, .inr (1, [.int 0, .int 0, .int 0, .int 0, .int 0, .int 0])), (q5, .inr (1, [.int 0, .int 0, .int 0, .int 0, .int 0, .int 0])), (q6, .inr (1, [.int 0, .int 0, .int 0, .int 0, .int 0, .int 0])), (q7, .inr (1, [.int 0, .int 0, .int 0, .int 0, .int 0, .int 0])), (q8, .inr (1, [.int 0, .int 0, .int 0, .int 0, .int 0, .int 0])), (q9, .inr (1, [.int 0, .int 0, .int 0, .int 0, .int 0, .int 0]))]) rfl dX0_init_100 (fun B => ?_)
  refine p_iinc1 1 B dX0_init_101 (by decide) (by decide) (k := ?_)
  rw [show (5 : Int32) + 1 = 6 from by decide]
  refine a_goto 82 B dX0_init_104 (by decide) ?_
  refine a_iload_n B dX0_init_82 rfl ?_
  refine a_bipush (v := 8) B dX0_init_83 (by decide) ?_
  refine a_icmp_ge 107 B dX0_init_85 (by decide) (fun c9 => absurd c9 (by decide)) (fun c9 => ?_)
  refine a_aload_n B dX0_init_88 rfl ?_
  refine u_get (q0 := 0) (k := 8) (v := .ref q3) B fl_X0_39 rfl rfl dX0_init_89 ?_
  refine a_iload_n B dX0_init_92 rfl ?_
  refine u_new (W' := fun q10 => [(h0, .inr (0, [.int 0, .int 2, .int 0, .int 0, .int 1, .int 0, .ref q1, .ref q2, .ref q3])), (q1, .inl (cy 0, 6, .inl (fun _ => 0))), (q2, .inl (cy 0, 10, .inl (upd (upd (upd (upd (upd (upd (upd (upd (upd (upd (fun _ => 0) 0 (-1)) 1 (-1)) 2 (-1)) 3 (-1)) 4 (-1)) 5 (-1)) 6 (-1)) 7 (-1)) 8 (-1)) 9 (-1)))), (q3, .inl (cy 2, 8, .inr (.inr (.inr (.inr (va_up (va_up (va_up (va_up (va_up (va_up (fun _ => none) 0 (some q4)) 1 (some q5)) 2 (some q6)) 3 (some q7)) 4 (some q8)) 5 (some q9))))))), (q4, .inr (1, [.int 0, .int 0, .int 0, .int 0, .int 0, .int 0])), (q5, .inr (1, [.int 0, .int 0, .int 0, .int 0, .int 0, .int 0])), (q6, .inr (1, [.int 0, .int 0, .int 0, .int 0, .int 0, .int 0])), (q7, .inr (1, [.int 0, .int 0, .int 0, .int 0, .int 0, .int 0])), (q8, .inr (1, [.int 0, .int 0, .int 0, .int 0, .int 0, .int 0])), (q9, .inr (1, [.int 0, .int 0, .int 0, .int 0, .int 0, .int 0])), (q10, .inr (1, [.int 0, .int 0, .int 0, .int 0, .int 0, .int 0]))]) B nw_X0_37 (fun _ => rfl) (Nat.le_of_ble_eq_true rfl) (Nat.le_of_ble_eq_true rfl) dX0_init_93 (fun q10 B => ?_)
  refine a_dup B dX0_init_96 rfl ?_
  refine u_call (X := [(h0, .inr (0, [.int 0, .int 2, .int 0, .int 0, .int 1, .int 0, .ref q1, .ref q2, .ref q3])), (q1, .inl (cy 0, 6, .inl (fun _ => 0))), (q2, .inl (cy 0, 10, .inl (upd (upd (upd (upd (upd (upd (upd (upd (upd (upd (fun _ => 0) 0 (-1)) 1 (-1)) 2 (-1)) 3 (-1)) 4 (-1)) 5 (-1)) 6 (-1)) 7 (-1)) 8 (-1)) 9 (-1)))), (q3, .inl (cy 2, 8, .inr (.inr (.inr (.inr (va_up (va_up (va_up (va_up (va_up (va_up (fun _ => none) 0 (some q4)) 1 (some q5)) 2 (some q6)) 3 (some q7)) 4 (some q8)) 5 (some q9))))))), (q4, .inr (1, [.int 0, .int 0, .int 0, .int 0, .int 0, .int 0])), (q5, .inr (1, [.int 0, .int 0, .int 0, .int 0, .int 0, .int 0])), (q6, .inr (1, [.int 0, .int 0, .int 0, .int 0, .int 0, .int 0])), (q7, .inr (1, [.int 0, .int 0, .int 0, .int 0, .int 0, .int 0])), (q8, .inr (1, [.int 0, .int 0, .int 0, .int 0, .int 0, .int 0])), (q9, .inr (1, [.int 0, .int 0, .int 0, .int 0, .int 0, .int 0]))]) B hao cf_X1_init rfl (Or.inr ⟨_, ln_X0_43⟩) in_X1_init rfl rfl (k_X1_init q10) dX0_init_97 (Nat.le_of_ble_eq_true rfl) ⟨Nat.le_of_ble_eq_true rfl, Nat.le_of_ble_eq_true rfl⟩ ⟨Nat.le_of_ble_eq_true rfl, Nat.le_of_ble_eq_true rfl⟩ (fun W1 hW1 B => ?_)
  subst hW1
  refine u_as (W' := [(h0, .inr (0, [.int 0, .int 2, .int 0, .int 0, .int 1, .int 0, .ref q1, .ref q2, .ref q3])), (q1, .inl (cy 0, 6, .inl (fun _ => 0))), (q2, .inl (cy 0, 10, .inl (upd (upd (upd (upd (upd (upd (upd (upd (upd (upd (fun _ => 0) 0 (-1)) 1 (-1)) 2 (-1)) 3 (-1)) 4 (-1)) 5 (-1)) 6 (-1)) 7 (-1)) 8 (-1)) 9 (-1)))), (q3, .inl (cy 2, 8, .inr (.inr (.inr (.inr (va_up (va_up (va_up (va_up (va_up (va_up (fun _ => none) 0 (some q4)) 1 (some q5)) 2 (some q6)) 3 (some q7)) 4 (some q8)) 5 (some q9))))))), (q4, .inr (1, [.int 0, .int 0, .int 0, .int 0, .int 0, .int 0])), (q5, .inr (1, [.int 0, .int 0, .int 0, .int 0, .int 0, .int 0])), (q6, .inr (1, [.int 0, .int 0, .int 0, .int 0, .int 0, .int 0])), (q7, .inr (1, [.int 0, .int 0, .int 0, .int 0, .int 0, .int 0])), (q8, .inr (1, [.int 0, .int 0, .int 0, .int 0, .int 0, .int 0])), (q9, .inr (1, [.int 0, .int 0, .int 0, .int 0, .int 0, .int 0])), (q10, .inr (1, [.int 0, .int 0, .int 0, .int 0, .int 0, .int 0]))]) rfl ?_
  have B : BS sk D cy (UW ([(h0, .inr (0, [.int 0, .int 2, .int 0, .int 0, .int 1, .int 0, .ref q1, .ref q2, .ref q3])), (q1, .inl (cy 0, 6, .inl (fun _ => 0))), (q2, .inl (cy 0, 10, .inl (upd (upd (upd (upd (upd (upd (upd (upd (upd (upd (fun _ => 0) 0 (-1)) 1 (-1)) 2 (-1)) 3 (-1)) 4 (-1)) 5 (-1)) 6 (-1)) 7 (-1)) 8 (-1)) 9 (-1)))), (q3, .inl (cy 2, 8, .inr (.inr (.inr (.inr (va_up (va_up (va_up (va_up (va_up (va_up (fun _ => none) 0 (some q4)) 1 (some q5)) 2 (some q6)) 3 (some q7)) 4 (some q8)) 5 (some q9))))))), (q4, .inr (1, [.int 0, .int 0, .int 0, .int 0, .int 0, .int 0])), (q5, .inr (1, [.int 0, .int 0, .int 0, .int 0, .int 0, .int 0])), (q6, .inr (1, [.int 0, .int 0, .int 0, .int 0, .int 0, .int 0])), (q7, .inr (1, [.int 0, .int 0, .int 0, .int 0, .int 0, .int 0])), (q8, .inr (1, [.int 0, .int 0, .int 0, .int 0, .int 0, .int 0])), (q9, .inr (1, [.int 0, .int 0, .int 0, .int 0, .int 0, .int 0])), (q10, .inr (1, [.int 0, .int 0, .int 0, .int 0, .int 0, .int 0]))])) A0 Pp Ss Mm Aa Cc RX0 cX0_init 2 := B
  refine u_aast (q0 := 3) (qk := 10) (i := 6) (t0 := 2) (ci := 1) B rfl rfl rfl rfl (by decide) (by decide) (W' := [(h0, .inr (0, [.int 0, .int 2, .int 0, .int 0, .int 1, .int 0, .ref q1, .ref q2, .ref q3])), (q1, .inl (cy 0, 6, .inl (fun _ => 0))), (q2, .inl (cy 0, 10, .inl (upd (upd (upd (upd (upd (upd (upd (upd (upd (upd (fun _ => 0) 0 (-1)) 1 (-1)) 2 (-1)) 3 (-1)) 4 (-1)) 5 (-1)) 6 (-1)) 7 (-1)) 8 (-1)) 9 (-1)))), (q3, .inl (cy 2, 8, .inr (.inr (.inr (.inr (va_up (va_up (va_up (va_up (va_up (va_up (va_up (fun _ => none) 0 (some q4)) 1 (some q5)) 2 (some q6)) 3 (some q7)) 4 (some q8)) 5 (some q9)) 6 (some q10))))))), (q4, .inr (1, [.int 0, .int 0, .int 0, .int 0, .int 0, .int 0])), (q5, .inr (1, [.int 0, .int 0, .int 0, .int 0, .int 0, .int 0])), (q6, .inr (1, [.int 0, .int 0, .int 0, .int 0, .int 0, .int 0])), (q7, .inr (1, [.int 0, .int 0, .int 0, .int 0, .int 0, .int 0])), (q8, .inr (1, [.int 0, .int 0, .int 0, .int 0, .int 0, .int 0])), (q9, .inr (1, [.int 0, .int 0, .int 0, .int 0, .int 0, .int 0])), (q10, .inr (1, [.int 0, .int 0, .int 0, .int 0, .int 0, .int 0]))]) rfl dX0_init_100 (fun B => ?_)
  refine p_iinc1 1 B dX0_init_101 (by decide) (by decide) (k := ?_)
  rw [show (6 : Int32) + 1 = 7 from by decide]
  refine a_goto 82 B dX0_init_104 (by decide) ?_
  refine a_iload_n B dX0_init_82 rfl ?_
  refine a_bipush (v := 8) B dX0_init_83 (by decide) ?_
  refine a_icmp_ge 107 B dX0_init_85 (by decide) (fun c9 => absurd c9 (by decide)) (fun c9 => ?_)
  refine a_aload_n B dX0_init_88 rfl ?_
  refine u_get (q0 := 0) (k := 8) (v := .ref q3) B fl_X0_39 rfl rfl dX0_init_89 ?_
  refine a_iload_n B dX0_init_92 rfl ?_
  refine u_new (W' := fun q11 => [(h0, .inr (0, [.int 0, .int 2, .int 0, .int 0, .int 1, .int 0, .ref q1, .ref q2, .ref q3])), (q1, .inl (cy 0, 6, .inl (fun _ => 0))), (q2, .inl (cy 0, 10, .inl (upd (upd (upd (upd (upd (upd (upd (upd (upd (upd (fun _ => 0) 0 (-1)) 1 (-1)) 2 (-1)) 3 (-1)) 4 (-1)) 5 (-1)) 6 (-1)) 7 (-1)) 8 (-1)) 9 (-1)))), (q3, .inl (cy 2, 8, .inr (.inr (.inr (.inr (va_up (va_up (va_up (va_up (va_up (va_up (va_up (fun _ => none) 0 (some q4)) 1 (some q5)) 2 (some q6)) 3 (some q7)) 4 (some q8)) 5 (some q9)) 6 (some q10))))))), (q4, .inr (1, [.int 0, .int 0, .int 0, .int 0, .int 0, .int 0])), (q5, .inr (1, [.int 0, .int 0, .int 0, .int 0, .int 0, .int 0])), (q6, .inr (1, [.int 0, .int 0, .int 0, .int 0, .int 0, .int 0])), (q7, .inr (1, [.int 0, .int 0, .int 0, .int 0, .int 0, .int 0])), (q8, .inr (1, [.int 0, .int 0, .int 0, .int 0, .int 0, .int 0])), (q9, .inr (1, [.int 0, .int 0, .int 0, .int 0, .int 0, .int 0])), (q10, .inr (1, [.int 0, .int 0, .int 0, .int 0, .int 0, .int 0])), (q11, .inr (1, [.int 0, .int 0, .int 0, .int 0, .int 0, .int 0]))]) B nw_X0_37 (fun _ => rfl) (Nat.le_of_ble_eq_true rfl) (Nat.le_of_ble_eq_true rfl) dX0_init_93 (fun q11 B => ?_)
  refine a_dup B dX0_init_96 rfl ?_
  refine u_call (X := [(h0, .inr (0, [.int 0, .int 2, .int 0, .int 0, .int 1, .int 0, .ref q1, .ref q2, .ref q3])), (q1, .inl (cy 0, 6, .inl (fun _ => 0))), (q2, .inl (cy 0, 10, .inl (upd (upd (upd (upd (upd (upd (upd (upd (upd (upd (fun _ => 0) 0 (-1)) 1 (-1)) 2 (-1)) 3 (-1)) 4 (-1)) 5 (-1)) 6 (-1)) 7 (-1)) 8 (-1)) 9 (-1)))), (q3, .inl (cy 2, 8, .inr (.inr (.inr (.inr (va_up (va_up (va_up (va_up (va_up (va_up (va_up (fun _ => none) 0 (some q4)) 1 (some q5)) 2 (some q6)) 3 (some q7)) 4 (some q8)) 5 (some q9)) 6 (some q10))))))), (q4, .inr (1, [.int 0, .int 0, .int 0, .int 0, .int 0, .int 0])), (q5, .inr (1, [.int 0, .int 0, .int 0, .int 0, .int 0, .int 0])), (q6, .inr (1, [.int 0, .int 0, .int 0, .int 0, .int 0, .int 0])), (q7, .inr (1, [.int 0, .int 0, .int 0, .int 0, .int 0, .int 0])), (q8, .inr (1, [.int 0, .int 0, .int 0, .int 0, .int 0, .int 0])), (q9, .inr (1, [.int 0, .int 0, .int 0, .int 0, .int 0, .int 0])), (q10, .inr (1, [.int 0, .int 0, .int 0, .int 0, .int 0, .int 0]))]) B hao cf_X1_init rfl (Or.inr ⟨_, ln_X0_43⟩) in_X1_init rfl rfl (k_X1_init q11) dX0_init_97 (Nat.le_of_ble_eq_true rfl) ⟨Nat.le_of_ble_eq_true rfl, Nat.le_of_ble_eq_true rfl⟩ ⟨Nat.le_of_ble_eq_true rfl, Nat.le_of_ble_eq_true rfl⟩ (fun W1 hW1 B => ?_)
  subst hW1
  refine u_as (W' := [(h0, .inr (0, [.int 0, .int 2, .int 0, .int 0, .int 1, .int 0, .ref q1, .ref q2, .ref q3])), (q1, .inl (cy 0, 6, .inl (fun _ => 0))), (q2, .inl (cy 0, 10, .inl (upd (upd (upd (upd (upd (upd (upd (upd (upd (upd (fun _ => 0) 0 (-1)) 1 (-1)) 2 (-1)) 3 (-1)) 4 (-1)) 5 (-1)) 6 (-1)) 7 (-1)) 8 (-1)) 9 (-1)))), (q3, .inl (cy 2, 8, .inr (.inr (.inr (.inr (va_up (va_up (va_up (va_up (va_up (va_up (va_up (fun _ => none) 0 (some q4)) 1 (some q5)) 2 (some q6)) 3 (some q7)) 4 (some q8)) 5 (some q9)) 6 (some q10))))))), (q4, .inr (1, [.int 0, .int 0, .int 0, .int 0, .int 0, .int 0])), (q5, .inr (1, [.int 0, .int 0, .int 0, .int 0, .int 0, .int 0])), (q6, .inr (1, [.int 0, .int 0, .int 0, .int 0, .int 0, .int 0])), (q7, .inr (1, [.int 0, .int 0, .int 0, .int 0, .int 0, .int 0])), (q8, .inr (1, [.int 0, .int 0, .int 0, .int 0, .int 0, .int 0])), (q9, .inr (1, [.int 0, .int 0, .int 0, .int 0, .int 0, .int 0])), (q10, .inr (1, [.int 0, .int 0, .int 0, .int 0, .int 0, .int 0])), (q11, .inr (1, [.int 0, .int 0, .int 0, .int 0, .int 0, .int 0]))]) rfl ?_
  have B : BS sk D cy (UW ([(h0, .inr (0, [.int 0, .int 2, .int 0, .int 0, .int 1, .int 0, .ref q1, .ref q2, .ref q3])), (q1, .inl (cy 0, 6, .inl (fun _ => 0))), (q2, .inl (cy 0, 10, .inl (upd (upd (upd (upd (upd (upd (upd (upd (upd (upd (fun _ => 0) 0 (-1)) 1 (-1)) 2 (-1)) 3 (-1)) 4 (-1)) 5 (-1)) 6 (-1)) 7 (-1)) 8 (-1)) 9 (-1)))), (q3, .inl (cy 2, 8, .inr (.inr (.inr (.inr (va_up (va_up (va_up (va_up (va_up (va_up (va_up (fun _ => none) 0 (some q4)) 1 (some q5)) 2 (some q6)) 3 (some q7)) 4 (some q8)) 5 (some q9)) 6 (some q10))))))), (q4, .inr (1, [.int 0, .int 0, .int 0, .int 0, .int 0, .int 0])), (q5, .inr (1, [.int 0, .int 0, .int 0, .int 0, .int 0, .int 0])), (q6, .inr (1, [.int 0, .int 0, .int 0, .int 0, .int 0, .int 0])), (q7, .inr (1, [.int 0, .int 0, .int 0, .int 0, .int 0, .int 0])), (q8, .inr (1, [.int 0, .int 0, .int 0, .int 0, .int 0, .int 0])), (q9, .inr (1, [.int 0, .int 0, .int 0, .int 0, .int 0, .int 0])), (q10, .inr (1, [.int 0, .int 0, .int 0, .int 0, .int 0, .int 0])), (q11, .inr (1, [.int 0, .int 0, .int 0, .int 0, .int 0, .int 0]))])) A0 Pp Ss Mm Aa Cc RX0 cX0_init 2 := B
  refine u_aast (q0 := 3) (qk := 11) (i := 7) (t0 := 2) (ci := 1) B rfl rfl rfl rfl (by decide) (by decide) (W' := [(h0, .inr (0, [.int 0, .int 2, .int 0, .int 0, .int 1, .int 0, .ref q1, .ref q2, .ref q3])), (q1, .inl (cy 0, 6, .inl (fun _ => 0))), (q2, .inl (cy 0, 10, .inl (upd (upd (upd (upd (upd (upd (upd (upd (upd (upd (fun _ => 0) 0 (-1)) 1 (-1)) 2 (-1)) 3 (-1)) 4 (-1)) 5 (-1)) 6 (-1)) 7 (-1)) 8 (-1)) 9 (-1)))), (q3, .inl (cy 2, 8, .inr (.inr (.inr (.inr (va_up (va_up (va_up (va_up (va_up (va_up (va_up (va_up (fun _ => none) 0 (some q4)) 1 (some q5)) 2 (some q6)) 3 (some q7)) 4 (some q8)) 5 (some q9)) 6 (some q10)) 7 (some q11))))))), (q4, .inr (1, [.int 0, .int 0, .int 0, .int 0, .int 0, .int 0])), (q5, .inr (1, [.int 0, .int 0, .int 0, .int 0, .int 0, .int 0])), (q6, .inr (1, [.int 0, .int 0, .int 0, .int 0, .int 0, .int 0])), (q7, .inr (1, [.int 0, .int 0, .int 0, .int 0, .int 0, .int 0])), (q8, .inr (1, [.int 0, .int 0, .int 0, .int 0, .int 0, .int 0])), (q9, .inr (1, [.int 0, .int 0, .int 0, .int 0, .int 0, .int 0])), (q10, .inr (1, [.int 0, .int 0, .int 0, .int 0, .int 0, .int 0])), (q11, .inr (1, [.int 0, .int 0, .int 0, .int 0, .int 0, .int 0]))]) rfl dX0_init_100 (fun B => ?_)
  refine p_iinc1 1 B dX0_init_101 (by decide) (by decide) (k := ?_)
  rw [show (7 : Int32) + 1 = 8 from by decide]
  refine a_goto 82 B dX0_init_104 (by decide) ?_
  refine a_iload_n B dX0_init_82 rfl ?_
  refine a_bipush (v := 8) B dX0_init_83 (by decide) ?_
  refine a_icmp_ge 107 B dX0_init_85 (by decide) (fun c9 => ?_) (fun c9 => absurd (by decide) c9)
  obtain ⟨Ba, hBa⟩ : ∃ Ba : Nat → Nat, Ba = fun p => (([h0, q1, q2, q3, q4, q5, q6, q7, q8, q9, q10, q11] : List Nat)[p]?).getD 0 := ⟨_, rfl⟩
  have es : (upd (upd (upd (upd (upd (upd (upd (upd (upd (upd (fun _ => 0) 0 (-1)) 1 (-1)) 2 (-1)) 3 (-1)) 4 (-1)) 5 (-1)) 6 (-1)) 7 (-1)) 8 (-1)) 9 (-1)) = spF := by
    funext j
    unfold spF
    by_cases hj : j < 10
    · rcases (show j = 0 ∨ j = 1 ∨ j = 2 ∨ j = 3 ∨ j = 4 ∨ j = 5 ∨ j = 6 ∨ j = 7 ∨ j = 8 ∨ j = 9 by omega) with rfl | rfl | rfl | rfl | rfl | rfl | rfl | rfl | rfl | rfl <;> rfl
    · rw [if_neg hj]; repeat rw [pk_un (by omega)]
  have er : (va_up (va_up (va_up (va_up (va_up (va_up (va_up (va_up (fun _ => none) 0 (some q4)) 1 (some q5)) 2 (some q6)) 3 (some q7)) 4 (some q8)) 5 (some q9)) 6 (some q10)) 7 (some q11)) = roF Ba := by
    funext j
    unfold roF
    by_cases hj : j < 8
    · rw [if_pos hj, hBa]
      rcases (show j = 0 ∨ j = 1 ∨ j = 2 ∨ j = 3 ∨ j = 4 ∨ j = 5 ∨ j = 6 ∨ j = 7 by omega) with rfl | rfl | rfl | rfl | rfl | rfl | rfl | rfl <;> rfl
    · rw [if_neg hj]; unfold va_up; rw [if_neg (by omega), if_neg (by omega), if_neg (by omega), if_neg (by omega), if_neg (by omega), if_neg (by omega), if_neg (by omega), if_neg (by omega)]
  have hSh : ∃ Ba : Nat → Nat, Ba 0 = h0 ∧ ([(h0, .inr (0, [.int 0, .int 2, .int 0, .int 0, .int 1, .int 0, .ref q1, .ref q2, .ref q3])), (q1, .inl (cy 0, 6, .inl (fun _ => 0))), (q2, .inl (cy 0, 10, .inl (upd (upd (upd (upd (upd (upd (upd (upd (upd (upd (fun _ => 0) 0 (-1)) 1 (-1)) 2 (-1)) 3 (-1)) 4 (-1)) 5 (-1)) 6 (-1)) 7 (-1)) 8 (-1)) 9 (-1)))), (q3, .inl (cy 2, 8, .inr (.inr (.inr (.inr (va_up (va_up (va_up (va_up (va_up (va_up (va_up (va_up (fun _ => none) 0 (some q4)) 1 (some q5)) 2 (some q6)) 3 (some q7)) 4 (some q8)) 5 (some q9)) 6 (some q10)) 7 (some q11))))))), (q4, .inr (1, [.int 0, .int 0, .int 0, .int 0, .int 0, .int 0])), (q5, .inr (1, [.int 0, .int 0, .int 0, .int 0, .int 0, .int 0])), (q6, .inr (1, [.int 0, .int 0, .int 0, .int 0, .int 0, .int 0])), (q7, .inr (1, [.int 0, .int 0, .int 0, .int 0, .int 0, .int 0])), (q8, .inr (1, [.int 0, .int 0, .int 0, .int 0, .int 0, .int 0])), (q9, .inr (1, [.int 0, .int 0, .int 0, .int 0, .int 0, .int 0])), (q10, .inr (1, [.int 0, .int 0, .int 0, .int 0, .int 0, .int 0])), (q11, .inr (1, [.int 0, .int 0, .int 0, .int 0, .int 0, .int 0]))] : va_W) = misW cy Ba := ⟨Ba, by rw [hBa]; rfl, by rw [es, er]; unfold misW; rw [hBa]; rfl⟩
  exact u_vret B hr hlk (Nat.le_of_ble_eq_true rfl) (Nat.le_of_ble_eq_true rfl) hSh dX0_init_107
end U2
