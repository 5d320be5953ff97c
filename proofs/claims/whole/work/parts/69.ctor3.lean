section U3
theorem u_sub {p : Program} {l : Launch} {e : Env} {R : Room} {s : State} {m : MethodId} {args : Array Value} {below : List Frame} {meth : Method} {c : Code} {sk : (Nat → Nat) × (Nat → Nat)} {D : va_G} {cy : Nat → ClassId} {A0 : Nat → Prop} {own : String} {cc : ByteArray} {nL cells slots : Nat} {Q : State → Prop} {pc : Nat} {lo : List (Option Value)} {st : List Value} {Z W' : va_W} (is : List Nat) (B : BS sk D cy (UW Z) A0 p s m args c own cc nL) (hn : va_nd is = true) (hs : is.map (fun i => Z[i]?) = W'.map some) (hs2 : is.filterMap (fun i => Z[i]?) = W') (kk : BS sk D cy (UW W') A0 p s m args c own cc nL → AW p l e R s m args below meth c D (UW W') A0 nL cells slots Q pc lo st ()) : AW p l e R s m args below meth c D (UW Z) A0 nL cells slots Q pc lo st () := by
  intro H locs ls hP hS hL
  have hP : va_P D vwCl Z H := hP
  exact kk (bs_mv B ((B.2.2.2.1 ()).sub is hn hs)) H locs ls (hP.sub is hs2) hS hL
def m0 (n : Nat) : Int32 := if n = 2 then 1 else if n = 3 then 2 else if 60 ≤ n ∧ n < 70 then -1 else 0
def M0c : Mem := fun b n => if b < 3 then m0 n else 0
def M0m : Mem := fun b n => if b = 0 then (if n = 2 then 1 else if n = 3 then 2 else 0) else 0
theorem misW_congr {cy : Nat → ClassId} {B B' : Nat → Nat} (h : ∀ j, j < 12 → B j = B' j) : misW cy B = misW cy B' := by
  have er : roF B = roF B' := by
    funext j
    unfold roF
    by_cases hj : j < 8
    · rw [if_pos hj, if_pos hj, h (4 + j) (by omega)]
    · rw [if_neg hj, if_neg hj]
  unfold misW
  rw [er, h 0 (by decide), h 1 (by decide), h 2 (by decide), h 3 (by decide), h 4 (by decide), h 5 (by decide), h 6 (by decide), h 7 (by decide), h 8 (by decide), h 9 (by decide), h 10 (by decide), h 11 (by decide)]
theorem z_arr {b o n : Nat} {M : Mem} (h : ∀ j, j < n → M b (o + j) = 0) : (fun j => if j < n then M b (o + j) else 0) = fun _ => (0 : Int32) := by
  funext j
  by_cases hj : j < n
  · rw [if_pos hj, h j hj]
  · rw [if_neg hj]
theorem mis_wl {cy : Nat → ClassId} {A : Nat → Nat} (i : Nat) (hi : i < 3) : (List.range 12).map (fun j => (A (1 + 12 * i + j), cvC A cy M0c (TC (1 + 12 * i + j)))) = misW cy (fun j => A (1 + 12 * i + j)) := by
  have e1 : (fun j => if j < 6 then M0c i (6 + j) else 0) = fun _ => (0 : Int32) := z_arr (fun j hj => by unfold M0c m0; rw [if_pos hi, if_neg (by omega), if_neg (by omega), if_neg (by omega)])
  have e2 : (fun j => if j < 10 then M0c i (60 + j) else 0) = spF := by
    funext j
    unfold spF
    by_cases hj : j < 10
    · rw [if_pos hj, if_pos hj]; unfold M0c m0; rw [if_pos hi, if_neg (by omega), if_neg (by omega), if_pos (by omega)]
    · rw [if_neg hj, if_neg hj]
  have e3 : (fun j => (([5 + 12 * i + 0, 5 + 12 * i + 1, 5 + 12 * i + 2, 5 + 12 * i + 3, 5 + 12 * i + 4, 5 + 12 * i + 5, 5 + 12 * i + 6, 5 + 12 * i + 7] : List Nat)[j]?).map A) = roF (fun j => A (1 + 12 * i + j)) := by
    funext j
    unfold roF
    by_cases hj : j < 8
    · rw [if_pos hj]
      rcases (show j = 0 ∨ j = 1 ∨ j = 2 ∨ j = 3 ∨ j = 4 ∨ j = 5 ∨ j = 6 ∨ j = 7 by omega) with rfl | rfl | rfl | rfl | rfl | rfl | rfl | rfl <;> (show some (A _) = some (A _); congr 2; omega)
    · rw [if_neg hj, List.getElem?_eq_none (by simp; omega)]
      rfl
  unfold misW
  rw [← e1, ← e2, ← e3]
  rcases (show i = 0 ∨ i = 1 ∨ i = 2 by omega) with rfl | rfl | rfl <;> rfl
variable {l : Launch} {sk : (Nat → Nat) × (Nat → Nat)} {D : va_G} {cy : Nat → ClassId}

theorem nw_X2_9 : NWK RX2 9 5 2 [.null, .int 0] := ⟨RX5, TX5, tyX5, rfl, gi_X5, tyX5_ok, gw_of (List.mem_append_right _ (List.mem_of_getElem? (i := 133) (by decide +kernel))) rfl, gw_of (List.mem_append_right _ (List.mem_of_getElem? (i := 134) (by decide +kernel))) rfl, ii_X5, fun j hj => by rcases (show j = 0 ∨ j = 1 by omega) with rfl | rfl <;> rfl⟩
theorem fg_X2_12 : FLG RX2 12 2 0 := ⟨RX2, TX2, 6, tyX2, rfl, by decide, gi_X2, rfl, nmX2, tyX2_ok, gw_of (List.mem_append_right _ (List.mem_of_getElem? (i := 148) (by decide +kernel))) rfl⟩
theorem ff_2_0 : FFK RX2 2 0 (.object "RicePriests$Tape") := fun q h => by cases h; exact ⟨rfl, rfl, by decide +kernel⟩
theorem nw_X3_9 : NWK RX3 9 0 9 [.int 0, .int 0, .int 0, .int 0, .int 0, .int 0, .null, .null, .null] := ⟨RX0, TX0, tyX0, rfl, gi_X0, tyX0_ok, gw_of (List.mem_append_right _ (List.mem_of_getElem? (i := 120) (by decide +kernel))) rfl, gw_of (List.mem_append_right _ (List.mem_of_getElem? (i := 26) (by decide +kernel))) rfl, ii_X0, fun j hj => by rcases (show j = 0 ∨ j = 1 ∨ j = 2 ∨ j = 3 ∨ j = 4 ∨ j = 5 ∨ j = 6 ∨ j = 7 ∨ j = 8 by omega) with rfl | rfl | rfl | rfl | rfl | rfl | rfl | rfl | rfl <;> rfl⟩
theorem fg_X3_12 : FLG RX3 12 3 0 := ⟨RX3, TX3, 1, tyX3, rfl, by decide, gi_X3, rfl, nmX3, tyX3_ok, gw_of (List.mem_append_right _ (List.mem_of_getElem? (i := 122) (by decide +kernel))) rfl⟩
theorem ff_3_0 : FFK RX3 3 0 (.object "RicePriests$Mission") := fun q h => by cases h; exact ⟨rfl, rfl, by decide +kernel⟩
theorem fg_X7_7 : FLG RX7 7 7 0 := ⟨RX7, TX7, 17, tyX7, rfl, by decide, gi_X7, rfl, nmX7, tyX7_ok, gw_of (List.mem_append_right _ (List.mem_of_getElem? (i := 837) (by decide +kernel))) rfl⟩
theorem ff_7_0 : FFK RX7 7 0 (.array .int) := fun q h => by cases h; exact ⟨rfl, rfl, by decide +kernel⟩
theorem fg_X7_13 : FLG RX7 13 7 1 := ⟨RX7, TX7, 17, tyX7, rfl, by decide, gi_X7, rfl, nmX7, tyX7_ok, gw_of (List.mem_append_right _ (List.mem_of_getElem? (i := 838) (by decide +kernel))) rfl⟩
theorem ff_7_1 : FFK RX7 7 1 (.array .int) := fun q h => by cases h; exact ⟨rfl, rfl, by decide +kernel⟩
theorem fg_X7_16 : FLG RX7 16 7 2 := ⟨RX7, TX7, 17, tyX7, rfl, by decide, gi_X7, rfl, nmX7, tyX7_ok, gw_of (List.mem_append_right _ (List.mem_of_getElem? (i := 839) (by decide +kernel))) rfl⟩
theorem ff_7_2 : FFK RX7 7 2 (.array .int) := fun q h => by cases h; exact ⟨rfl, rfl, by decide +kernel⟩
theorem fg_X7_19 : FLG RX7 19 7 3 := ⟨RX7, TX7, 17, tyX7, rfl, by decide, gi_X7, rfl, nmX7, tyX7_ok, gw_of (List.mem_append_right _ (List.mem_of_getElem? (i := 840) (by decide +kernel))) rfl⟩
theorem ff_7_3 : FFK RX7 7 3 (.array .int) := fun q h => by cases h; exact ⟨rfl, rfl, by decide +kernel⟩
theorem fg_X7_22 : FLG RX7 22 7 5 := ⟨RX7, TX7, 17, tyX7, rfl, by decide, gi_X7, rfl, nmX7, tyX7_ok, gw_of (List.mem_append_right _ (List.mem_of_getElem? (i := 842) (by decide +kernel))) rfl⟩
theorem ff_7_5 : FFK RX7 7 5 (.array .int) := fun q h => by cases h; exact ⟨rfl, rfl, by decide +kernel⟩
theorem fg_X7_25 : FLG RX7 25 7 6 := ⟨RX7, TX7, 17, tyX7, rfl, by decide, gi_X7, rfl, nmX7, tyX7_ok, gw_of (List.mem_append_right _ (List.mem_of_getElem? (i := 843) (by decide +kernel))) rfl⟩
theorem ff_7_6 : FFK RX7 7 6 (.array .byte) := fun q h => by cases h; exact ⟨rfl, rfl, by decide +kernel⟩
theorem fg_X7_29 : FLG RX7 29 7 13 := ⟨RX7, TX7, 17, tyX7, rfl, by decide, gi_X7, rfl, nmX7, tyX7_ok, gw_of (List.mem_append_right _ (List.mem_of_getElem? (i := 850) (by decide +kernel))) rfl⟩
theorem ff_7_13 : FFK RX7 7 13 (.array .int) := fun q h => by cases h; exact ⟨rfl, rfl, by decide +kernel⟩
theorem fg_X7_32 : FLG RX7 32 7 14 := ⟨RX7, TX7, 17, tyX7, rfl, by decide, gi_X7, rfl, nmX7, tyX7_ok, gw_of (List.mem_append_right _ (List.mem_of_getElem? (i := 851) (by decide +kernel))) rfl⟩
theorem ff_7_14 : FFK RX7 7 14 (.array .int) := fun q h => by cases h; exact ⟨rfl, rfl, by decide +kernel⟩
theorem fg_X7_35 : FLG RX7 35 7 15 := ⟨RX7, TX7, 17, tyX7, rfl, by decide, gi_X7, rfl, nmX7, tyX7_ok, gw_of (List.mem_append_right _ (List.mem_of_getElem? (i := 852) (by decide +kernel))) rfl⟩
theorem ff_7_15 : FFK RX7 7 15 (.array .int) := fun q h => by cases h; exact ⟨rfl, rfl, by decide +kernel⟩
theorem fg_X7_38 : FLG RX7 38 7 16 := ⟨RX7, TX7, 17, tyX7, rfl, by decide, gi_X7, rfl, nmX7, tyX7_ok, gw_of (List.mem_append_right _ (List.mem_of_getElem? (i := 853) (by decide +kernel))) rfl⟩
theorem ff_7_16 : FFK RX7 7 16 (.array .int) := fun q h => by cases h; exact ⟨rfl, rfl, by decide +kernel⟩
theorem nw_X6_9 : NWK RX6 9 0 9 [.int 0, .int 0, .int 0, .int 0, .int 0, .int 0, .null, .null, .null] := ⟨RX0, TX0, tyX0, rfl, gi_X0, tyX0_ok, gw_of (List.mem_append_right _ (List.mem_of_getElem? (i := 25) (by decide +kernel))) rfl, gw_of (List.mem_append_right _ (List.mem_of_getElem? (i := 26) (by decide +kernel))) rfl, ii_X0, fun j hj => by rcases (show j = 0 ∨ j = 1 ∨ j = 2 ∨ j = 3 ∨ j = 4 ∨ j = 5 ∨ j = 6 ∨ j = 7 ∨ j = 8 by omega) with rfl | rfl | rfl | rfl | rfl | rfl | rfl | rfl | rfl <;> rfl⟩
theorem fg_X6_12 : FLG RX6 12 6 0 := ⟨RX6, TX6, 7, tyX6, rfl, by decide, gi_X6, rfl, nmX6, tyX6_ok, gw_of (List.mem_append_right _ (List.mem_of_getElem? (i := 190) (by decide +kernel))) rfl⟩
theorem ff_6_0 : FFK RX6 6 0 (.object "RicePriests$Mission") := fun q h => by cases h; exact ⟨rfl, rfl, by decide +kernel⟩
theorem fg_X6_16 : FLG RX6 16 6 1 := ⟨RX6, TX6, 7, tyX6, rfl, by decide, gi_X6, rfl, nmX6, tyX6_ok, gw_of (List.mem_append_right _ (List.mem_of_getElem? (i := 191) (by decide +kernel))) rfl⟩
theorem ff_6_1 : FFK RX6 6 1 (.object "RicePriests$Mission") := fun q h => by cases h; exact ⟨rfl, rfl, by decide +kernel⟩
theorem nw_X6_23 : NWK RX6 23 3 1 [.null] := ⟨RX3, TX3, tyX3, rfl, gi_X3, tyX3_ok, gw_of (List.mem_append_right _ (List.mem_of_getElem? (i := 114) (by decide +kernel))) rfl, gw_of (List.mem_append_right _ (List.mem_of_getElem? (i := 115) (by decide +kernel))) rfl, ii_X3, fun j hj => by rcases (show j = 0 by omega) with rfl <;> rfl⟩
theorem fg_X6_26 : FLG RX6 26 6 3 := ⟨RX6, TX6, 7, tyX6, rfl, by decide, gi_X6, rfl, nmX6, tyX6_ok, gw_of (List.mem_append_right _ (List.mem_of_getElem? (i := 193) (by decide +kernel))) rfl⟩
theorem ff_6_3 : FFK RX6 6 3 (.object "RicePriests$Seer") := fun q h => by cases h; exact ⟨rfl, rfl, by decide +kernel⟩
theorem nw_X6_30 : NWK RX6 30 2 6 [.null, .int 0, .int 0, .int 0, .int 0, .int 0] := ⟨RX2, TX2, tyX2, rfl, gi_X2, tyX2_ok, gw_of (List.mem_append_right _ (List.mem_of_getElem? (i := 127) (by decide +kernel))) rfl, gw_of (List.mem_append_right _ (List.mem_of_getElem? (i := 128) (by decide +kernel))) rfl, ii_X2, fun j hj => by rcases (show j = 0 ∨ j = 1 ∨ j = 2 ∨ j = 3 ∨ j = 4 ∨ j = 5 by omega) with rfl | rfl | rfl | rfl | rfl | rfl <;> rfl⟩
theorem fg_X6_33 : FLG RX6 33 6 4 := ⟨RX6, TX6, 7, tyX6, rfl, by decide, gi_X6, rfl, nmX6, tyX6_ok, gw_of (List.mem_append_right _ (List.mem_of_getElem? (i := 194) (by decide +kernel))) rfl⟩
theorem ff_6_4 : FFK RX6 6 4 (.object "RicePriests$Reader") := fun q h => by cases h; exact ⟨rfl, rfl, by decide +kernel⟩
theorem cl_X6_37 : Cond.classLink RX6 37 RX4 ∈ GW := gw_of (List.mem_append_right _ (List.mem_of_getElem? (i := 168) (by decide +kernel))) rfl
theorem fg_X6_39 : FLG RX6 39 6 5 := ⟨RX6, TX6, 7, tyX6, rfl, by decide, gi_X6, rfl, nmX6, tyX6_ok, gw_of (List.mem_append_right _ (List.mem_of_getElem? (i := 195) (by decide +kernel))) rfl⟩
theorem ff_6_5 : FFK RX6 6 5 (.array (.object "RicePriests$Sheet")) := fun q h => by cases h; exact ⟨rfl, rfl, by decide +kernel⟩
theorem fg_X6_43 : FLG RX6 43 6 6 := ⟨RX6, TX6, 7, tyX6, rfl, by decide, gi_X6, rfl, nmX6, tyX6_ok, gw_of (List.mem_append_right _ (List.mem_of_getElem? (i := 196) (by decide +kernel))) rfl⟩
theorem ff_6_6 : FFK RX6 6 6 (.array .int) := fun q h => by cases h; exact ⟨rfl, rfl, by decide +kernel⟩
theorem nw_X6_37 : NWK RX6 37 4 3 [.int 0, .int 0, .null] := ⟨RX4, TX4, tyX4, rfl, gi_X4, tyX4_ok, gw_of (List.mem_append_right _ (List.mem_of_getElem? (i := 168) (by decide +kernel))) rfl, gw_of (List.mem_append_right _ (List.mem_of_getElem? (i := 170) (by decide +kernel))) rfl, ii_X4, fun j hj => by rcases (show j = 0 ∨ j = 1 ∨ j = 2 by omega) with rfl | rfl | rfl <;> rfl⟩
set_option maxRecDepth 20000 in
set_option maxHeartbeats 4000000 in
theorem k_X2_init (h0 : Nat) : CN l sk D cy mX2_init 2 2 122 h0 (.inr (2, [.null, .int 0, .int 0, .int 0, .int 0, .int 0])) (fun W1 => ∃ b d, W1 = reaW cy h0 b d) := by
  refine CN.of (lo := [some (.ref h0)]) cf_X2_init rfl 0 rfl (Nat.le_of_ble_eq_true rfl) (fun Pp Ee Ss Mm Aa Bb Me Cc A0 B hr hlk hin hao => ?_)
  have B : BS sk D cy (UW [(h0, .inr (2, [.null, .int 0, .int 0, .int 0, .int 0, .int 0]))]) A0 Pp Ss Mm Aa Cc RX2 cX2_init 1 := B
  refine a_aload_n B dX2_init_0 rfl ?_
  refine u_obj B lo_X2_3 dX2_init_1 (Nat.le_of_ble_eq_true rfl) ⟨Nat.le_of_ble_eq_true rfl, Nat.le_of_ble_eq_true rfl⟩ ?_
  refine a_aload_n B dX2_init_4 rfl ?_
  refine u_new (W' := fun q1 => [(h0, .inr (2, [.null, .int 0, .int 0, .int 0, .int 0, .int 0])), (q1, .inr (5, [.null, .int 0]))]) B nw_X2_9 (fun _ => rfl) (Nat.le_of_ble_eq_true rfl) (Nat.le_of_ble_eq_true rfl) dX2_init_5 (fun q1 B => ?_)
  refine a_dup B dX2_init_8 rfl ?_
  refine u_call (X := [(h0, .inr (2, [.null, .int 0, .int 0, .int 0, .int 0, .int 0]))]) B hao cf_X5_init rfl (Or.inr ⟨_, ln_X2_11⟩) in_X5_init rfl rfl (k_X5_init q1) dX2_init_9 (Nat.le_of_ble_eq_true rfl) ⟨Nat.le_of_ble_eq_true rfl, Nat.le_of_ble_eq_true rfl⟩ ⟨Nat.le_of_ble_eq_true rfl, Nat.le_of_ble_eq_true rfl⟩ (fun W1 hW1 B => ?_)
  obtain ⟨qb, rfl⟩ := hW1
  refine u_as (W' := [(h0, .inr (2, [.null, .int 0, .int 0, .int 0, .int 0, .int 0]))] ++ (tapW cy q1 qb)) rfl ?_
  have B : BS sk D cy (UW ([(h0, .inr (2, [.null, .int 0, .int 0, .int 0, .int 0, .int 0]))] ++ (tapW cy q1 qb))) A0 Pp Ss Mm Aa Cc RX2 cX2_init 1 := B
  refine u_putF (q0 := 0) (W' := [(h0, .inr (2, [.ref q1, .int 0, .int 0, .int 0, .int 0, .int 0]))] ++ (tapW cy q1 qb)) B hin fg_X2_12 ff_2_0 rfl (Nat.le_of_ble_eq_true rfl) rfl rfl rfl dX2_init_12 (fun B => ?_)
  refine a_aload_n B dX2_init_15 rfl ?_
  refine a_iconst (v := 0) B dX2_init_16 (by decide) ?_
  refine u_put (q0 := 0) (W' := [(h0, .inr (2, [.ref q1, .int 0, .int 0, .int 0, .int 0, .int 0]))] ++ (tapW cy q1 qb)) B fl_X2_18 fp_2_1 rfl (Nat.le_of_ble_eq_true rfl) rfl rfl rfl dX2_init_17 (fun B => ?_)
  refine a_aload_n B dX2_init_20 rfl ?_
  refine a_iconst (v := 0) B dX2_init_21 (by decide) ?_
  refine u_put (q0 := 0) (W' := [(h0, .inr (2, [.ref q1, .int 0, .int 0, .int 0, .int 0, .int 0]))] ++ (tapW cy q1 qb)) B fl_X2_22 fp_2_2 rfl (Nat.le_of_ble_eq_true rfl) rfl rfl rfl dX2_init_22 (fun B => ?_)
  refine a_aload_n B dX2_init_25 rfl ?_
  refine a_iconst (v := 0) B dX2_init_26 (by decide) ?_
  refine u_put (q0 := 0) (W' := [(h0, .inr (2, [.ref q1, .int 0, .int 0, .int 0, .int 0, .int 0]))] ++ (tapW cy q1 qb)) B fl_X2_25 fp_2_3 rfl (Nat.le_of_ble_eq_true rfl) rfl rfl rfl dX2_init_27 (fun B => ?_)
  refine a_aload_n B dX2_init_30 rfl ?_
  refine a_iconst (v := 0) B dX2_init_31 (by decide) ?_
  refine u_put (q0 := 0) (W' := [(h0, .inr (2, [.ref q1, .int 0, .int 0, .int 0, .int 0, .int 0]))] ++ (tapW cy q1 qb)) B fl_X2_28 fp_2_4 rfl (Nat.le_of_ble_eq_true rfl) rfl rfl rfl dX2_init_32 (fun B => ?_)
  refine a_aload_n B dX2_init_35 rfl ?_
  refine a_iconst (v := 0) B dX2_init_36 (by decide) ?_
  refine u_put (q0 := 0) (W' := [(h0, .inr (2, [.ref q1, .int 0, .int 0, .int 0, .int 0, .int 0]))] ++ (tapW cy q1 qb)) B fl_X2_31 fp_2_5 rfl (Nat.le_of_ble_eq_true rfl) rfl rfl rfl dX2_init_37 (fun B => ?_)
  have hSh : ∃ b d, ([(h0, .inr (2, [.ref q1, .int 0, .int 0, .int 0, .int 0, .int 0]))] ++ (tapW cy q1 qb) : va_W) = reaW cy h0 b d := ⟨q1, qb, rfl⟩
  exact u_vret B hr hlk (Nat.le_of_ble_eq_true rfl) (Nat.le_of_ble_eq_true rfl) hSh dX2_init_40
set_option maxRecDepth 20000 in
set_option maxHeartbeats 4000000 in
theorem k_X3_init (h0 : Nat) : CN l sk D cy mX3_init 3 12 81 h0 (.inr (3, [.null])) (fun W1 => ∃ Ba : Nat → Nat, W1 = misW cy Ba ++ [(h0, .inr (3, [.ref (Ba 0)]))]) := by
  refine CN.of (lo := [some (.ref h0)]) cf_X3_init rfl 0 rfl (Nat.le_of_ble_eq_true rfl) (fun Pp Ee Ss Mm Aa Bb Me Cc A0 B hr hlk hin hao => ?_)
  have B : BS sk D cy (UW [(h0, .inr (3, [.null]))]) A0 Pp Ss Mm Aa Cc RX3 cX3_init 1 := B
  refine a_aload_n B dX3_init_0 rfl ?_
  refine u_obj B lo_X3_3 dX3_init_1 (Nat.le_of_ble_eq_true rfl) ⟨Nat.le_of_ble_eq_true rfl, Nat.le_of_ble_eq_true rfl⟩ ?_
  refine a_aload_n B dX3_init_4 rfl ?_
  refine u_new (W' := fun q1 => [(h0, .inr (3, [.null])), (q1, .inr (0, [.int 0, .int 0, .int 0, .int 0, .int 0, .int 0, .null, .null, .null]))]) B nw_X3_9 (fun _ => rfl) (Nat.le_of_ble_eq_true rfl) (Nat.le_of_ble_eq_true rfl) dX3_init_5 (fun q1 B => ?_)
  refine a_dup B dX3_init_8 rfl ?_
  refine u_call (X := [(h0, .inr (3, [.null]))]) B hao cf_X0_init rfl (Or.inl lk_X3_11) in_X0_init rfl rfl (k_X0_init q1) dX3_init_9 (Nat.le_of_ble_eq_true rfl) ⟨Nat.le_of_ble_eq_true rfl, Nat.le_of_ble_eq_true rfl⟩ ⟨Nat.le_of_ble_eq_true rfl, Nat.le_of_ble_eq_true rfl⟩ (fun W1 hW1 B => ?_)
  obtain ⟨Ba0, hBa0, rfl⟩ := hW1
  refine u_as (W' := [(h0, .inr (3, [.null]))] ++ (misW cy Ba0)) rfl ?_
  have B : BS sk D cy (UW ([(h0, .inr (3, [.null]))] ++ (misW cy Ba0))) A0 Pp Ss Mm Aa Cc RX3 cX3_init 1 := B
  refine u_putF (q0 := 0) (W' := [(h0, .inr (3, [.ref q1]))] ++ (misW cy Ba0)) B hin fg_X3_12 ff_3_0 rfl (Nat.le_of_ble_eq_true rfl) rfl rfl rfl dX3_init_12 (fun B => ?_)
  refine u_sub [1, 2, 3, 4, 5, 6, 7, 8, 9, 10, 11, 12, 0] (W' := misW cy Ba0 ++ [(h0, .inr (3, [.ref (Ba0 0)]))]) B rfl (by rw [hBa0]; rfl) (by rw [hBa0]; rfl) (fun B => ?_)
  have hSh : ∃ Ba : Nat → Nat, (misW cy Ba0 ++ [(h0, .inr (3, [.ref (Ba0 0)]))] : va_W) = misW cy Ba ++ [(h0, .inr (3, [.ref (Ba 0)]))] := ⟨Ba0, rfl⟩
  exact u_vret B hr hlk (Nat.le_of_ble_eq_true rfl) (Nat.le_of_ble_eq_true rfl) hSh dX3_init_15
set_option maxRecDepth 20000 in
set_option maxHeartbeats 4000000 in
theorem k_X7_init (h0 : Nat) : CN l sk D cy mX7_init 1 10 615 h0 (.inr (7, [.null, .null, .null, .null, .int 0, .null, .null, .int 0, .int 0, .int 0, .int 0, .long 0, .int 0, .null, .null, .null, .null])) (fun W1 => ∃ Aa9 : Nat → Nat, Aa9 0 = h0 ∧ W1 = wl Aa9 cy 11 TM [] M0m) := by
  refine CN.of (lo := [some (.ref h0)]) cf_X7_init rfl 0 rfl (Nat.le_of_ble_eq_true rfl) (fun Pp Ee Ss Mm Aa Bb Me Cc A0 B hr hlk hin hao => ?_)
  have B : BS sk D cy (UW [(h0, .inr (7, [.null, .null, .null, .null, .int 0, .null, .null, .int 0, .int 0, .int 0, .int 0, .long 0, .int 0, .null, .null, .null, .null]))]) A0 Pp Ss Mm Aa Cc RX7 cX7_init 1 := B
  refine a_aload_n B dX7_init_0 rfl ?_
  refine u_obj B lo_X7_1 dX7_init_1 (Nat.le_of_ble_eq_true rfl) ⟨Nat.le_of_ble_eq_true rfl, Nat.le_of_ble_eq_true rfl⟩ ?_
  refine a_aload_n B dX7_init_4 rfl ?_
  refine a_bipush (v := 70) B dX7_init_5 (by decide) ?_
  refine u_newI (n := 70) (W' := fun q1 => [(h0, .inr (7, [.null, .null, .null, .null, .int 0, .null, .null, .int 0, .int 0, .int 0, .int 0, .long 0, .int 0, .null, .null, .null, .null])), (q1, .inl (cy 0, 70, .inl (fun _ => 0)))]) B rfl (by decide) (fun _ => rfl) (Nat.le_of_ble_eq_true rfl) (Nat.le_of_ble_eq_true rfl) dX7_init_7 (fun q1 B => ?_)
  refine u_putF (q0 := 0) (W' := [(h0, .inr (7, [.ref q1, .null, .null, .null, .int 0, .null, .null, .int 0, .int 0, .int 0, .int 0, .long 0, .int 0, .null, .null, .null, .null])), (q1, .inl (cy 0, 70, .inl (fun _ => 0)))]) B hin fg_X7_7 ff_7_0 rfl (Nat.le_of_ble_eq_true rfl) rfl rfl rfl dX7_init_9 (fun B => ?_)
  refine a_aload_n B dX7_init_12 rfl ?_
  refine a_bipush (v := 70) B dX7_init_13 (by decide) ?_
  refine u_newI (n := 70) (W' := fun q2 => [(h0, .inr (7, [.ref q1, .null, .null, .null, .int 0, .null, .null, .int 0, .int 0, .int 0, .int 0, .long 0, .int 0, .null, .null, .null, .null])), (q1, .inl (cy 0, 70, .inl (fun _ => 0))), (q2, .inl (cy 0, 70, .inl (fun _ => 0)))]) B rfl (by decide) (fun _ => rfl) (Nat.le_of_ble_eq_true rfl) (Nat.le_of_ble_eq_true rfl) dX7_init_15 (fun q2 B => ?_)
  refine u_putF (q0 := 0) (W' := [(h0, .inr (7, [.ref q1, .ref q2, .null, .null, .int 0, .null, .null, .int 0, .int 0, .int 0, .int 0, .long 0, .int 0, .null, .null, .null, .null])), (q1, .inl (cy 0, 70, .inl (fun _ => 0))), (q2, .inl (cy 0, 70, .inl (fun _ => 0)))]) B hin fg_X7_13 ff_7_1 rfl (Nat.le_of_ble_eq_true rfl) rfl rfl rfl dX7_init_17 (fun B => ?_)
  refine a_aload_n B dX7_init_20 rfl ?_
  refine a_bipush (v := 70) B dX7_init_21 (by decide) ?_
  refine u_newI (n := 70) (W' := fun q3 => [(h0, .inr (7, [.ref q1, .ref q2, .null, .null, .int 0, .null, .null, .int 0, .int 0, .int 0, .int 0, .long 0, .int 0, .null, .null, .null, .null])), (q1, .inl (cy 0, 70, .inl (fun _ => 0))), (q2, .inl (cy 0, 70, .inl (fun _ => 0))), (q3, .inl (cy 0, 70, .inl (fun _ => 0)))]) B rfl (by decide) (fun _ => rfl) (Nat.le_of_ble_eq_true rfl) (Nat.le_of_ble_eq_true rfl) dX7_init_23 (fun q3 B => ?_)
  refine u_putF (q0 := 0) (W' := [(h0, .inr (7, [.ref q1, .ref q2, .ref q3, .null, .int 0, .null, .null, .int 0, .int 0, .int 0, .int 0, .long 0, .int 0, .null, .null, .null, .null])), (q1, .inl (cy 0, 70, .inl (fun _ => 0))), (q2, .inl (cy 0, 70, .inl (fun _ => 0))), (q3, .inl (cy 0, 70, .inl (fun _ => 0)))]) B hin fg_X7_16 ff_7_2 rfl (Nat.le_of_ble_eq_true rfl) rfl rfl rfl dX7_init_25 (fun B => ?_)
  refine a_aload_n B dX7_init_28 rfl ?_
  refine a_bipush (v := 70) B dX7_init_29 (by decide) ?_
  refine u_newI (n := 70) (W' := fun q4 => [(h0, .inr (7, [.ref q1, .ref q2, .ref q3, .null, .int 0, .null, .null, .int 0, .int 0, .int 0, .int 0, .long 0, .int 0, .null, .null, .null, .null])), (q1, .inl (cy 0, 70, .inl (fun _ => 0))), (q2, .inl (cy 0, 70, .inl (fun _ => 0))), (q3, .inl (cy 0, 70, .inl (fun _ => 0))), (q4, .inl (cy 0, 70, .inl (fun _ => 0)))]) B rfl (by decide) (fun _ => rfl) (Nat.le_of_ble_eq_true rfl) (Nat.le_of_ble_eq_true rfl) dX7_init_31 (fun q4 B => ?_)
  refine u_putF (q0 := 0) (W' := [(h0, .inr (7, [.ref q1, .ref q2, .ref q3, .ref q4, .int 0, .null, .null, .int 0, .int 0, .int 0, .int 0, .long 0, .int 0, .null, .null, .null, .null])), (q1, .inl (cy 0, 70, .inl (fun _ => 0))), (q2, .inl (cy 0, 70, .inl (fun _ => 0))), (q3, .inl (cy 0, 70, .inl (fun _ => 0))), (q4, .inl (cy 0, 70, .inl (fun _ => 0)))]) B hin fg_X7_19 ff_7_3 rfl (Nat.le_of_ble_eq_true rfl) rfl rfl rfl dX7_init_33 (fun B => ?_)
  refine a_aload_n B dX7_init_36 rfl ?_
  refine a_bipush (v := 7) B dX7_init_37 (by decide) ?_
  refine u_newI (n := 7) (W' := fun q5 => [(h0, .inr (7, [.ref q1, .ref q2, .ref q3, .ref q4, .int 0, .null, .null, .int 0, .int 0, .int 0, .int 0, .long 0, .int 0, .null, .null, .null, .null])), (q1, .inl (cy 0, 70, .inl (fun _ => 0))), (q2, .inl (cy 0, 70, .inl (fun _ => 0))), (q3, .inl (cy 0, 70, .inl (fun _ => 0))), (q4, .inl (cy 0, 70, .inl (fun _ => 0))), (q5, .inl (cy 0, 7, .inl (fun _ => 0)))]) B rfl (by decide) (fun _ => rfl) (Nat.le_of_ble_eq_true rfl) (Nat.le_of_ble_eq_true rfl) dX7_init_39 (fun q5 B => ?_)
  refine u_putF (q0 := 0) (W' := [(h0, .inr (7, [.ref q1, .ref q2, .ref q3, .ref q4, .int 0, .ref q5, .null, .int 0, .int 0, .int 0, .int 0, .long 0, .int 0, .null, .null, .null, .null])), (q1, .inl (cy 0, 70, .inl (fun _ => 0))), (q2, .inl (cy 0, 70, .inl (fun _ => 0))), (q3, .inl (cy 0, 70, .inl (fun _ => 0))), (q4, .inl (cy 0, 70, .inl (fun _ => 0))), (q5, .inl (cy 0, 7, .inl (fun _ => 0)))]) B hin fg_X7_22 ff_7_5 rfl (Nat.le_of_ble_eq_true rfl) rfl rfl rfl dX7_init_41 (fun B => ?_)
  refine a_aload_n B dX7_init_44 rfl ?_
  refine a_bipush (v := 120) B dX7_init_45 (by decide) ?_
  refine u_newB (n := 120) (W' := fun q6 => [(h0, .inr (7, [.ref q1, .ref q2, .ref q3, .ref q4, .int 0, .ref q5, .null, .int 0, .int 0, .int 0, .int 0, .long 0, .int 0, .null, .null, .null, .null])), (q1, .inl (cy 0, 70, .inl (fun _ => 0))), (q2, .inl (cy 0, 70, .inl (fun _ => 0))), (q3, .inl (cy 0, 70, .inl (fun _ => 0))), (q4, .inl (cy 0, 70, .inl (fun _ => 0))), (q5, .inl (cy 0, 7, .inl (fun _ => 0))), (q6, .inl (cy 1, 120, .inl (fun _ => 0)))]) B rfl (by decide) (fun _ => rfl) (Nat.le_of_ble_eq_true rfl) (Nat.le_of_ble_eq_true rfl) dX7_init_47 (fun q6 B => ?_)
  refine u_putF (q0 := 0) (W' := [(h0, .inr (7, [.ref q1, .ref q2, .ref q3, .ref q4, .int 0, .ref q5, .ref q6, .int 0, .int 0, .int 0, .int 0, .long 0, .int 0, .null, .null, .null, .null])), (q1, .inl (cy 0, 70, .inl (fun _ => 0))), (q2, .inl (cy 0, 70, .inl (fun _ => 0))), (q3, .inl (cy 0, 70, .inl (fun _ => 0))), (q4, .inl (cy 0, 70, .inl (fun _ => 0))), (q5, .inl (cy 0, 7, .inl (fun _ => 0))), (q6, .inl (cy 1, 120, .inl (fun _ => 0)))]) B hin fg_X7_25 ff_7_6 rfl (Nat.le_of_ble_eq_true rfl) rfl rfl rfl dX7_init_49 (fun B => ?_)
  refine a_aload_n B dX7_init_52 rfl ?_
  refine a_iconst (v := 4) B dX7_init_53 (by decide) ?_
  refine u_newI (n := 4) (W' := fun q7 => [(h0, .inr (7, [.ref q1, .ref q2, .ref q3, .ref q4, .int 0, .ref q5, .ref q6, .int 0, .int 0, .int 0, .int 0, .long 0, .int 0, .null, .null, .null, .null])), (q1, .inl (cy 0, 70, .inl (fun _ => 0))), (q2, .inl (cy 0, 70, .inl (fun _ => 0))), (q3, .inl (cy 0, 70, .inl (fun _ => 0))), (q4, .inl (cy 0, 70, .inl (fun _ => 0))), (q5, .inl (cy 0, 7, .inl (fun _ => 0))), (q6, .inl (cy 1, 120, .inl (fun _ => 0))), (q7, .inl (cy 0, 4, .inl (fun _ => 0)))]) B rfl (by decide) (fun _ => rfl) (Nat.le_of_ble_eq_true rfl) (Nat.le_of_ble_eq_true rfl) dX7_init_54 (fun q7 B => ?_)
  refine u_putF (q0 := 0) (W' := [(h0, .inr (7, [.ref q1, .ref q2, .ref q3, .ref q4, .int 0, .ref q5, .ref q6, .int 0, .int 0, .int 0, .int 0, .long 0, .int 0, .ref q7, .null, .null, .null])), (q1, .inl (cy 0, 70, .inl (fun _ => 0))), (q2, .inl (cy 0, 70, .inl (fun _ => 0))), (q3, .inl (cy 0, 70, .inl (fun _ => 0))), (q4, .inl (cy 0, 70, .inl (fun _ => 0))), (q5, .inl (cy 0, 7, .inl (fun _ => 0))), (q6, .inl (cy 1, 120, .inl (fun _ => 0))), (q7, .inl (cy 0, 4, .inl (fun _ => 0)))]) B hin fg_X7_29 ff_7_13 rfl (Nat.le_of_ble_eq_true rfl) rfl rfl rfl dX7_init_56 (fun B => ?_)
  refine a_aload_n B dX7_init_59 rfl ?_
  refine a_iconst (v := 4) B dX7_init_60 (by decide) ?_
  refine u_newI (n := 4) (W' := fun q8 => [(h0, .inr (7, [.ref q1, .ref q2, .ref q3, .ref q4, .int 0, .ref q5, .ref q6, .int 0, .int 0, .int 0, .int 0, .long 0, .int 0, .ref q7, .null, .null, .null])), (q1, .inl (cy 0, 70, .inl (fun _ => 0))), (q2, .inl (cy 0, 70, .inl (fun _ => 0))), (q3, .inl (cy 0, 70, .inl (fun _ => 0))), (q4, .inl (cy 0, 70, .inl (fun _ => 0))), (q5, .inl (cy 0, 7, .inl (fun _ => 0))), (q6, .inl (cy 1, 120, .inl (fun _ => 0))), (q7, .inl (cy 0, 4, .inl (fun _ => 0))), (q8, .inl (cy 0, 4, .inl (fun _ => 0)))]) B rfl (by decide) (fun _ => rfl) (Nat.le_of_ble_eq_true rfl) (Nat.le_of_ble_eq_true rfl) dX7_init_61 (fun q8 B => ?_)
  refine u_putF (q0 := 0) (W' := [(h0, .inr (7, [.ref q1, .ref q2, .ref q3, .ref q4, .int 0, .ref q5, .ref q6, .int 0, .int 0, .int 0, .int 0, .long 0, .int 0, .ref q7, .ref q8, .null, .null])), (q1, .inl (cy 0, 70, .inl (fun _ => 0))), (q2, .inl (cy 0, 70, .inl (fun _ => 0))), (q3, .inl (cy 0, 70, .inl (fun _ => 0))), (q4, .inl (cy 0, 70, .inl (fun _ => 0))), (q5, .inl (cy 0, 7, .inl (fun _ => 0))), (q6, .inl (cy 1, 120, .inl (fun _ => 0))), (q7, .inl (cy 0, 4, .inl (fun _ => 0))), (q8, .inl (cy 0, 4, .inl (fun _ => 0)))]) B hin fg_X7_32 ff_7_14 rfl (Nat.le_of_ble_eq_true rfl) rfl rfl rfl dX7_init_63 (fun B => ?_)
  refine a_aload_n B dX7_init_66 rfl ?_
  refine a_sipush (v := 160) B dX7_init_67 (by decide) ?_
  refine u_newI (n := 160) (W' := fun q9 => [(h0, .inr (7, [.ref q1, .ref q2, .ref q3, .ref q4, .int 0, .ref q5, .ref q6, .int 0, .int 0, .int 0, .int 0, .long 0, .int 0, .ref q7, .ref q8, .null, .null])), (q1, .inl (cy 0, 70, .inl (fun _ => 0))), (q2, .inl (cy 0, 70, .inl (fun _ => 0))), (q3, .inl (cy 0, 70, .inl (fun _ => 0))), (q4, .inl (cy 0, 70, .inl (fun _ => 0))), (q5, .inl (cy 0, 7, .inl (fun _ => 0))), (q6, .inl (cy 1, 120, .inl (fun _ => 0))), (q7, .inl (cy 0, 4, .inl (fun _ => 0))), (q8, .inl (cy 0, 4, .inl (fun _ => 0))), (q9, .inl (cy 0, 160, .inl (fun _ => 0)))]) B rfl (by decide) (fun _ => rfl) (Nat.le_of_ble_eq_true rfl) (Nat.le_of_ble_eq_true rfl) dX7_init_70 (fun q9 B => ?_)
  refine u_putF (q0 := 0) (W' := [(h0, .inr (7, [.ref q1, .ref q2, .ref q3, .ref q4, .int 0, .ref q5, .ref q6, .int 0, .int 0, .int 0, .int 0, .long 0, .int 0, .ref q7, .ref q8, .ref q9, .null])), (q1, .inl (cy 0, 70, .inl (fun _ => 0))), (q2, .inl (cy 0, 70, .inl (fun _ => 0))), (q3, .inl (cy 0, 70, .inl (fun _ => 0))), (q4, .inl (cy 0, 70, .inl (fun _ => 0))), (q5, .inl (cy 0, 7, .inl (fun _ => 0))), (q6, .inl (cy 1, 120, .inl (fun _ => 0))), (q7, .inl (cy 0, 4, .inl (fun _ => 0))), (q8, .inl (cy 0, 4, .inl (fun _ => 0))), (q9, .inl (cy 0, 160, .inl (fun _ => 0)))]) B hin fg_X7_35 ff_7_15 rfl (Nat.le_of_ble_eq_true rfl) rfl rfl rfl dX7_init_72 (fun B => ?_)
  refine a_aload_n B dX7_init_75 rfl ?_
  refine a_bipush (v := 40) B dX7_init_76 (by decide) ?_
  refine u_newI (n := 40) (W' := fun q10 => [(h0, .inr (7, [.ref q1, .ref q2, .ref q3, .ref q4, .int 0, .ref q5, .ref q6, .int 0, .int 0, .int 0, .int 0, .long 0, .int 0, .ref q7, .ref q8, .ref q9, .null])), (q1, .inl (cy 0, 70, .inl (fun _ => 0))), (q2, .inl (cy 0, 70, .inl (fun _ => 0))), (q3, .inl (cy 0, 70, .inl (fun _ => 0))), (q4, .inl (cy 0, 70, .inl (fun _ => 0))), (q5, .inl (cy 0, 7, .inl (fun _ => 0))), (q6, .inl (cy 1, 120, .inl (fun _ => 0))), (q7, .inl (cy 0, 4, .inl (fun _ => 0))), (q8, .inl (cy 0, 4, .inl (fun _ => 0))), (q9, .inl (cy 0, 160, .inl (fun _ => 0))), (q10, .inl (cy 0, 40, .inl (fun _ => 0)))]) B rfl (by decide) (fun _ => rfl) (Nat.le_of_ble_eq_true rfl) (Nat.le_of_ble_eq_true rfl) dX7_init_78 (fun q10 B => ?_)
  refine u_putF (q0 := 0) (W' := [(h0, .inr (7, [.ref q1, .ref q2, .ref q3, .ref q4, .int 0, .ref q5, .ref q6, .int 0, .int 0, .int 0, .int 0, .long 0, .int 0, .ref q7, .ref q8, .ref q9, .ref q10])), (q1, .inl (cy 0, 70, .inl (fun _ => 0))), (q2, .inl (cy 0, 70, .inl (fun _ => 0))), (q3, .inl (cy 0, 70, .inl (fun _ => 0))), (q4, .inl (cy 0, 70, .inl (fun _ => 0))), (q5, .inl (cy 0, 7, .inl (fun _ => 0))), (q6, .inl (cy 1, 120, .inl (fun _ => 0))), (q7, .inl (cy 0, 4, .inl (fun _ => 0))), (q8, .inl (cy 0, 4, .inl (fun _ => 0))), (q9, .inl (cy 0, 160, .inl (fun _ => 0))), (q10, .inl (cy 0, 40, .inl (fun _ => 0)))]) B hin fg_X7_38 ff_7_16 rfl (Nat.le_of_ble_eq_true rfl) rfl rfl rfl dX7_init_80 (fun B => ?_)
  refine a_aload_n B dX7_init_83 rfl ?_
  refine u_get (q0 := 0) (k := 0) (v := .ref q1) B fl_X7_7 rfl rfl dX7_init_84 ?_
  refine a_iconst (v := 2) B dX7_init_87 (by decide) ?_
  refine a_iconst (v := 1) B dX7_init_88 (by decide) ?_
  refine u_iast (q0 := 1) (i := 2) (W' := [(h0, .inr (7, [.ref q1, .ref q2, .ref q3, .ref q4, .int 0, .ref q5, .ref q6, .int 0, .int 0, .int 0, .int 0, .long 0, .int 0, .ref q7, .ref q8, .ref q9, .ref q10])), (q1, .inl (cy 0, 70, .inl (upd (fun _ => 0) 2 1))), (q2, .inl (cy 0, 70, .inl (fun _ => 0))), (q3, .inl (cy 0, 70, .inl (fun _ => 0))), (q4, .inl (cy 0, 70, .inl (fun _ => 0))), (q5, .inl (cy 0, 7, .inl (fun _ => 0))), (q6, .inl (cy 1, 120, .inl (fun _ => 0))), (q7, .inl (cy 0, 4, .inl (fun _ => 0))), (q8, .inl (cy 0, 4, .inl (fun _ => 0))), (q9, .inl (cy 0, 160, .inl (fun _ => 0))), (q10, .inl (cy 0, 40, .inl (fun _ => 0)))]) B rfl (by decide) (by decide) rfl dX7_init_89 (fun B => ?_)
  refine a_aload_n B dX7_init_90 rfl ?_
  refine u_get (q0 := 0) (k := 0) (v := .ref q1) B fl_X7_7 rfl rfl dX7_init_91 ?_
  refine a_iconst (v := 3) B dX7_init_94 (by decide) ?_
  refine a_iconst (v := 2) B dX7_init_95 (by decide) ?_
  refine u_iast (q0 := 1) (i := 3) (W' := [(h0, .inr (7, [.ref q1, .ref q2, .ref q3, .ref q4, .int 0, .ref q5, .ref q6, .int 0, .int 0, .int 0, .int 0, .long 0, .int 0, .ref q7, .ref q8, .ref q9, .ref q10])), (q1, .inl (cy 0, 70, .inl (upd (upd (fun _ => 0) 2 1) 3 2))), (q2, .inl (cy 0, 70, .inl (fun _ => 0))), (q3, .inl (cy 0, 70, .inl (fun _ => 0))), (q4, .inl (cy 0, 70, .inl (fun _ => 0))), (q5, .inl (cy 0, 7, .inl (fun _ => 0))), (q6, .inl (cy 1, 120, .inl (fun _ => 0))), (q7, .inl (cy 0, 4, .inl (fun _ => 0))), (q8, .inl (cy 0, 4, .inl (fun _ => 0))), (q9, .inl (cy 0, 160, .inl (fun _ => 0))), (q10, .inl (cy 0, 40, .inl (fun _ => 0)))]) B rfl (by decide) (by decide) rfl dX7_init_96 (fun B => ?_)
  obtain ⟨Aa9, hAa⟩ : ∃ Aa9 : Nat → Nat, Aa9 = fun p => (([h0, q1, q2, q3, q4, q5, q6, q7, q8, q9, q10] : List Nat)[p]?).getD 0 := ⟨_, rfl⟩
  have e0 : (fun j => if j < 70 then M0m 0 (0 + j) else 0) = upd (upd (fun _ => 0) 2 1) 3 2 := by
    funext j
    unfold upd M0m
    rw [if_pos rfl, Nat.zero_add]
    by_cases h3 : j = 3
    · subst h3; rfl
    · by_cases h2 : j = 2
      · subst h2; rfl
      · simp only [if_neg h2, if_neg h3]; split <;> rfl
  have e1 : (fun j => if j < 70 then M0m 1 (0 + j) else 0) = fun _ => (0 : Int32) := z_arr (fun j hj => rfl)
  have e2 : (fun j => if j < 70 then M0m 2 (0 + j) else 0) = fun _ => (0 : Int32) := z_arr (fun j hj => rfl)
  have e3 : (fun j => if j < 70 then M0m 3 (0 + j) else 0) = fun _ => (0 : Int32) := z_arr (fun j hj => rfl)
  have e4 : (fun j => if j < 7 then M0m 4 (0 + j) else 0) = fun _ => (0 : Int32) := z_arr (fun j hj => rfl)
  have e5 : (fun j => if j < 120 then M0m 5 (0 + j) else 0) = fun _ => (0 : Int32) := z_arr (fun j hj => rfl)
  have e6 : (fun j => if j < 4 then M0m 6 (0 + j) else 0) = fun _ => (0 : Int32) := z_arr (fun j hj => rfl)
  have e7 : (fun j => if j < 4 then M0m 7 (0 + j) else 0) = fun _ => (0 : Int32) := z_arr (fun j hj => rfl)
  have e8 : (fun j => if j < 160 then M0m 8 (0 + j) else 0) = fun _ => (0 : Int32) := z_arr (fun j hj => rfl)
  have e9 : (fun j => if j < 40 then M0m 9 (0 + j) else 0) = fun _ => (0 : Int32) := z_arr (fun j hj => rfl)
  have hSh : ∃ Aa9 : Nat → Nat, Aa9 0 = h0 ∧ ([(h0, .inr (7, [.ref q1, .ref q2, .ref q3, .ref q4, .int 0, .ref q5, .ref q6, .int 0, .int 0, .int 0, .int 0, .long 0, .int 0, .ref q7, .ref q8, .ref q9, .ref q10])), (q1, .inl (cy 0, 70, .inl (upd (upd (fun _ => 0) 2 1) 3 2))), (q2, .inl (cy 0, 70, .inl (fun _ => 0))), (q3, .inl (cy 0, 70, .inl (fun _ => 0))), (q4, .inl (cy 0, 70, .inl (fun _ => 0))), (q5, .inl (cy 0, 7, .inl (fun _ => 0))), (q6, .inl (cy 1, 120, .inl (fun _ => 0))), (q7, .inl (cy 0, 4, .inl (fun _ => 0))), (q8, .inl (cy 0, 4, .inl (fun _ => 0))), (q9, .inl (cy 0, 160, .inl (fun _ => 0))), (q10, .inl (cy 0, 40, .inl (fun _ => 0)))] : va_W) = wl Aa9 cy 11 TM [] M0m := by
    refine ⟨Aa9, by rw [hAa]; rfl, ?_⟩
    have hx : wl Aa9 cy 11 TM [] M0m = [(h0, .inr (7, [.ref q1, .ref q2, .ref q3, .ref q4, .int 0, .ref q5, .ref q6, .int 0, .int 0, .int 0, .int 0, .long 0, .int 0, .ref q7, .ref q8, .ref q9, .ref q10])), (q1, .inl (cy 0, 70, .inl (fun j => if j < 70 then M0m 0 (0 + j) else 0))), (q2, .inl (cy 0, 70, .inl (fun j => if j < 70 then M0m 1 (0 + j) else 0))), (q3, .inl (cy 0, 70, .inl (fun j => if j < 70 then M0m 2 (0 + j) else 0))), (q4, .inl (cy 0, 70, .inl (fun j => if j < 70 then M0m 3 (0 + j) else 0))), (q5, .inl (cy 0, 7, .inl (fun j => if j < 7 then M0m 4 (0 + j) else 0))), (q6, .inl (cy 1, 120, .inl (fun j => if j < 120 then M0m 5 (0 + j) else 0))), (q7, .inl (cy 0, 4, .inl (fun j => if j < 4 then M0m 6 (0 + j) else 0))), (q8, .inl (cy 0, 4, .inl (fun j => if j < 4 then M0m 7 (0 + j) else 0))), (q9, .inl (cy 0, 160, .inl (fun j => if j < 160 then M0m 8 (0 + j) else 0))), (q10, .inl (cy 0, 40, .inl (fun j => if j < 40 then M0m 9 (0 + j) else 0)))] := by rw [hAa]; rfl
    rw [hx, e0, e1, e2, e3, e4, e5, e6, e7, e8, e9]
  exact u_vret B hr hlk (Nat.le_of_ble_eq_true rfl) (Nat.le_of_ble_eq_true rfl) hSh dX7_init_97
set_option maxRecDepth 20000 in
set_option maxHeartbeats 4000000 in
theorem k_X6_init (h0 : Nat) : CN l sk D cy mX6_init 4 50 555 h0 (.inr (6, [.null, .null, .int 0, .null, .null, .null, .null])) (fun W1 => ∃ Aa9 : Nat → Nat, Aa9 0 = h0 ∧ W1 = wl Aa9 cy 51 TC [] M0c) := by
  refine CN.of (lo := [some (.ref h0), none]) cf_X6_init rfl 1 rfl (Nat.le_of_ble_eq_true rfl) (fun Pp Ee Ss Mm Aa Bb Me Cc A0 B hr hlk hin hao => ?_)
  have B : BS sk D cy (UW [(h0, .inr (6, [.null, .null, .int 0, .null, .null, .null, .null]))]) A0 Pp Ss Mm Aa Cc RX6 cX6_init 2 := B
  refine a_aload_n B dX6_init_0 rfl ?_
  refine u_obj B lo_X6_3 dX6_init_1 (Nat.le_of_ble_eq_true rfl) ⟨Nat.le_of_ble_eq_true rfl, Nat.le_of_ble_eq_true rfl⟩ ?_
  refine a_aload_n B dX6_init_4 rfl ?_
  refine u_new (W' := fun q1 => [(h0, .inr (6, [.null, .null, .int 0, .null, .null, .null, .null])), (q1, .inr (0, [.int 0, .int 0, .int 0, .int 0, .int 0, .int 0, .null, .null, .null]))]) B nw_X6_9 (fun _ => rfl) (Nat.le_of_ble_eq_true rfl) (Nat.le_of_ble_eq_true rfl) dX6_init_5 (fun q1 B => ?_)
  refine a_dup B dX6_init_8 rfl ?_
  refine u_call (X := [(h0, .inr (6, [.null, .null, .int 0, .null, .null, .null, .null]))]) B hao cf_X0_init rfl (Or.inl lk_X6_11) in_X0_init rfl rfl (k_X0_init q1) dX6_init_9 (Nat.le_of_ble_eq_true rfl) ⟨Nat.le_of_ble_eq_true rfl, Nat.le_of_ble_eq_true rfl⟩ ⟨Nat.le_of_ble_eq_true rfl, Nat.le_of_ble_eq_true rfl⟩ (fun W1 hW1 B => ?_)
  obtain ⟨Ba0, hBa0, rfl⟩ := hW1
  refine u_as (W' := [(h0, .inr (6, [.null, .null, .int 0, .null, .null, .null, .null]))] ++ (misW cy Ba0)) rfl ?_
  have B : BS sk D cy (UW ([(h0, .inr (6, [.null, .null, .int 0, .null, .null, .null, .null]))] ++ (misW cy Ba0))) A0 Pp Ss Mm Aa Cc RX6 cX6_init 2 := B
  refine u_putF (q0 := 0) (W' := [(h0, .inr (6, [.ref q1, .null, .int 0, .null, .null, .null, .null]))] ++ (misW cy Ba0)) B hin fg_X6_12 ff_6_0 rfl (Nat.le_of_ble_eq_true rfl) rfl rfl rfl dX6_init_12 (fun B => ?_)
  refine a_aload_n B dX6_init_15 rfl ?_
  refine u_new (W' := fun q2 => [(h0, .inr (6, [.ref q1, .null, .int 0, .null, .null, .null, .null]))] ++ (misW cy Ba0 ++ ([(q2, .inr (0, [.int 0, .int 0, .int 0, .int 0, .int 0, .int 0, .null, .null, .null]))]))) B nw_X6_9 (fun _ => rfl) (Nat.le_of_ble_eq_true rfl) (Nat.le_of_ble_eq_true rfl) dX6_init_16 (fun q2 B => ?_)
  refine a_dup B dX6_init_19 rfl ?_
  refine u_call (X := [(h0, .inr (6, [.ref q1, .null, .int 0, .null, .null, .null, .null]))] ++ (misW cy Ba0)) B hao cf_X0_init rfl (Or.inl lk_X6_11) in_X0_init rfl rfl (k_X0_init q2) dX6_init_20 (Nat.le_of_ble_eq_true rfl) ⟨Nat.le_of_ble_eq_true rfl, Nat.le_of_ble_eq_true rfl⟩ ⟨Nat.le_of_ble_eq_true rfl, Nat.le_of_ble_eq_true rfl⟩ (fun W1 hW1 B => ?_)
  obtain ⟨Ba1, hBa1, rfl⟩ := hW1
  refine u_as (W' := [(h0, .inr (6, [.ref q1, .null, .int 0, .null, .null, .null, .null]))] ++ (misW cy Ba0 ++ (misW cy Ba1))) rfl ?_
  have B : BS sk D cy (UW ([(h0, .inr (6, [.ref q1, .null, .int 0, .null, .null, .null, .null]))] ++ (misW cy Ba0 ++ (misW cy Ba1)))) A0 Pp Ss Mm Aa Cc RX6 cX6_init 2 := B
  refine u_putF (q0 := 0) (W' := [(h0, .inr (6, [.ref q1, .ref q2, .int 0, .null, .null, .null, .null]))] ++ (misW cy Ba0 ++ (misW cy Ba1))) B hin fg_X6_16 ff_6_1 rfl (Nat.le_of_ble_eq_true rfl) rfl rfl rfl dX6_init_23 (fun B => ?_)
  refine a_aload_n B dX6_init_26 rfl ?_
  refine a_iconst (v := 0) B dX6_init_27 (by decide) ?_
  refine u_put (q0 := 0) (W' := [(h0, .inr (6, [.ref q1, .ref q2, .int 0, .null, .null, .null, .null]))] ++ (misW cy Ba0 ++ (misW cy Ba1))) B fl_X6_19 fp_6_2 rfl (Nat.le_of_ble_eq_true rfl) rfl rfl rfl dX6_init_28 (fun B => ?_)
  refine a_aload_n B dX6_init_31 rfl ?_
  refine u_new (W' := fun q3 => [(h0, .inr (6, [.ref q1, .ref q2, .int 0, .null, .null, .null, .null]))] ++ (misW cy Ba0 ++ (misW cy Ba1 ++ ([(q3, .inr (3, [.null]))])))) B nw_X6_23 (fun _ => rfl) (Nat.le_of_ble_eq_true rfl) (Nat.le_of_ble_eq_true rfl) dX6_init_32 (fun q3 B => ?_)
  refine a_dup B dX6_init_35 rfl ?_
  refine u_call (X := [(h0, .inr (6, [.ref q1, .ref q2, .int 0, .null, .null, .null, .null]))] ++ (misW cy Ba0 ++ (misW cy Ba1))) B hao cf_X3_init rfl (Or.inr ⟨_, ln_X6_25⟩) in_X3_init rfl rfl (k_X3_init q3) dX6_init_36 (Nat.le_of_ble_eq_true rfl) ⟨Nat.le_of_ble_eq_true rfl, Nat.le_of_ble_eq_true rfl⟩ ⟨Nat.le_of_ble_eq_true rfl, Nat.le_of_ble_eq_true rfl⟩ (fun W1 hW1 B => ?_)
  obtain ⟨Ba2, rfl⟩ := hW1
  refine u_as (W' := [(h0, .inr (6, [.ref q1, .ref q2, .int 0, .null, .null, .null, .null]))] ++ (misW cy Ba0 ++ (misW cy Ba1 ++ ((misW cy Ba2 ++ [(q3, .inr (3, [.ref (Ba2 0)]))]))))) rfl ?_
  have B : BS sk D cy (UW ([(h0, .inr (6, [.ref q1, .ref q2, .int 0, .null, .null, .null, .null]))] ++ (misW cy Ba0 ++ (misW cy Ba1 ++ ((misW cy Ba2 ++ [(q3, .inr (3, [.ref (Ba2 0)]))])))))) A0 Pp Ss Mm Aa Cc RX6 cX6_init 2 := B
  refine u_putF (q0 := 0) (W' := [(h0, .inr (6, [.ref q1, .ref q2, .int 0, .ref q3, .null, .null, .null]))] ++ (misW cy Ba0 ++ (misW cy Ba1 ++ ((misW cy Ba2 ++ [(q3, .inr (3, [.ref (Ba2 0)]))]))))) B hin fg_X6_26 ff_6_3 rfl (Nat.le_of_ble_eq_true rfl) rfl rfl rfl dX6_init_39 (fun B => ?_)
  refine a_aload_n B dX6_init_42 rfl ?_
  refine u_new (W' := fun q4 => [(h0, .inr (6, [.ref q1, .ref q2, .int 0, .ref q3, .null, .null, .null]))] ++ (misW cy Ba0 ++ (misW cy Ba1 ++ ((misW cy Ba2 ++ [(q3, .inr (3, [.ref (Ba2 0)]))]) ++ ([(q4, .inr (2, [.null, .int 0, .int 0, .int 0, .int 0, .int 0]))]))))) B nw_X6_30 (fun _ => rfl) (Nat.le_of_ble_eq_true rfl) (Nat.le_of_ble_eq_true rfl) dX6_init_43 (fun q4 B => ?_)
  refine a_dup B dX6_init_46 rfl ?_
  refine u_call (X := [(h0, .inr (6, [.ref q1, .ref q2, .int 0, .ref q3, .null, .null, .null]))] ++ (misW cy Ba0 ++ (misW cy Ba1 ++ ((misW cy Ba2 ++ [(q3, .inr (3, [.ref (Ba2 0)]))]))))) B hao cf_X2_init rfl (Or.inr ⟨_, ln_X6_32⟩) in_X2_init rfl rfl (k_X2_init q4) dX6_init_47 (Nat.le_of_ble_eq_true rfl) ⟨Nat.le_of_ble_eq_true rfl, Nat.le_of_ble_eq_true rfl⟩ ⟨Nat.le_of_ble_eq_true rfl, Nat.le_of_ble_eq_true rfl⟩ (fun W1 hW1 B => ?_)
  obtain ⟨qrb, qrd, rfl⟩ := hW1
  refine u_as (W' := [(h0, .inr (6, [.ref q1, .ref q2, .int 0, .ref q3, .null, .null, .null]))] ++ (misW cy Ba0 ++ (misW cy Ba1 ++ ((misW cy Ba2 ++ [(q3, .inr (3, [.ref (Ba2 0)]))]) ++ (reaW cy q4 qrb qrd))))) rfl ?_
  have B : BS sk D cy (UW ([(h0, .inr (6, [.ref q1, .ref q2, .int 0, .ref q3, .null, .null, .null]))] ++ (misW cy Ba0 ++ (misW cy Ba1 ++ ((misW cy Ba2 ++ [(q3, .inr (3, [.ref (Ba2 0)]))]) ++ (reaW cy q4 qrb qrd)))))) A0 Pp Ss Mm Aa Cc RX6 cX6_init 2 := B
  refine u_putF (q0 := 0) (W' := [(h0, .inr (6, [.ref q1, .ref q2, .int 0, .ref q3, .ref q4, .null, .null]))] ++ (misW cy Ba0 ++ (misW cy Ba1 ++ ((misW cy Ba2 ++ [(q3, .inr (3, [.ref (Ba2 0)]))]) ++ (reaW cy q4 qrb qrd))))) B hin fg_X6_33 ff_6_4 rfl (Nat.le_of_ble_eq_true rfl) rfl rfl rfl dX6_init_50 (fun B => ?_)
  refine a_aload_n B dX6_init_53 rfl ?_
  refine a_iconst (v := 4) B dX6_init_54 (by decide) ?_
  refine u_newQ (n := 4) (t0 := 3) (W' := fun q5 => [(h0, .inr (6, [.ref q1, .ref q2, .int 0, .ref q3, .ref q4, .null, .null]))] ++ (misW cy Ba0 ++ (misW cy Ba1 ++ ((misW cy Ba2 ++ [(q3, .inr (3, [.ref (Ba2 0)]))]) ++ (reaW cy q4 qrb qrd ++ ([(q5, .inl (cy 3, 4, .inr (.inr (.inr (.inr (fun _ => none))))))])))))) B cl_X6_37 hao.2 rfl rfl (by decide) (fun _ => rfl) (Nat.le_of_ble_eq_true rfl) (Nat.le_of_ble_eq_true rfl) dX6_init_55 (fun q5 B => ?_)
  refine u_putF (q0 := 0) (W' := [(h0, .inr (6, [.ref q1, .ref q2, .int 0, .ref q3, .ref q4, .ref q5, .null]))] ++ (misW cy Ba0 ++ (misW cy Ba1 ++ ((misW cy Ba2 ++ [(q3, .inr (3, [.ref (Ba2 0)]))]) ++ (reaW cy q4 qrb qrd ++ ([(q5, .inl (cy 3, 4, .inr (.inr (.inr (.inr (fun _ => none))))))])))))) B hin fg_X6_39 ff_6_5 rfl (Nat.le_of_ble_eq_true rfl) rfl rfl rfl dX6_init_58 (fun B => ?_)
  refine a_aload_n B dX6_init_61 rfl ?_
  refine a_bipush (v := 7) B dX6_init_62 (by decide) ?_
  refine u_newI (n := 7) (W' := fun q6 => [(h0, .inr (6, [.ref q1, .ref q2, .int 0, .ref q3, .ref q4, .ref q5, .null]))] ++ (misW cy Ba0 ++ (misW cy Ba1 ++ ((misW cy Ba2 ++ [(q3, .inr (3, [.ref (Ba2 0)]))]) ++ (reaW cy q4 qrb qrd ++ ([(q5, .inl (cy 3, 4, .inr (.inr (.inr (.inr (fun _ => none)))))), (q6, .inl (cy 0, 7, .inl (fun _ => 0)))])))))) B rfl (by decide) (fun _ => rfl) (Nat.le_of_ble_eq_true rfl) (Nat.le_of_ble_eq_true rfl) dX6_init_64 (fun q6 B => ?_)
  refine u_putF (q0 := 0) (W' := [(h0, .inr (6, [.ref q1, .ref q2, .int 0, .ref q3, .ref q4, .ref q5, .ref q6]))] ++ (misW cy Ba0 ++ (misW cy Ba1 ++ ((misW cy Ba2 ++ [(q3, .inr (3, [.ref (Ba2 0)]))]) ++ (reaW cy q4 qrb qrd ++ ([(q5, .inl (cy 3, 4, .inr (.inr (.inr (.inr (fun _ => none)))))), (q6, .inl (cy 0, 7, .inl (fun _ => 0)))])))))) B hin fg_X6_43 ff_6_6 rfl (Nat.le_of_ble_eq_true rfl) rfl rfl rfl dX6_init_66 (fun B => ?_)
  refine a_iconst (v := 0) B dX6_init_69 (by decide) ?_
  refine p_istore1 B dX6_init_70 (by decide) (k := ?_)
  refine a_iload_n B dX6_init_71 rfl ?_
  refine a_iconst (v := 4) B dX6_init_72 (by decide) ?_
  refine a_icmp_ge 95 B dX6_init_73 (by decide) (fun c9 => absurd c9 (by decide)) (fun c9 => ?_)
  refine a_aload_n B dX6_init_76 rfl ?_
  refine u_get (q0 := 0) (k := 5) (v := .ref q5) B fl_X6_39 rfl rfl dX6_init_77 ?_
  refine a_iload_n B dX6_init_80 rfl ?_
  refine u_new (W' := fun q7 => [(h0, .inr (6, [.ref q1, .ref q2, .int 0, .ref q3, .ref q4, .ref q5, .ref q6]))] ++ (misW cy Ba0 ++ (misW cy Ba1 ++ ((misW cy Ba2 ++ [(q3, .inr (3, [.ref (Ba2 0)]))]) ++ (reaW cy q4 qrb qrd ++ ([(q5, .inl (cy 3, 4, .inr (.inr (.inr (.inr (fun _ => none)))))), (q6, .inl (cy 0, 7, .inl (fun _ => 0))), (q7, .inr (4, [.int 0, .int 0, .null]))])))))) B nw_X6_37 (fun _ => rfl) (Nat.le_of_ble_eq_true rfl) (Nat.le_of_ble_eq_true rfl) dX6_init_81 (fun q7 B => ?_)
  refine a_dup B dX6_init_84 rfl ?_
  refine u_call (X := [(h0, .inr (6, [.ref q1, .ref q2, .int 0, .ref q3, .ref q4, .ref q5, .ref q6]))] ++ (misW cy Ba0 ++ (misW cy Ba1 ++ ((misW cy Ba2 ++ [(q3, .inr (3, [.ref (Ba2 0)]))]) ++ (reaW cy q4 qrb qrd ++ ([(q5, .inl (cy 3, 4, .inr (.inr (.inr (.inr (fun _ => none)))))), (q6, .inl (cy 0, 7, .inl (fun _ => 0)))])))))) B hao cf_X4_init rfl (Or.inr ⟨_, ln_X6_47⟩) in_X4_init rfl rfl (k_X4_init q7) dX6_init_85 (Nat.le_of_ble_eq_true rfl) ⟨Nat.le_of_ble_eq_true rfl, Nat.le_of_ble_eq_true rfl⟩ ⟨Nat.le_of_ble_eq_true rfl, Nat.le_of_ble_eq_true rfl⟩ (fun W1 hW1 B => ?_)
  obtain ⟨qs0, rfl⟩ := hW1
  refine u_as (W' := [(h0, .inr (6, [.ref q1, .ref q2, .int 0, .ref q3, .ref q4, .ref q5, .ref q6]))] ++ (misW cy Ba0 ++ (misW cy Ba1 ++ ((misW cy Ba2 ++ [(q3, .inr (3, [.ref (Ba2 0)]))]) ++ (reaW cy q4 qrb qrd ++ ([(q5, .inl (cy 3, 4, .inr (.inr (.inr (.inr (fun _ => none)))))), (q6, .inl (cy 0, 7, .inl (fun _ => 0)))] ++ (sheW cy q7 qs0))))))) rfl ?_
  have B : BS sk D cy (UW ([(h0, .inr (6, [.ref q1, .ref q2, .int 0, .ref q3, .ref q4, .ref q5, .ref q6]))] ++ (misW cy Ba0 ++ (misW cy Ba1 ++ ((misW cy Ba2 ++ [(q3, .inr (3, [.ref (Ba2 0)]))]) ++ (reaW cy q4 qrb qrd ++ ([(q5, .inl (cy 3, 4, .inr (.inr (.inr (.inr (fun _ => none)))))), (q6, .inl (cy 0, 7, .inl (fun _ => 0)))] ++ (sheW cy q7 qs0)))))))) A0 Pp Ss Mm Aa Cc RX6 cX6_init 2 := B
  refine u_aast (q0 := 41) (qk := 43) (i := 0) (t0 := 3) (ci := 4) B rfl rfl rfl rfl (by decide) (by decide) (W' := [(h0, .inr (6, [.ref q1, .ref q2, .int 0, .ref q3, .ref q4, .ref q5, .ref q6]))] ++ (misW cy Ba0 ++ (misW cy Ba1 ++ ((misW cy Ba2 ++ [(q3, .inr (3, [.ref (Ba2 0)]))]) ++ (reaW cy q4 qrb qrd ++ ([(q5, .inl (cy 3, 4, .inr (.inr (.inr (.inr (va_up (fun _ => none) 0 (some q7))))))), (q6, .inl (cy 0, 7, .inl (fun _ => 0)))] ++ (sheW cy q7 qs0))))))) rfl dX6_init_88 (fun B => ?_)
  refine p_iinc1 1 B dX6_init_89 (by decide) (by decide) (k := ?_)
  rw [show (0 : Int32) + 1 = 1 from by decide]
  refine a_goto 71 B dX6_init_92 (by decide) ?_
  refine a_iload_n B dX6_init_71 rfl ?_
  refine a_iconst (v := 4) B dX6_init_72 (by decide) ?_
  refine a_icmp_ge 95 B dX6_init_73 (by decide) (fun c9 => absurd c9 (by decide)) (fun c9 => ?_)
  refine a_aload_n B dX6_init_76 rfl ?_
  refine u_get (q0 := 0) (k := 5) (v := .ref q5) B fl_X6_39 rfl rfl dX6_init_77 ?_
  refine a_iload_n B dX6_init_80 rfl ?_
  refine u_new (W' := fun q8 => [(h0, .inr (6, [.ref q1, .ref q2, .int 0, .ref q3, .ref q4, .ref q5, .ref q6]))] ++ (misW cy Ba0 ++ (misW cy Ba1 ++ ((misW cy Ba2 ++ [(q3, .inr (3, [.ref (Ba2 0)]))]) ++ (reaW cy q4 qrb qrd ++ ([(q5, .inl (cy 3, 4, .inr (.inr (.inr (.inr (va_up (fun _ => none) 0 (some q7))))))), (q6, .inl (cy 0, 7, .inl (fun _ => 0)))] ++ (sheW cy q7 qs0 ++ ([(q8, .inr (4, [.int 0, .int 0, .null]))])))))))) B nw_X6_37 (fun _ => rfl) (Nat.le_of_ble_eq_true rfl) (Nat.le_of_ble_eq_true rfl) dX6_init_81 (fun q8 B => ?_)
  refine a_dup B dX6_init_84 rfl ?_
  refine u_call (X := [(h0, .inr (6, [.ref q1, .ref q2, .int 0, .ref q3, .ref q4, .ref q5, .ref q6]))] ++ (misW cy Ba0 ++ (misW cy Ba1 ++ ((misW cy Ba2 ++ [(q3, .inr (3, [.ref (Ba2 0)]))]) ++ (reaW cy q4 qrb qrd ++ ([(q5, .inl (cy 3, 4, .inr (.inr (.inr (.inr (va_up (fun _ => none) 0 (some q7))))))), (q6, .inl (cy 0, 7, .inl (fun _ => 0)))] ++ (sheW cy q7 qs0))))))) B hao cf_X4_init rfl (Or.inr ⟨_, ln_X6_47⟩) in_X4_init rfl rfl (k_X4_init q8) dX6_init_85 (Nat.le_of_ble_eq_true rfl) ⟨Nat.le_of_ble_eq_true rfl, Nat.le_of_ble_eq_true rfl⟩ ⟨Nat.le_of_ble_eq_true rfl, Nat.le_of_ble_eq_true rfl⟩ (fun W1 hW1 B => ?_)
  obtain ⟨qs1, rfl⟩ := hW1
  refine u_as (W' := [(h0, .inr (6, [.ref q1, .ref q2, .int 0, .ref q3, .ref q4, .ref q5, .ref q6]))] ++ (misW cy Ba0 ++ (misW cy Ba1 ++ ((misW cy Ba2 ++ [(q3, .inr (3, [.ref (Ba2 0)]))]) ++ (reaW cy q4 qrb qrd ++ ([(q5, .inl (cy 3, 4, .inr (.inr (.inr (.inr (va_up (fun _ => none) 0 (some q7))))))), (q6, .inl (cy 0, 7, .inl (fun _ => 0)))] ++ (sheW cy q7 qs0 ++ (sheW cy q8 qs1)))))))) rfl ?_
  have B : BS sk D cy (UW ([(h0, .inr (6, [.ref q1, .ref q2, .int 0, .ref q3, .ref q4, .ref q5, .ref q6]))] ++ (misW cy Ba0 ++ (misW cy Ba1 ++ ((misW cy Ba2 ++ [(q3, .inr (3, [.ref (Ba2 0)]))]) ++ (reaW cy q4 qrb qrd ++ ([(q5, .inl (cy 3, 4, .inr (.inr (.inr (.inr (va_up (fun _ => none) 0 (some q7))))))), (q6, .inl (cy 0, 7, .inl (fun _ => 0)))] ++ (sheW cy q7 qs0 ++ (sheW cy q8 qs1))))))))) A0 Pp Ss Mm Aa Cc RX6 cX6_init 2 := B
  refine u_aast (q0 := 41) (qk := 45) (i := 1) (t0 := 3) (ci := 4) B rfl rfl rfl rfl (by decide) (by decide) (W' := [(h0, .inr (6, [.ref q1, .ref q2, .int 0, .ref q3, .ref q4, .ref q5, .ref q6]))] ++ (misW cy Ba0 ++ (misW cy Ba1 ++ ((misW cy Ba2 ++ [(q3, .inr (3, [.ref (Ba2 0)]))]) ++ (reaW cy q4 qrb qrd ++ ([(q5, .inl (cy 3, 4, .inr (.inr (.inr (.inr (va_up (va_up (fun _ => none) 0 (some q7)) 1 (some q8))))))), (q6, .inl (cy 0, 7, .inl (fun _ => 0)))] ++ (sheW cy q7 qs0 ++ (sheW cy q8 qs1)))))))) rfl dX6_init_88 (fun B => ?_)
  refine p_iinc1 1 B dX6_init_89 (by decide) (by decide) (k := ?_)
  rw [show (1 : Int32) + 1 = 2 from by decide]
  refine a_goto 71 B dX6_init_92 (by decide) ?_
  refine a_iload_n B dX6_init_71 rfl ?_
  refine a_iconst (v := 4) B dX6_init_72 (by decide) ?_
  refine a_icmp_ge 95 B dX6_init_73 (by decide) (fun c9 => absurd c9 (by decide)) (fun c9 => ?_)
  refine a_aload_n B dX6_init_76 rfl ?_
  refine u_get (q0 := 0) (k := 5) (v := .ref q5) B fl_X6_39 rfl rfl dX6_init_77 ?_
  refine a_iload_n B dX6_init_80 rfl ?_
  refine u_new (W' := fun q9 => [(h0, .inr (6, [.ref q1, .ref q2, .int 0, .ref q3, .ref q4, .ref q5, .ref q6]))] ++ (misW cy Ba0 ++ (misW cy Ba1 ++ ((misW cy Ba2 ++ [(q3, .inr (3, [.ref (Ba2 0)]))]) ++ (reaW cy q4 qrb qrd ++ ([(q5, .inl (cy 3, 4, .inr (.inr (.inr (.inr (va_up (va_up (fun _ => none) 0 (some q7)) 1 (some q8))))))), (q6, .inl (cy 0, 7, .inl (fun _ => 0)))] ++ (sheW cy q7 qs0 ++ (sheW cy q8 qs1 ++ ([(q9, .inr (4, [.int 0, .int 0, .null]))]))))))))) B nw_X6_37 (fun _ => rfl) (Nat.le_of_ble_eq_true rfl) (Nat.le_of_ble_eq_true rfl) dX6_init_81 (fun q9 B => ?_)
  refine a_dup B dX6_init_84 rfl ?_
  refine u_call (X := [(h0, .inr (6, [.ref q1, .ref q2, .int 0, .ref q3, .ref q4, .ref q5, .ref q6]))] ++ (misW cy Ba0 ++ (misW cy Ba1 ++ ((misW cy Ba2 ++ [(q3, .inr (3, [.ref (Ba2 0)]))]) ++ (reaW cy q4 qrb qrd ++ ([(q5, .inl (cy 3, 4, .inr (.inr (.inr (.inr (va_up (va_up (fun _ => none) 0 (some q7)) 1 (some q8))))))), (q6, .inl (cy 0, 7, .inl (fun _ => 0)))] ++ (sheW cy q7 qs0 ++ (sheW cy q8 qs1)))))))) B hao cf_X4_init rfl (Or.inr ⟨_, ln_X6_47⟩) in_X4_init rfl rfl (k_X4_init q9) dX6_init_85 (Nat.le_of_ble_eq_true rfl) ⟨Nat.le_of_ble_eq_true rfl, Nat.le_of_ble_eq_true rfl⟩ ⟨Nat.le_of_ble_eq_true rfl, Nat.le_of_ble_eq_true rfl⟩ (fun W1 hW1 B => ?_)
  obtain ⟨qs2, rfl⟩ := hW1
  refine u_as (W' := [(h0, .inr (6, [.ref q1, .ref q2, .int 0, .ref q3, .ref q4, .ref q5, .ref q6]))] ++ (misW cy Ba0 ++ (misW cy Ba1 ++ ((misW cy Ba2 ++ [(q3, .inr (3, [.ref (Ba2 0)]))]) ++ (reaW cy q4 qrb qrd ++ ([(q5, .inl (cy 3, 4, .inr (.inr (.inr (.inr (va_up (va_up (fun _ => none) 0 (some q7)) 1 (some q8))))))), (q6, .inl (cy 0, 7, .inl (fun _ => 0)))] ++ (sheW cy q7 qs0 ++ (sheW cy q8 qs1 ++ (sheW cy q9 qs2))))))))) rfl ?_
  have B : BS sk D cy (UW ([(h0, .inr (6, [.ref q1, .ref q2, .int 0, .ref q3, .ref q4, .ref q5, .ref q6]))] ++ (misW cy Ba0 ++ (misW cy Ba1 ++ ((misW cy Ba2 ++ [(q3, .inr (3, [.ref (Ba2 0)]))]) ++ (reaW cy q4 qrb qrd ++ ([(q5, .inl (cy 3, 4, .inr (.inr (.inr (.inr (va_up (va_up (fun _ => none) 0 (some q7)) 1 (some q8))))))), (q6, .inl (cy 0, 7, .inl (fun _ => 0)))] ++ (sheW cy q7 qs0 ++ (sheW cy q8 qs1 ++ (sheW cy q9 qs2)))))))))) A0 Pp Ss Mm Aa Cc RX6 cX6_init 2 := B
  refine u_aast (q0 := 41) (qk := 47) (i := 2) (t0 := 3) (ci := 4) B rfl rfl rfl rfl (by decide) (by decide) (W' := [(h0, .inr (6, [.ref q1, .ref q2, .int 0, .ref q3, .ref q4, .ref q5, .ref q6]))] ++ (misW cy Ba0 ++ (misW cy Ba1 ++ ((misW cy Ba2 ++ [(q3, .inr (3, [.ref (Ba2 0)]))]) ++ (reaW cy q4 qrb qrd ++ ([(q5, .inl (cy 3, 4, .inr (.inr (.inr (.inr (va_up (va_up (va_up (fun _ => none) 0 (some q7)) 1 (some q8)) 2 (some q9))))))), (q6, .inl (cy 0, 7, .inl (fun _ => 0)))] ++ (sheW cy q7 qs0 ++ (sheW cy q8 qs1 ++ (sheW cy q9 qs2))))))))) rfl dX6_init_88 (fun B => ?_)
  refine p_iinc1 1 B dX6_init_89 (by decide) (by decide) (k := ?_)
  rw [show (2 : Int32) + 1 = 3 from by decide]
  refine a_goto 71 B dX6_init_92 (by decide) ?_
  refine a_iload_n B dX6_init_71 rfl ?_
  refine a_iconst (v := 4) B dX6_init_72 (by decide) ?_
  refine a_icmp_ge 95 B dX6_init_73 (by decide) (fun c9 => absurd c9 (by decide)) (fun c9 => ?_)
  refine a_aload_n B dX6_init_76 rfl ?_
  refine u_get (q0 := 0) (k := 5) (v := .ref q5) B fl_X6_39 rfl rfl dX6_init_77 ?_
  refine a_iload_n B dX6_init_80 rfl ?_
  refine u_new (W' := fun q10 => [(h0, .inr (6, [.ref q1, .ref q2, .int 0, .ref q3, .ref q4, .ref q5, .ref q6]))] ++ (misW cy Ba0 ++ (misW cy Ba1 ++ ((misW cy Ba2 ++ [(q3, .inr (3, [.ref (Ba2 0)]))]) ++ (reaW cy q4 qrb qrd ++ ([(q5, .inl (cy 3, 4, .inr (.inr (.inr (.inr (va_up (va_up (va_up (fun _ => none) 0 (some q7)) 1 (some q8)) 2 (some q9))))))), (q6, .inl (cy 0, 7, .inl (fun _ => 0)))] ++ (sheW cy q7 qs0 ++ (sheW cy q8 qs1 ++ (sheW cy q9 qs2 ++ ([(q10, .inr (4, [.int 0, .int 0, .null]))])))))))))) B nw_X6_37 (fun _ => rfl) (Nat.le_of_ble_eq_true rfl) (Nat.le_of_ble_eq_true rfl) dX6_init_81 (fun q10 B => ?_)
  refine a_dup B dX6_init_84 rfl ?_
  refine u_call (X := [(h0, .inr (6, [.ref q1, .ref q2, .int 0, .ref q3, .ref q4, .ref q5, .ref q6]))] ++ (misW cy Ba0 ++ (misW cy Ba1 ++ ((misW cy Ba2 ++ [(q3, .inr (3, [.ref (Ba2 0)]))]) ++ (reaW cy q4 qrb qrd ++ ([(q5, .inl (cy 3, 4, .inr (.inr (.inr (.inr (va_up (va_up (va_up (fun _ => none) 0 (some q7)) 1 (some q8)) 2 (some q9))))))), (q6, .inl (cy 0, 7, .inl (fun _ => 0)))] ++ (sheW cy q7 qs0 ++ (sheW cy q8 qs1 ++ (sheW cy q9 qs2))))))))) B hao cf_X4_init rfl (Or.inr ⟨_, ln_X6_47⟩) in_X4_init rfl rfl (k_X4_init q10) dX6_init_85 (Nat.le_of_ble_eq_true rfl) ⟨Nat.le_of_ble_eq_true rfl, Nat.le_of_ble_eq_true rfl⟩ ⟨Nat.le_of_ble_eq_true rfl, Nat.le_of_ble_eq_true rfl⟩ (fun W1 hW1 B => ?_)
  obtain ⟨qs3, rfl⟩ := hW1
  refine u_as (W' := [(h0, .inr (6, [.ref q1, .ref q2, .int 0, .ref q3, .ref q4, .ref q5, .ref q6]))] ++ (misW cy Ba0 ++ (misW cy Ba1 ++ ((misW cy Ba2 ++ [(q3, .inr (3, [.ref (Ba2 0)]))]) ++ (reaW cy q4 qrb qrd ++ ([(q5, .inl (cy 3, 4, .inr (.inr (.inr (.inr (va_up (va_up (va_up (fun _ => none) 0 (some q7)) 1 (some q8)) 2 (some q9))))))), (q6, .inl (cy 0, 7, .inl (fun _ => 0)))] ++ (sheW cy q7 qs0 ++ (sheW cy q8 qs1 ++ (sheW cy q9 qs2 ++ (sheW cy q10 qs3)))))))))) rfl ?_
  have B : BS sk D cy (UW ([(h0, .inr (6, [.ref q1, .ref q2, .int 0, .ref q3, .ref q4, .ref q5, .ref q6]))] ++ (misW cy Ba0 ++ (misW cy Ba1 ++ ((misW cy Ba2 ++ [(q3, .inr (3, [.ref (Ba2 0)]))]) ++ (reaW cy q4 qrb qrd ++ ([(q5, .inl (cy 3, 4, .inr (.inr (.inr (.inr (va_up (va_up (va_up (fun _ => none) 0 (some q7)) 1 (some q8)) 2 (some q9))))))), (q6, .inl (cy 0, 7, .inl (fun _ => 0)))] ++ (sheW cy q7 qs0 ++ (sheW cy q8 qs1 ++ (sheW cy q9 qs2 ++ (sheW cy q10 qs3))))))))))) A0 Pp Ss Mm Aa Cc RX6 cX6_init 2 := B
  refine u_aast (q0 := 41) (qk := 49) (i := 3) (t0 := 3) (ci := 4) B rfl rfl rfl rfl (by decide) (by decide) (W' := [(h0, .inr (6, [.ref q1, .ref q2, .int 0, .ref q3, .ref q4, .ref q5, .ref q6]))] ++ (misW cy Ba0 ++ (misW cy Ba1 ++ ((misW cy Ba2 ++ [(q3, .inr (3, [.ref (Ba2 0)]))]) ++ (reaW cy q4 qrb qrd ++ ([(q5, .inl (cy 3, 4, .inr (.inr (.inr (.inr (va_up (va_up (va_up (va_up (fun _ => none) 0 (some q7)) 1 (some q8)) 2 (some q9)) 3 (some q10))))))), (q6, .inl (cy 0, 7, .inl (fun _ => 0)))] ++ (sheW cy q7 qs0 ++ (sheW cy q8 qs1 ++ (sheW cy q9 qs2 ++ (sheW cy q10 qs3)))))))))) rfl dX6_init_88 (fun B => ?_)
  refine p_iinc1 1 B dX6_init_89 (by decide) (by decide) (k := ?_)
  rw [show (3 : Int32) + 1 = 4 from by decide]
  refine a_goto 71 B dX6_init_92 (by decide) ?_
  refine a_iload_n B dX6_init_71 rfl ?_
  refine a_iconst (v := 4) B dX6_init_72 (by decide) ?_
  refine a_icmp_ge 95 B dX6_init_73 (by decide) (fun c9 => ?_) (fun c9 => absurd (by decide) c9)
  obtain ⟨Aa9, hAa⟩ : ∃ Aa9 : Nat → Nat, Aa9 = fun p => if p = 0 then h0 else if p < 13 then Ba0 (p - 1) else if p < 25 then Ba1 (p - 13) else if p < 37 then Ba2 (p - 25) else (([q3, q4, qrb, qrd, q5, q6, q7, qs0, q8, qs1, q9, qs2, q10, qs3] : List Nat)[p - 37]?).getD 0 := ⟨_, rfl⟩
  have em0 : misW cy Ba0 = (List.range 12).map (fun j => (Aa9 (1 + 12 * 0 + j), cvC Aa9 cy M0c (TC (1 + 12 * 0 + j)))) := by
    rw [mis_wl 0 (by decide)]
    refine misW_congr (fun j hj => ?_)
    rw [hAa]
    show _ = if _ = 0 then _ else _
    rw [if_neg (by omega), if_pos (by omega), show 1 + 12 * 0 + j - 1 = j by omega]
  have em1 : misW cy Ba1 = (List.range 12).map (fun j => (Aa9 (1 + 12 * 1 + j), cvC Aa9 cy M0c (TC (1 + 12 * 1 + j)))) := by
    rw [mis_wl 1 (by decide)]
    refine misW_congr (fun j hj => ?_)
    rw [hAa]
    show _ = if _ = 0 then _ else _
    rw [if_neg (by omega), if_neg (by omega), if_pos (by omega), show 1 + 12 * 1 + j - 13 = j by omega]
  have em2 : misW cy Ba2 = (List.range 12).map (fun j => (Aa9 (1 + 12 * 2 + j), cvC Aa9 cy M0c (TC (1 + 12 * 2 + j)))) := by
    rw [mis_wl 2 (by decide)]
    refine misW_congr (fun j hj => ?_)
    rw [hAa]
    show _ = if _ = 0 then _ else _
    rw [if_neg (by omega), if_neg (by omega), if_neg (by omega), if_pos (by omega), show 1 + 12 * 2 + j - 25 = j by omega]
  have ea : (fun j => (([43, 45, 47, 49] : List Nat)[j]?).map Aa9) = (va_up (va_up (va_up (va_up (fun _ => none) 0 (some q7)) 1 (some q8)) 2 (some q9)) 3 (some q10)) := by
    funext j
    by_cases hj : j < 4
    · rw [hAa]
      rcases (show j = 0 ∨ j = 1 ∨ j = 2 ∨ j = 3 by omega) with rfl | rfl | rfl | rfl <;> rfl
    · rw [List.getElem?_eq_none (by simp; omega)]
      unfold va_up
      rw [if_neg (by omega), if_neg (by omega), if_neg (by omega), if_neg (by omega)]
      rfl
  have et : (fun j => if j < 120 then M0c 5 (0 + j) else 0) = fun _ => (0 : Int32) := z_arr (fun j hj => rfl)
  have ef : (fun j => if j < 7 then M0c 6 (0 + j) else 0) = fun _ => (0 : Int32) := z_arr (fun j hj => rfl)
  have en0 : (fun j => if j < 40 then M0c 7 (2 + j) else 0) = fun _ => (0 : Int32) := z_arr (fun j hj => rfl)
  have en1 : (fun j => if j < 40 then M0c 8 (2 + j) else 0) = fun _ => (0 : Int32) := z_arr (fun j hj => rfl)
  have en2 : (fun j => if j < 40 then M0c 9 (2 + j) else 0) = fun _ => (0 : Int32) := z_arr (fun j hj => rfl)
  have en3 : (fun j => if j < 40 then M0c 10 (2 + j) else 0) = fun _ => (0 : Int32) := z_arr (fun j hj => rfl)
  have hSh : ∃ Aa9 : Nat → Nat, Aa9 0 = h0 ∧ ([(h0, .inr (6, [.ref q1, .ref q2, .int 0, .ref q3, .ref q4, .ref q5, .ref q6]))] ++ (misW cy Ba0 ++ (misW cy Ba1 ++ ((misW cy Ba2 ++ [(q3, .inr (3, [.ref (Ba2 0)]))]) ++ (reaW cy q4 qrb qrd ++ ([(q5, .inl (cy 3, 4, .inr (.inr (.inr (.inr (va_up (va_up (va_up (va_up (fun _ => none) 0 (some q7)) 1 (some q8)) 2 (some q9)) 3 (some q10))))))), (q6, .inl (cy 0, 7, .inl (fun _ => 0)))] ++ (sheW cy q7 qs0 ++ (sheW cy q8 qs1 ++ (sheW cy q9 qs2 ++ (sheW cy q10 qs3))))))))) : va_W) = wl Aa9 cy 51 TC [] M0c := by
    refine ⟨Aa9, by rw [hAa]; rfl, ?_⟩
    have hx : wl Aa9 cy 51 TC [] M0c = [(Aa9 0, cvC Aa9 cy M0c (TC 0))] ++ ((List.range 12).map (fun j => (Aa9 (1 + 12 * 0 + j), cvC Aa9 cy M0c (TC (1 + 12 * 0 + j)))) ++ ((List.range 12).map (fun j => (Aa9 (1 + 12 * 1 + j), cvC Aa9 cy M0c (TC (1 + 12 * 1 + j)))) ++ ((List.range 12).map (fun j => (Aa9 (1 + 12 * 2 + j), cvC Aa9 cy M0c (TC (1 + 12 * 2 + j)))) ++ (List.range 14).map (fun j => (Aa9 (37 + j), cvC Aa9 cy M0c (TC (37 + j))))))) := rfl
    have hy : (List.range 14).map (fun j => (Aa9 (37 + j), cvC Aa9 cy M0c (TC (37 + j)))) = [(q3, .inr (3, [.ref (Ba2 0)])), (q4, .inr (2, [.ref qrb, .int 0, .int 0, .int 0, .int 0, .int 0])), (qrb, .inr (5, [.ref qrd, .int 0])), (qrd, .inl (cy 1, 120, .inl (fun j => if j < 120 then M0c 5 (0 + j) else 0))), (q5, .inl (cy 3, 4, .inr (.inr (.inr (.inr (fun j => (([43, 45, 47, 49] : List Nat)[j]?).map Aa9)))))), (q6, .inl (cy 0, 7, .inl (fun j => if j < 7 then M0c 6 (0 + j) else 0))), (q7, .inr (4, [.int 0, .int 0, .ref qs0])), (qs0, .inl (cy 0, 40, .inl (fun j => if j < 40 then M0c 7 (2 + j) else 0))), (q8, .inr (4, [.int 0, .int 0, .ref qs1])), (qs1, .inl (cy 0, 40, .inl (fun j => if j < 40 then M0c 8 (2 + j) else 0))), (q9, .inr (4, [.int 0, .int 0, .ref qs2])), (qs2, .inl (cy 0, 40, .inl (fun j => if j < 40 then M0c 9 (2 + j) else 0))), (q10, .inr (4, [.int 0, .int 0, .ref qs3])), (qs3, .inl (cy 0, 40, .inl (fun j => if j < 40 then M0c 10 (2 + j) else 0)))] := by rw [hAa]; rfl
    have hz : [(Aa9 0, cvC Aa9 cy M0c (TC 0))] = [(h0, .inr (6, [.ref q1, .ref q2, .int 0, .ref q3, .ref q4, .ref q5, .ref q6]))] := by rw [hAa, ← hBa0, ← hBa1]; rfl
    rw [hx, ← em0, ← em1, ← em2, hy, hz, ea, et, ef, en0, en1, en2, en3]
    rfl
  exact u_vret B hr hlk (Nat.le_of_ble_eq_true rfl) (Nat.le_of_ble_eq_true rfl) hSh dX6_init_95
end U3
