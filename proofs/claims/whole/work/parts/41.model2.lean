section R2

theorem best_n0 {d : Dm} {P : Nat → Bool} {k : Nat} (h : P k = false) : bestF d P (k + 1) = bestF d P k := by
  rw [bestF, h]
  cases bestF d P k <;> rfl
theorem best_n1 {d : Dm} {P : Nat → Bool} {k : Nat} (hb : bestF d P k = none) (h : P k = true) : bestF d P (k + 1) = some k := by rw [bestF, hb]; simp only [h, if_pos]
theorem best_n2 {d : Dm} {P : Nat → Bool} {k b : Nat} (hb : bestF d P k = some b) (h : P k = true) (hr : roomF d b < roomF d k) : bestF d P (k + 1) = some k := by rw [bestF, hb]; simp only [h, if_pos hr, if_true]
theorem best_n3 {d : Dm} {P : Nat → Bool} {k b : Nat} (hb : bestF d P k = some b) (h : P k = true) (hr : ¬ roomF d b < roomF d k) : bestF d P (k + 1) = some b := by rw [bestF, hb]; simp only [h, if_neg hr, if_true]
theorem oI_s (k : Nat) : oI (some k) = nI k := rfl
theorem oI_n : oI none = -1 := rfl
def roP (d : Dm) (sin wo : Int32) (k : Nat) : Bool := !decide (nI k = wo) && (decide (sin < 0) || takB d sin k)

variable {l : Launch} {sk : (Nat → Nat) × (Nat → Nat)} {D : va_G} {cy : Nat → ClassId} {A : Nat → Nat} {X : va_W}
set_option maxRecDepth 20000 in
theorem m_holds (p : Nat) (hp : p < 8) (M : Mem) : CR l sk D cy A X mX7_holds 1 [.ref (A 0), .int (nI p)] M (rI (holdF (M 0) p) M) := by
  refine Con.of (lo := [some (.ref (A 0)), some (.int (nI p)), none, none]) cf_X7_holds (fun _ _ => wl_fst) 2 rfl (Nat.le_of_ble_eq_true rfl) (fun Pp Ee Ss Mm Aa Bb Me Cc A0 B hr hlk => ?_)
  have B : BS sk D cy (wl A cy 11 TM X) A0 Pp Ss Mm Aa Cc RX7 cX7_holds 4 := B
  refine a_aload_n B dX7_holds_0 rfl ?_
  refine a_iload_n B dX7_holds_1 rfl ?_
  refine a_iconst (v := 3) B dX7_holds_2 (by decide) ?_
  refine a_callV2r B rfl cf_X7_its lk_X7_54 in_X7_its se_X7_its (wl_rc (p0 := 0) (by decide) rfl rfl rfl) (m_its p 3 (36 + p) (by omega) (by decide) (by omega) _) dX7_holds_3 (Nat.le_of_ble_eq_true rfl) ⟨Nat.le_of_ble_eq_true rfl, Nat.le_of_ble_eq_true rfl⟩ ⟨rfl, rfl⟩ ?_
  refine a_callS1r B rfl cf_X7_ones lk_X7_58 st_X7_ones (m_ones _ _) dX7_holds_6 (Nat.le_of_ble_eq_true rfl) ⟨Nat.le_of_ble_eq_true rfl, Nat.le_of_ble_eq_true rfl⟩ ⟨rfl, rfl⟩ ?_
  refine p_istore2 B dX7_holds_9 (by decide) (k := ?_)
  refine a_iload_n B dX7_holds_10 rfl ?_
  refine a_if_ne 19 B dX7_holds_11 (by decide) (fun c11 => ?_) (fun c11 => ?_)
  · refine a_bipush (v := 60) B dX7_holds_19 (by decide) ?_
    refine p_istore3 B dX7_holds_21 (by decide) (k := ?_)
    refine a_aload_n B dX7_holds_22 rfl ?_
    refine a_iload_n B dX7_holds_23 rfl ?_
    refine a_iconst (v := 0) B dX7_holds_24 (by decide) ?_
    refine a_callV2r B rfl cf_X7_its lk_X7_54 in_X7_its se_X7_its (wl_rc (p0 := 0) (by decide) rfl rfl rfl) (m_its p 0 (12 + p) (by omega) (by decide) (by omega) _) dX7_holds_25 (Nat.le_of_ble_eq_true rfl) ⟨Nat.le_of_ble_eq_true rfl, Nat.le_of_ble_eq_true rfl⟩ ⟨rfl, rfl⟩ ?_
    by_cases s28_0 : M 0 (12 + p) = 1
    · refine a_tblIn 68 B dX7_holds_28 (by rw [s28_0]; decide) (by rw [s28_0]; decide) (by rw [s28_0]; rfl) (by decide) ?_
      refine a_bipush (v := 40) B dX7_holds_68 (by decide) ?_
      exact a_iret B hr hlk dX7_holds_70 ⟨congrArg (fun z => some (Value.int z)) (by simp [holdF, holdsV, c11, s28_0]), rfl⟩
    by_cases s28_1 : M 0 (12 + p) = 2
    · refine a_tblIn 87 B dX7_holds_28 (by rw [s28_1]; decide) (by rw [s28_1]; decide) (by rw [s28_1]; rfl) (by decide) ?_
      refine a_iload_n B dX7_holds_87 rfl ?_
      exact a_iret B hr hlk dX7_holds_88 ⟨congrArg (fun z => some (Value.int z)) (by simp [holdF, holdsV, c11, s28_0, s28_1]), rfl⟩
    by_cases s28_2 : M 0 (12 + p) = 3
    · refine a_tblIn 71 B dX7_holds_28 (by rw [s28_2]; decide) (by rw [s28_2]; decide) (by rw [s28_2]; rfl) (by decide) ?_
      refine a_bipush (v := 40) B dX7_holds_71 (by decide) ?_
      refine a_iconst (v := 5) B dX7_holds_73 (by decide) ?_
      refine a_iload_n B dX7_holds_74 rfl ?_
      refine a_imul B dX7_holds_75 ?_
      refine a_iadd B dX7_holds_76 ?_
      exact a_iret B hr hlk dX7_holds_77 ⟨congrArg (fun z => some (Value.int z)) (by simp [holdF, holdsV, c11, s28_0, s28_1, s28_2]), rfl⟩
    by_cases s28_3 : M 0 (12 + p) = 4
    · refine a_tblIn 78 B dX7_holds_28 (by rw [s28_3]; decide) (by rw [s28_3]; decide) (by rw [s28_3]; rfl) (by decide) ?_
      refine a_iconst (v := 2) B dX7_holds_78 (by decide) ?_
      refine a_bipush (v := 40) B dX7_holds_79 (by decide) ?_
      refine a_iconst (v := 5) B dX7_holds_81 (by decide) ?_
      refine a_iload_n B dX7_holds_82 rfl ?_
      refine a_imul B dX7_holds_83 ?_
      refine a_iadd B dX7_holds_84 ?_
      refine a_imul B dX7_holds_85 ?_
      exact a_iret B hr hlk dX7_holds_86 ⟨congrArg (fun z => some (Value.int z)) (by simp [holdF, holdsV, c11, s28_0, s28_1, s28_2, s28_3]), rfl⟩
    by_cases s28_4 : M 0 (12 + p) = 5
    · refine a_tblIn 94 B dX7_holds_28 (by rw [s28_4]; decide) (by rw [s28_4]; decide) (by rw [s28_4]; rfl) (by decide) ?_
      refine a_bipush (v := 60) B dX7_holds_94 (by decide) ?_
      refine a_aload_n B dX7_holds_96 rfl ?_
      refine a_iload_n B dX7_holds_97 rfl ?_
      refine a_iconst (v := 4) B dX7_holds_98 (by decide) ?_
      refine a_callV2r B rfl cf_X7_its lk_X7_54 in_X7_its se_X7_its (wl_rc (p0 := 0) (by decide) rfl rfl rfl) (m_its p 4 (44 + p) (by omega) (by decide) (by omega) _) dX7_holds_99 (Nat.le_of_ble_eq_true rfl) ⟨Nat.le_of_ble_eq_true rfl, Nat.le_of_ble_eq_true rfl⟩ ⟨rfl, rfl⟩ ?_
      refine a_iadd B dX7_holds_102 ?_
      refine a_iconst (v := 0) B dX7_holds_103 (by decide) ?_
      refine a_bipush (v := 99) B dX7_holds_104 (by decide) ?_
      refine a_callS3r B rfl cf_X7_held lk_X7_62 st_X7_held (m_held _ _ _ _) dX7_holds_106 (Nat.le_of_ble_eq_true rfl) ⟨Nat.le_of_ble_eq_true rfl, Nat.le_of_ble_eq_true rfl⟩ ⟨rfl, rfl⟩ ?_
      exact a_iret B hr hlk dX7_holds_109 ⟨congrArg (fun z => some (Value.int z)) (by simp [holdF, holdsV, c11, s28_0, s28_1, s28_2, s28_3, s28_4]), rfl⟩
    by_cases s28_5 : M 0 (12 + p) = 6
    · refine a_tblIn 89 B dX7_holds_28 (by rw [s28_5]; decide) (by rw [s28_5]; decide) (by rw [s28_5]; rfl) (by decide) ?_
      refine a_iload_n B dX7_holds_89 rfl ?_
      refine a_bipush (v := 40) B dX7_holds_90 (by decide) ?_
      refine a_iadd B dX7_holds_92 ?_
      exact a_iret B hr hlk dX7_holds_93 ⟨congrArg (fun z => some (Value.int z)) (by simp [holdF, holdsV, c11, s28_0, s28_1, s28_2, s28_3, s28_4, s28_5]), rfl⟩
    refine a_tblOut 110 B dX7_holds_28 (by have h0 := lv_neT s28_0 (show (1 : Int32).toInt = 1 by decide); have h1 := lv_neT s28_1 (show (2 : Int32).toInt = 2 by decide); have h2 := lv_neT s28_2 (show (3 : Int32).toInt = 3 by decide); have h3 := lv_neT s28_3 (show (4 : Int32).toInt = 4 by decide); have h4 := lv_neT s28_4 (show (5 : Int32).toInt = 5 by decide); have h5 := lv_neT s28_5 (show (6 : Int32).toInt = 6 by decide); omega) (by decide) ?_
    refine a_bipush (v := 60) B dX7_holds_110 (by decide) ?_
    exact a_iret B hr hlk dX7_holds_112 ⟨congrArg (fun z => some (Value.int z)) (by simp [holdF, holdsV, c11, s28_0, s28_1, s28_2, s28_3, s28_4, s28_5]), rfl⟩
  refine a_bipush (v := 30) B dX7_holds_14 (by decide) ?_
  refine a_goto 21 B dX7_holds_16 (by decide) ?_
  refine p_istore3 B dX7_holds_21 (by decide) (k := ?_)
  refine a_aload_n B dX7_holds_22 rfl ?_
  refine a_iload_n B dX7_holds_23 rfl ?_
  refine a_iconst (v := 0) B dX7_holds_24 (by decide) ?_
  refine a_callV2r B rfl cf_X7_its lk_X7_54 in_X7_its se_X7_its (wl_rc (p0 := 0) (by decide) rfl rfl rfl) (m_its p 0 (12 + p) (by omega) (by decide) (by omega) _) dX7_holds_25 (Nat.le_of_ble_eq_true rfl) ⟨Nat.le_of_ble_eq_true rfl, Nat.le_of_ble_eq_true rfl⟩ ⟨rfl, rfl⟩ ?_
  by_cases s28_0 : M 0 (12 + p) = 1
  · refine a_tblIn 68 B dX7_holds_28 (by rw [s28_0]; decide) (by rw [s28_0]; decide) (by rw [s28_0]; rfl) (by decide) ?_
    refine a_bipush (v := 40) B dX7_holds_68 (by decide) ?_
    exact a_iret B hr hlk dX7_holds_70 ⟨congrArg (fun z => some (Value.int z)) (by simp [holdF, holdsV, c11, s28_0]), rfl⟩
  by_cases s28_1 : M 0 (12 + p) = 2
  · refine a_tblIn 87 B dX7_holds_28 (by rw [s28_1]; decide) (by rw [s28_1]; decide) (by rw [s28_1]; rfl) (by decide) ?_
    refine a_iload_n B dX7_holds_87 rfl ?_
    exact a_iret B hr hlk dX7_holds_88 ⟨congrArg (fun z => some (Value.int z)) (by simp [holdF, holdsV, c11, s28_0, s28_1]), rfl⟩
  by_cases s28_2 : M 0 (12 + p) = 3
  · refine a_tblIn 71 B dX7_holds_28 (by rw [s28_2]; decide) (by rw [s28_2]; decide) (by rw [s28_2]; rfl) (by decide) ?_
    refine a_bipush (v := 40) B dX7_holds_71 (by decide) ?_
    refine a_iconst (v := 5) B dX7_holds_73 (by decide) ?_
    refine a_iload_n B dX7_holds_74 rfl ?_
    refine a_imul B dX7_holds_75 ?_
    refine a_iadd B dX7_holds_76 ?_
    exact a_iret B hr hlk dX7_holds_77 ⟨congrArg (fun z => some (Value.int z)) (by simp [holdF, holdsV, c11, s28_0, s28_1, s28_2]), rfl⟩
  by_cases s28_3 : M 0 (12 + p) = 4
  · refine a_tblIn 78 B dX7_holds_28 (by rw [s28_3]; decide) (by rw [s28_3]; decide) (by rw [s28_3]; rfl) (by decide) ?_
    refine a_iconst (v := 2) B dX7_holds_78 (by decide) ?_
    refine a_bipush (v := 40) B dX7_holds_79 (by decide) ?_
    refine a_iconst (v := 5) B dX7_holds_81 (by decide) ?_
    refine a_iload_n B dX7_holds_82 rfl ?_
    refine a_imul B dX7_holds_83 ?_
    refine a_iadd B dX7_holds_84 ?_
    refine a_imul B dX7_holds_85 ?_
    exact a_iret B hr hlk dX7_holds_86 ⟨congrArg (fun z => some (Value.int z)) (by simp [holdF, holdsV, c11, s28_0, s28_1, s28_2, s28_3]), rfl⟩
  by_cases s28_4 : M 0 (12 + p) = 5
  · refine a_tblIn 94 B dX7_holds_28 (by rw [s28_4]; decide) (by rw [s28_4]; decide) (by rw [s28_4]; rfl) (by decide) ?_
    refine a_bipush (v := 60) B dX7_holds_94 (by decide) ?_
    refine a_aload_n B dX7_holds_96 rfl ?_
    refine a_iload_n B dX7_holds_97 rfl ?_
    refine a_iconst (v := 4) B dX7_holds_98 (by decide) ?_
    refine a_callV2r B rfl cf_X7_its lk_X7_54 in_X7_its se_X7_its (wl_rc (p0 := 0) (by decide) rfl rfl rfl) (m_its p 4 (44 + p) (by omega) (by decide) (by omega) _) dX7_holds_99 (Nat.le_of_ble_eq_true rfl) ⟨Nat.le_of_ble_eq_true rfl, Nat.le_of_ble_eq_true rfl⟩ ⟨rfl, rfl⟩ ?_
    refine a_iadd B dX7_holds_102 ?_
    refine a_iconst (v := 0) B dX7_holds_103 (by decide) ?_
    refine a_bipush (v := 99) B dX7_holds_104 (by decide) ?_
    refine a_callS3r B rfl cf_X7_held lk_X7_62 st_X7_held (m_held _ _ _ _) dX7_holds_106 (Nat.le_of_ble_eq_true rfl) ⟨Nat.le_of_ble_eq_true rfl, Nat.le_of_ble_eq_true rfl⟩ ⟨rfl, rfl⟩ ?_
    exact a_iret B hr hlk dX7_holds_109 ⟨congrArg (fun z => some (Value.int z)) (by simp [holdF, holdsV, c11, s28_0, s28_1, s28_2, s28_3, s28_4]), rfl⟩
  by_cases s28_5 : M 0 (12 + p) = 6
  · refine a_tblIn 89 B dX7_holds_28 (by rw [s28_5]; decide) (by rw [s28_5]; decide) (by rw [s28_5]; rfl) (by decide) ?_
    refine a_iload_n B dX7_holds_89 rfl ?_
    refine a_bipush (v := 40) B dX7_holds_90 (by decide) ?_
    refine a_iadd B dX7_holds_92 ?_
    exact a_iret B hr hlk dX7_holds_93 ⟨congrArg (fun z => some (Value.int z)) (by simp [holdF, holdsV, c11, s28_0, s28_1, s28_2, s28_3, s28_4, s28_5]), rfl⟩
  refine a_tblOut 110 B dX7_holds_28 (by have h0 := lv_neT s28_0 (show (1 : Int32).toInt = 1 by decide); have h1 := lv_neT s28_1 (show (2 : Int32).toInt = 2 by decide); have h2 := lv_neT s28_2 (show (3 : Int32).toInt = 3 by decide); have h3 := lv_neT s28_3 (show (4 : Int32).toInt = 4 by decide); have h4 := lv_neT s28_4 (show (5 : Int32).toInt = 5 by decide); have h5 := lv_neT s28_5 (show (6 : Int32).toInt = 6 by decide); omega) (by decide) ?_
  refine a_bipush (v := 60) B dX7_holds_110 (by decide) ?_
  exact a_iret B hr hlk dX7_holds_112 ⟨congrArg (fun z => some (Value.int z)) (by simp [holdF, holdsV, c11, s28_0, s28_1, s28_2, s28_3, s28_4, s28_5]), rfl⟩
set_option maxRecDepth 20000 in
theorem m_room (p : Nat) (hp : p < 8) (M : Mem) : CR l sk D cy A X mX7_room 2 [.ref (A 0), .int (nI p)] M (rI (roomF (M 0) p) M) := by
  refine Con.of (lo := [some (.ref (A 0)), some (.int (nI p))]) cf_X7_room (fun _ _ => wl_fst) 0 rfl (Nat.le_of_ble_eq_true rfl) (fun Pp Ee Ss Mm Aa Bb Me Cc A0 B hr hlk => ?_)
  have B : BS sk D cy (wl A cy 11 TM X) A0 Pp Ss Mm Aa Cc RX7 cX7_room 2 := B
  refine a_aload_n B dX7_room_0 rfl ?_
  refine a_iload_n B dX7_room_1 rfl ?_
  refine a_callV1r B rfl cf_X7_holds lk_X7_66 in_X7_holds se_X7_holds (wl_rc (p0 := 0) (by decide) rfl rfl rfl) (m_holds p hp _) dX7_room_2 (Nat.le_of_ble_eq_true rfl) ⟨Nat.le_of_ble_eq_true rfl, Nat.le_of_ble_eq_true rfl⟩ ⟨rfl, rfl⟩ ?_
  refine a_aload_n B dX7_room_5 rfl ?_
  refine a_iload_n B dX7_room_6 rfl ?_
  refine a_iconst (v := 1) B dX7_room_7 (by decide) ?_
  refine a_callV2r B rfl cf_X7_its lk_X7_54 in_X7_its se_X7_its (wl_rc (p0 := 0) (by decide) rfl rfl rfl) (m_its p 1 (20 + p) (by omega) (by decide) (by omega) _) dX7_room_8 (Nat.le_of_ble_eq_true rfl) ⟨Nat.le_of_ble_eq_true rfl, Nat.le_of_ble_eq_true rfl⟩ ⟨rfl, rfl⟩ ?_
  refine a_isub B dX7_room_11 ?_
  exact a_iret B hr hlk dX7_room_12 ⟨congrArg (fun z => some (Value.int z)) (rfl), rfl⟩
set_option maxRecDepth 20000 in
theorem m_swellsBy (p : Nat) (hp : p < 8) (sin words : Int32) (M : Mem) : CR l sk D cy A X mX7_swellsBy 1 [.ref (A 0), .int (nI p), .int sin, .int words] M (rI (swellF (M 0) p sin words) M) := by
  refine Con.of (lo := [some (.ref (A 0)), some (.int (nI p)), some (.int sin), some (.int words), none, none]) cf_X7_swellsBy (fun _ _ => wl_fst) 2 rfl (Nat.le_of_ble_eq_true rfl) (fun Pp Ee Ss Mm Aa Bb Me Cc A0 B hr hlk => ?_)
  have B : BS sk D cy (wl A cy 11 TM X) A0 Pp Ss Mm Aa Cc RX7 cX7_swellsBy 6 := B
  refine a_iload_n B dX7_swellsBy_0 rfl ?_
  refine a_aload_n B dX7_swellsBy_1 rfl ?_
  refine a_getR B fl_X7_7 (by decide) rfl rfl dX7_swellsBy_2 ?_
  refine a_iconst (v := 3) B dX7_swellsBy_5 (by decide) ?_
  refine a_iald 3 B (by decide) rfl rfl (by omega) (by decide) dX7_swellsBy_6 ?_
  refine a_isub B dX7_swellsBy_7 ?_
  refine a_iconst (v := 0) B dX7_swellsBy_8 (by decide) ?_
  refine a_bipush (v := 40) B dX7_swellsBy_9 (by decide) ?_
  refine a_callS3r B rfl cf_X7_held lk_X7_62 st_X7_held (m_held _ _ _ _) dX7_swellsBy_11 (Nat.le_of_ble_eq_true rfl) ⟨Nat.le_of_ble_eq_true rfl, Nat.le_of_ble_eq_true rfl⟩ ⟨rfl, rfl⟩ ?_
  refine p_istore4 B dX7_swellsBy_14 (by decide) (k := ?_)
  refine a_iload_n B dX7_swellsBy_16 rfl ?_
  refine a_iconst (v := 3) B dX7_swellsBy_17 (by decide) ?_
  refine a_icmp_ne 27 B dX7_swellsBy_18 (by decide) (fun c18 => ?_) (fun c18 => ?_)
  · refine a_iload_n B dX7_swellsBy_27 rfl ?_
    refine p_istore5 B dX7_swellsBy_28 (by decide) (k := ?_)
    refine a_aload_n B dX7_swellsBy_30 rfl ?_
    refine a_iload_n B dX7_swellsBy_31 rfl ?_
    refine a_iconst (v := 0) B dX7_swellsBy_32 (by decide) ?_
    refine a_callV2r B rfl cf_X7_its lk_X7_54 in_X7_its se_X7_its (wl_rc (p0 := 0) (by decide) rfl rfl rfl) (m_its p 0 (12 + p) (by omega) (by decide) (by omega) _) dX7_swellsBy_33 (Nat.le_of_ble_eq_true rfl) ⟨Nat.le_of_ble_eq_true rfl, Nat.le_of_ble_eq_true rfl⟩ ⟨rfl, rfl⟩ ?_
    by_cases s36_0 : M 0 (12 + p) = 1
    · refine a_tblIn 76 B dX7_swellsBy_36 (by rw [s36_0]; decide) (by rw [s36_0]; decide) (by rw [s36_0]; rfl) (by decide) ?_
      refine a_iload B dX7_swellsBy_76 rfl ?_
      exact a_iret B hr hlk dX7_swellsBy_78 ⟨congrArg (fun z => some (Value.int z)) (by simp [swellF, swellV, rmI, c18, s36_0]), rfl⟩
    by_cases s36_1 : M 0 (12 + p) = 2
    · refine a_tblIn 94 B dX7_swellsBy_36 (by rw [s36_1]; decide) (by rw [s36_1]; decide) (by rw [s36_1]; rfl) (by decide) ?_
      refine a_iload B dX7_swellsBy_94 rfl ?_
      exact a_iret B hr hlk dX7_swellsBy_96 ⟨congrArg (fun z => some (Value.int z)) (by simp [swellF, swellV, rmI, c18, s36_0, s36_1]), rfl⟩
    by_cases s36_2 : M 0 (12 + p) = 3
    · refine a_tblIn 79 B dX7_swellsBy_36 (by rw [s36_2]; decide) (by rw [s36_2]; decide) (by rw [s36_2]; rfl) (by decide) ?_
      refine a_iload B dX7_swellsBy_79 rfl ?_
      refine a_iload_n B dX7_swellsBy_81 rfl ?_
      refine a_iconst (v := 2) B dX7_swellsBy_82 (by decide) ?_
      refine a_irem B dX7_swellsBy_83 (by decide) ?_
      refine a_if_ne 91 B dX7_swellsBy_84 (by decide) (fun c84 => ?_) (fun c84 => ?_)
      · refine a_iconst (v := 0) B dX7_swellsBy_91 (by decide) ?_
        refine a_iadd B dX7_swellsBy_92 ?_
        exact a_iret B hr hlk dX7_swellsBy_93 ⟨congrArg (fun z => some (Value.int z)) (by simp [swellF, swellV, rmI, s36_0, s36_1, s36_2, c84]), rfl⟩
      refine a_iconst (v := 5) B dX7_swellsBy_87 (by decide) ?_
      refine a_goto 92 B dX7_swellsBy_88 (by decide) ?_
      refine a_iadd B dX7_swellsBy_92 ?_
      exact a_iret B hr hlk dX7_swellsBy_93 ⟨congrArg (fun z => some (Value.int z)) (by simp [swellF, swellV, rmI, s36_0, s36_1, s36_2, c84]), rfl⟩
    by_cases s36_3 : M 0 (12 + p) = 4
    · refine a_tblIn 79 B dX7_swellsBy_36 (by rw [s36_3]; decide) (by rw [s36_3]; decide) (by rw [s36_3]; rfl) (by decide) ?_
      refine a_iload B dX7_swellsBy_79 rfl ?_
      refine a_iload_n B dX7_swellsBy_81 rfl ?_
      refine a_iconst (v := 2) B dX7_swellsBy_82 (by decide) ?_
      refine a_irem B dX7_swellsBy_83 (by decide) ?_
      refine a_if_ne 91 B dX7_swellsBy_84 (by decide) (fun c84 => ?_) (fun c84 => ?_)
      · refine a_iconst (v := 0) B dX7_swellsBy_91 (by decide) ?_
        refine a_iadd B dX7_swellsBy_92 ?_
        exact a_iret B hr hlk dX7_swellsBy_93 ⟨congrArg (fun z => some (Value.int z)) (by simp [swellF, swellV, rmI, s36_0, s36_1, s36_2, s36_3, c84]), rfl⟩
      refine a_iconst (v := 5) B dX7_swellsBy_87 (by decide) ?_
      refine a_goto 92 B dX7_swellsBy_88 (by decide) ?_
      refine a_iadd B dX7_swellsBy_92 ?_
      exact a_iret B hr hlk dX7_swellsBy_93 ⟨congrArg (fun z => some (Value.int z)) (by simp [swellF, swellV, rmI, s36_0, s36_1, s36_2, s36_3, c84]), rfl⟩
    by_cases s36_4 : M 0 (12 + p) = 5
    · refine a_tblIn 102 B dX7_swellsBy_36 (by rw [s36_4]; decide) (by rw [s36_4]; decide) (by rw [s36_4]; rfl) (by decide) ?_
      refine a_iload_n B dX7_swellsBy_102 rfl ?_
      refine a_aload_n B dX7_swellsBy_103 rfl ?_
      refine a_iload_n B dX7_swellsBy_104 rfl ?_
      refine a_iconst (v := 3) B dX7_swellsBy_105 (by decide) ?_
      refine a_callV2r B rfl cf_X7_its lk_X7_54 in_X7_its se_X7_its (wl_rc (p0 := 0) (by decide) rfl rfl rfl) (m_its p 3 (36 + p) (by omega) (by decide) (by omega) _) dX7_swellsBy_106 (Nat.le_of_ble_eq_true rfl) ⟨Nat.le_of_ble_eq_true rfl, Nat.le_of_ble_eq_true rfl⟩ ⟨rfl, rfl⟩ ?_
      refine a_iload_n B dX7_swellsBy_109 rfl ?_
      refine a_ishr B dX7_swellsBy_110 ?_
      refine a_iconst (v := 1) B dX7_swellsBy_111 (by decide) ?_
      refine a_iand B dX7_swellsBy_112 ?_
      refine a_iconst (v := 1) B dX7_swellsBy_113 (by decide) ?_
      refine a_icmp_ne 122 B dX7_swellsBy_114 (by decide) (fun c114 => ?_) (fun c114 => ?_)
      · refine a_iconst (v := 0) B dX7_swellsBy_122 (by decide) ?_
        refine a_iadd B dX7_swellsBy_123 ?_
        exact a_iret B hr hlk dX7_swellsBy_124 ⟨congrArg (fun z => some (Value.int z)) (by simp [swellF, swellV, rmI, s36_0, s36_1, s36_2, s36_3, s36_4, c114]), rfl⟩
      refine a_bipush (v := 10) B dX7_swellsBy_117 (by decide) ?_
      refine a_goto 123 B dX7_swellsBy_119 (by decide) ?_
      refine a_iadd B dX7_swellsBy_123 ?_
      exact a_iret B hr hlk dX7_swellsBy_124 ⟨congrArg (fun z => some (Value.int z)) (by simp [swellF, swellV, rmI, s36_0, s36_1, s36_2, s36_3, s36_4, c114]), rfl⟩
    by_cases s36_5 : M 0 (12 + p) = 6
    · refine a_tblIn 97 B dX7_swellsBy_36 (by rw [s36_5]; decide) (by rw [s36_5]; decide) (by rw [s36_5]; rfl) (by decide) ?_
      refine a_iload B dX7_swellsBy_97 rfl ?_
      refine a_iconst (v := 2) B dX7_swellsBy_99 (by decide) ?_
      refine a_idiv B dX7_swellsBy_100 (by decide) ?_
      exact a_iret B hr hlk dX7_swellsBy_101 ⟨congrArg (fun z => some (Value.int z)) (by simp [swellF, swellV, rmI, c18, s36_0, s36_1, s36_2, s36_3, s36_4, s36_5]), rfl⟩
    refine a_tblOut 125 B dX7_swellsBy_36 (by have h0 := lv_neT s36_0 (show (1 : Int32).toInt = 1 by decide); have h1 := lv_neT s36_1 (show (2 : Int32).toInt = 2 by decide); have h2 := lv_neT s36_2 (show (3 : Int32).toInt = 3 by decide); have h3 := lv_neT s36_3 (show (4 : Int32).toInt = 4 by decide); have h4 := lv_neT s36_4 (show (5 : Int32).toInt = 5 by decide); have h5 := lv_neT s36_5 (show (6 : Int32).toInt = 6 by decide); omega) (by decide) ?_
    refine a_iload_n B dX7_swellsBy_125 rfl ?_
    exact a_iret B hr hlk dX7_swellsBy_126 ⟨congrArg (fun z => some (Value.int z)) (by simp [swellF, swellV, rmI, c18, s36_0, s36_1, s36_2, s36_3, s36_4, s36_5]), rfl⟩
  refine a_iload_n B dX7_swellsBy_21 rfl ?_
  refine a_iconst (v := 3) B dX7_swellsBy_22 (by decide) ?_
  refine a_idiv B dX7_swellsBy_23 (by decide) ?_
  refine a_goto 28 B dX7_swellsBy_24 (by decide) ?_
  refine p_istore5 B dX7_swellsBy_28 (by decide) (k := ?_)
  refine a_aload_n B dX7_swellsBy_30 rfl ?_
  refine a_iload_n B dX7_swellsBy_31 rfl ?_
  refine a_iconst (v := 0) B dX7_swellsBy_32 (by decide) ?_
  refine a_callV2r B rfl cf_X7_its lk_X7_54 in_X7_its se_X7_its (wl_rc (p0 := 0) (by decide) rfl rfl rfl) (m_its p 0 (12 + p) (by omega) (by decide) (by omega) _) dX7_swellsBy_33 (Nat.le_of_ble_eq_true rfl) ⟨Nat.le_of_ble_eq_true rfl, Nat.le_of_ble_eq_true rfl⟩ ⟨rfl, rfl⟩ ?_
  by_cases s36_0 : M 0 (12 + p) = 1
  · refine a_tblIn 76 B dX7_swellsBy_36 (by rw [s36_0]; decide) (by rw [s36_0]; decide) (by rw [s36_0]; rfl) (by decide) ?_
    refine a_iload B dX7_swellsBy_76 rfl ?_
    exact a_iret B hr hlk dX7_swellsBy_78 ⟨congrArg (fun z => some (Value.int z)) (by simp [swellF, swellV, rmI, c18, s36_0]), rfl⟩
  by_cases s36_1 : M 0 (12 + p) = 2
  · refine a_tblIn 94 B dX7_swellsBy_36 (by rw [s36_1]; decide) (by rw [s36_1]; decide) (by rw [s36_1]; rfl) (by decide) ?_
    refine a_iload B dX7_swellsBy_94 rfl ?_
    exact a_iret B hr hlk dX7_swellsBy_96 ⟨congrArg (fun z => some (Value.int z)) (by simp [swellF, swellV, rmI, c18, s36_0, s36_1]), rfl⟩
  by_cases s36_2 : M 0 (12 + p) = 3
  · refine a_tblIn 79 B dX7_swellsBy_36 (by rw [s36_2]; decide) (by rw [s36_2]; decide) (by rw [s36_2]; rfl) (by decide) ?_
    refine a_iload B dX7_swellsBy_79 rfl ?_
    refine a_iload_n B dX7_swellsBy_81 rfl ?_
    refine a_iconst (v := 2) B dX7_swellsBy_82 (by decide) ?_
    refine a_irem B dX7_swellsBy_83 (by decide) ?_
    refine a_if_ne 91 B dX7_swellsBy_84 (by decide) (fun c84 => ?_) (fun c84 => ?_)
    · refine a_iconst (v := 0) B dX7_swellsBy_91 (by decide) ?_
      refine a_iadd B dX7_swellsBy_92 ?_
      exact a_iret B hr hlk dX7_swellsBy_93 ⟨congrArg (fun z => some (Value.int z)) (by simp [swellF, swellV, rmI, s36_0, s36_1, s36_2, c84]), rfl⟩
    refine a_iconst (v := 5) B dX7_swellsBy_87 (by decide) ?_
    refine a_goto 92 B dX7_swellsBy_88 (by decide) ?_
    refine a_iadd B dX7_swellsBy_92 ?_
    exact a_iret B hr hlk dX7_swellsBy_93 ⟨congrArg (fun z => some (Value.int z)) (by simp [swellF, swellV, rmI, s36_0, s36_1, s36_2, c84]), rfl⟩
  by_cases s36_3 : M 0 (12 + p) = 4
  · refine a_tblIn 79 B dX7_swellsBy_36 (by rw [s36_3]; decide) (by rw [s36_3]; decide) (by rw [s36_3]; rfl) (by decide) ?_
    refine a_iload B dX7_swellsBy_79 rfl ?_
    refine a_iload_n B dX7_swellsBy_81 rfl ?_
    refine a_iconst (v := 2) B dX7_swellsBy_82 (by decide) ?_
    refine a_irem B dX7_swellsBy_83 (by decide) ?_
    refine a_if_ne 91 B dX7_swellsBy_84 (by decide) (fun c84 => ?_) (fun c84 => ?_)
    · refine a_iconst (v := 0) B dX7_swellsBy_91 (by decide) ?_
      refine a_iadd B dX7_swellsBy_92 ?_
      exact a_iret B hr hlk dX7_swellsBy_93 ⟨congrArg (fun z => some (Value.int z)) (by simp [swellF, swellV, rmI, s36_0, s36_1, s36_2, s36_3, c84]), rfl⟩
    refine a_iconst (v := 5) B dX7_swellsBy_87 (by decide) ?_
    refine a_goto 92 B dX7_swellsBy_88 (by decide) ?_
    refine a_iadd B dX7_swellsBy_92 ?_
    exact a_iret B hr hlk dX7_swellsBy_93 ⟨congrArg (fun z => some (Value.int z)) (by simp [swellF, swellV, rmI, s36_0, s36_1, s36_2, s36_3, c84]), rfl⟩
  by_cases s36_4 : M 0 (12 + p) = 5
  · refine a_tblIn 102 B dX7_swellsBy_36 (by rw [s36_4]; decide) (by rw [s36_4]; decide) (by rw [s36_4]; rfl) (by decide) ?_
    refine a_iload_n B dX7_swellsBy_102 rfl ?_
    refine a_aload_n B dX7_swellsBy_103 rfl ?_
    refine a_iload_n B dX7_swellsBy_104 rfl ?_
    refine a_iconst (v := 3) B dX7_swellsBy_105 (by decide) ?_
    refine a_callV2r B rfl cf_X7_its lk_X7_54 in_X7_its se_X7_its (wl_rc (p0 := 0) (by decide) rfl rfl rfl) (m_its p 3 (36 + p) (by omega) (by decide) (by omega) _) dX7_swellsBy_106 (Nat.le_of_ble_eq_true rfl) ⟨Nat.le_of_ble_eq_true rfl, Nat.le_of_ble_eq_true rfl⟩ ⟨rfl, rfl⟩ ?_
    refine a_iload_n B dX7_swellsBy_109 rfl ?_
    refine a_ishr B dX7_swellsBy_110 ?_
    refine a_iconst (v := 1) B dX7_swellsBy_111 (by decide) ?_
    refine a_iand B dX7_swellsBy_112 ?_
    refine a_iconst (v := 1) B dX7_swellsBy_113 (by decide) ?_
    refine a_icmp_ne 122 B dX7_swellsBy_114 (by decide) (fun c114 => ?_) (fun c114 => ?_)
    · refine a_iconst (v := 0) B dX7_swellsBy_122 (by decide) ?_
      refine a_iadd B dX7_swellsBy_123 ?_
      exact a_iret B hr hlk dX7_swellsBy_124 ⟨congrArg (fun z => some (Value.int z)) (by simp [swellF, swellV, rmI, s36_0, s36_1, s36_2, s36_3, s36_4, c114]), rfl⟩
    refine a_bipush (v := 10) B dX7_swellsBy_117 (by decide) ?_
    refine a_goto 123 B dX7_swellsBy_119 (by decide) ?_
    refine a_iadd B dX7_swellsBy_123 ?_
    exact a_iret B hr hlk dX7_swellsBy_124 ⟨congrArg (fun z => some (Value.int z)) (by simp [swellF, swellV, rmI, s36_0, s36_1, s36_2, s36_3, s36_4, c114]), rfl⟩
  by_cases s36_5 : M 0 (12 + p) = 6
  · refine a_tblIn 97 B dX7_swellsBy_36 (by rw [s36_5]; decide) (by rw [s36_5]; decide) (by rw [s36_5]; rfl) (by decide) ?_
    refine a_iload B dX7_swellsBy_97 rfl ?_
    refine a_iconst (v := 2) B dX7_swellsBy_99 (by decide) ?_
    refine a_idiv B dX7_swellsBy_100 (by decide) ?_
    exact a_iret B hr hlk dX7_swellsBy_101 ⟨congrArg (fun z => some (Value.int z)) (by simp [swellF, swellV, rmI, c18, s36_0, s36_1, s36_2, s36_3, s36_4, s36_5]), rfl⟩
  refine a_tblOut 125 B dX7_swellsBy_36 (by have h0 := lv_neT s36_0 (show (1 : Int32).toInt = 1 by decide); have h1 := lv_neT s36_1 (show (2 : Int32).toInt = 2 by decide); have h2 := lv_neT s36_2 (show (3 : Int32).toInt = 3 by decide); have h3 := lv_neT s36_3 (show (4 : Int32).toInt = 4 by decide); have h4 := lv_neT s36_4 (show (5 : Int32).toInt = 5 by decide); have h5 := lv_neT s36_5 (show (6 : Int32).toInt = 6 by decide); omega) (by decide) ?_
  refine a_iload_n B dX7_swellsBy_125 rfl ?_
  exact a_iret B hr hlk dX7_swellsBy_126 ⟨congrArg (fun z => some (Value.int z)) (by simp [swellF, swellV, rmI, c18, s36_0, s36_1, s36_2, s36_3, s36_4, s36_5]), rfl⟩
set_option maxRecDepth 20000 in
theorem m_digests (p : Nat) (hp : p < 8) (M : Mem) : CR l sk D cy A X mX7_digests 1 [.ref (A 0), .int (nI p)] M (rI (digF (M 0) p) M) := by
  refine Con.of (lo := [some (.ref (A 0)), some (.int (nI p))]) cf_X7_digests (fun _ _ => wl_fst) 0 rfl (Nat.le_of_ble_eq_true rfl) (fun Pp Ee Ss Mm Aa Bb Me Cc A0 B hr hlk => ?_)
  have B : BS sk D cy (wl A cy 11 TM X) A0 Pp Ss Mm Aa Cc RX7 cX7_digests 2 := B
  refine a_aload_n B dX7_digests_0 rfl ?_
  refine a_iload_n B dX7_digests_1 rfl ?_
  refine a_iconst (v := 0) B dX7_digests_2 (by decide) ?_
  refine a_callV2r B rfl cf_X7_its lk_X7_54 in_X7_its se_X7_its (wl_rc (p0 := 0) (by decide) rfl rfl rfl) (m_its p 0 (12 + p) (by omega) (by decide) (by omega) _) dX7_digests_3 (Nat.le_of_ble_eq_true rfl) ⟨Nat.le_of_ble_eq_true rfl, Nat.le_of_ble_eq_true rfl⟩ ⟨rfl, rfl⟩ ?_
  by_cases s6_0 : M 0 (12 + p) = 1
  · refine a_tblIn 44 B dX7_digests_6 (by rw [s6_0]; decide) (by rw [s6_0]; decide) (by rw [s6_0]; rfl) (by decide) ?_
    refine a_iconst (v := 5) B dX7_digests_44 (by decide) ?_
    refine a_aload_n B dX7_digests_45 rfl ?_
    refine a_getR B fl_X7_7 (by decide) rfl rfl dX7_digests_46 ?_
    refine a_iconst (v := 3) B dX7_digests_49 (by decide) ?_
    refine a_iald 3 B (by decide) rfl rfl (by omega) (by decide) dX7_digests_50 ?_
    refine a_iadd B dX7_digests_51 ?_
    exact a_iret B hr hlk dX7_digests_52 ⟨congrArg (fun z => some (Value.int z)) (by simp [digF, digV, rmI, s6_0]), rfl⟩
  by_cases s6_1 : M 0 (12 + p) = 2
  · refine a_tblIn 64 B dX7_digests_6 (by rw [s6_1]; decide) (by rw [s6_1]; decide) (by rw [s6_1]; rfl) (by decide) ?_
    refine a_bipush (v := 8) B dX7_digests_64 (by decide) ?_
    exact a_iret B hr hlk dX7_digests_66 ⟨congrArg (fun z => some (Value.int z)) (by simp [digF, digV, rmI, s6_0, s6_1]), rfl⟩
  by_cases s6_2 : M 0 (12 + p) = 3
  · refine a_tblIn 53 B dX7_digests_6 (by rw [s6_2]; decide) (by rw [s6_2]; decide) (by rw [s6_2]; rfl) (by decide) ?_
    refine a_iconst (v := 2) B dX7_digests_53 (by decide) ?_
    refine a_aload_n B dX7_digests_54 rfl ?_
    refine a_getR B fl_X7_7 (by decide) rfl rfl dX7_digests_55 ?_
    refine a_iconst (v := 3) B dX7_digests_58 (by decide) ?_
    refine a_iald 3 B (by decide) rfl rfl (by omega) (by decide) dX7_digests_59 ?_
    refine a_iadd B dX7_digests_60 ?_
    exact a_iret B hr hlk dX7_digests_61 ⟨congrArg (fun z => some (Value.int z)) (by simp [digF, digV, rmI, s6_0, s6_1, s6_2]), rfl⟩
  by_cases s6_3 : M 0 (12 + p) = 4
  · refine a_tblIn 62 B dX7_digests_6 (by rw [s6_3]; decide) (by rw [s6_3]; decide) (by rw [s6_3]; rfl) (by decide) ?_
    refine a_iconst (v := 1) B dX7_digests_62 (by decide) ?_
    exact a_iret B hr hlk dX7_digests_63 ⟨congrArg (fun z => some (Value.int z)) (by simp [digF, digV, rmI, s6_0, s6_1, s6_2, s6_3]), rfl⟩
  by_cases s6_4 : M 0 (12 + p) = 5
  · refine a_tblIn 70 B dX7_digests_6 (by rw [s6_4]; decide) (by rw [s6_4]; decide) (by rw [s6_4]; rfl) (by decide) ?_
    refine a_aload_n B dX7_digests_70 rfl ?_
    refine a_getR B fl_X7_7 (by decide) rfl rfl dX7_digests_71 ?_
    refine a_iconst (v := 1) B dX7_digests_74 (by decide) ?_
    refine a_iald 1 B (by decide) rfl rfl (by omega) (by decide) dX7_digests_75 ?_
    refine a_bipush (v := 7) B dX7_digests_76 (by decide) ?_
    refine a_irem B dX7_digests_78 (by decide) ?_
    refine a_bipush (v := 6) B dX7_digests_79 (by decide) ?_
    refine a_icmp_ne 88 B dX7_digests_81 (by decide) (fun c81 => ?_) (fun c81 => ?_)
    · refine a_iconst (v := 5) B dX7_digests_88 (by decide) ?_
      exact a_iret B hr hlk dX7_digests_89 ⟨congrArg (fun z => some (Value.int z)) (by simp [digF, digV, rmI, s6_0, s6_1, s6_2, s6_3, s6_4, c81]), rfl⟩
    refine a_iconst (v := 0) B dX7_digests_84 (by decide) ?_
    refine a_goto 89 B dX7_digests_85 (by decide) ?_
    exact a_iret B hr hlk dX7_digests_89 ⟨congrArg (fun z => some (Value.int z)) (by simp [digF, digV, rmI, s6_0, s6_1, s6_2, s6_3, s6_4, c81]), rfl⟩
  by_cases s6_5 : M 0 (12 + p) = 6
  · refine a_tblIn 67 B dX7_digests_6 (by rw [s6_5]; decide) (by rw [s6_5]; decide) (by rw [s6_5]; rfl) (by decide) ?_
    refine a_bipush (v := 16) B dX7_digests_67 (by decide) ?_
    exact a_iret B hr hlk dX7_digests_69 ⟨congrArg (fun z => some (Value.int z)) (by simp [digF, digV, rmI, s6_0, s6_1, s6_2, s6_3, s6_4, s6_5]), rfl⟩
  refine a_tblOut 90 B dX7_digests_6 (by have h0 := lv_neT s6_0 (show (1 : Int32).toInt = 1 by decide); have h1 := lv_neT s6_1 (show (2 : Int32).toInt = 2 by decide); have h2 := lv_neT s6_2 (show (3 : Int32).toInt = 3 by decide); have h3 := lv_neT s6_3 (show (4 : Int32).toInt = 4 by decide); have h4 := lv_neT s6_4 (show (5 : Int32).toInt = 5 by decide); have h5 := lv_neT s6_5 (show (6 : Int32).toInt = 6 by decide); omega) (by decide) ?_
  refine a_iconst (v := 5) B dX7_digests_90 (by decide) ?_
  exact a_iret B hr hlk dX7_digests_91 ⟨congrArg (fun z => some (Value.int z)) (by simp [digF, digV, rmI, s6_0, s6_1, s6_2, s6_3, s6_4, s6_5]), rfl⟩
set_option maxRecDepth 20000 in
theorem m_keeps (p : Nat) (hp : p < 8) (M : Mem) : CR l sk D cy A X mX7_keeps 1 [.ref (A 0), .int (nI p)] M (rI (bI (keepF (M 0) p)) M) := by
  refine Con.of (lo := [some (.ref (A 0)), some (.int (nI p)), none]) cf_X7_keeps (fun _ _ => wl_fst) 1 rfl (Nat.le_of_ble_eq_true rfl) (fun Pp Ee Ss Mm Aa Bb Me Cc A0 B hr hlk => ?_)
  have B : BS sk D cy (wl A cy 11 TM X) A0 Pp Ss Mm Aa Cc RX7 cX7_keeps 3 := B
  refine a_aload_n B dX7_keeps_0 rfl ?_
  refine a_iload_n B dX7_keeps_1 rfl ?_
  refine a_iconst (v := 0) B dX7_keeps_2 (by decide) ?_
  refine a_callV2r B rfl cf_X7_its lk_X7_54 in_X7_its se_X7_its (wl_rc (p0 := 0) (by decide) rfl rfl rfl) (m_its p 0 (12 + p) (by omega) (by decide) (by omega) _) dX7_keeps_3 (Nat.le_of_ble_eq_true rfl) ⟨Nat.le_of_ble_eq_true rfl, Nat.le_of_ble_eq_true rfl⟩ ⟨rfl, rfl⟩ ?_
  refine p_istore2 B dX7_keeps_6 (by decide) (k := ?_)
  refine a_iload_n B dX7_keeps_7 rfl ?_
  refine a_iconst (v := 4) B dX7_keeps_8 (by decide) ?_
  refine a_icmp_eq 30 B dX7_keeps_9 (by decide) (fun c9 => ?_) (fun c9 => ?_)
  · refine a_iconst (v := 1) B dX7_keeps_30 (by decide) ?_
    refine a_goto 35 B dX7_keeps_31 (by decide) ?_
    exact a_zret B hr hlk (rfl) dX7_keeps_35 ⟨congrArg (fun z => some (Value.int z)) (by simp [keepF, keepV, bI, c9]), rfl⟩
  refine a_iload_n B dX7_keeps_12 rfl ?_
  refine a_iconst (v := 5) B dX7_keeps_13 (by decide) ?_
  refine a_icmp_ne 34 B dX7_keeps_14 (by decide) (fun c14 => ?_) (fun c14 => ?_)
  · refine a_iconst (v := 0) B dX7_keeps_34 (by decide) ?_
    exact a_zret B hr hlk (rfl) dX7_keeps_35 ⟨congrArg (fun z => some (Value.int z)) (by simp [keepF, keepV, bI, c9, c14]), rfl⟩
  refine a_aload_n B dX7_keeps_17 rfl ?_
  refine a_iload_n B dX7_keeps_18 rfl ?_
  refine a_iconst (v := 3) B dX7_keeps_19 (by decide) ?_
  refine a_callV2r B rfl cf_X7_its lk_X7_54 in_X7_its se_X7_its (wl_rc (p0 := 0) (by decide) rfl rfl rfl) (m_its p 3 (36 + p) (by omega) (by decide) (by omega) _) dX7_keeps_20 (Nat.le_of_ble_eq_true rfl) ⟨Nat.le_of_ble_eq_true rfl, Nat.le_of_ble_eq_true rfl⟩ ⟨rfl, rfl⟩ ?_
  refine a_callS1r B rfl cf_X7_ones lk_X7_58 st_X7_ones (m_ones _ _) dX7_keeps_23 (Nat.le_of_ble_eq_true rfl) ⟨Nat.le_of_ble_eq_true rfl, Nat.le_of_ble_eq_true rfl⟩ ⟨rfl, rfl⟩ ?_
  refine a_iconst (v := 4) B dX7_keeps_26 (by decide) ?_
  refine a_icmp_ge 34 B dX7_keeps_27 (by decide) (fun c27 => ?_) (fun c27 => ?_)
  · refine a_iconst (v := 0) B dX7_keeps_34 (by decide) ?_
    exact a_zret B hr hlk (rfl) dX7_keeps_35 ⟨congrArg (fun z => some (Value.int z)) (by simp [keepF, keepV, bI, c9, c14, c27]), rfl⟩
  refine a_iconst (v := 1) B dX7_keeps_30 (by decide) ?_
  refine a_goto 35 B dX7_keeps_31 (by decide) ?_
  exact a_zret B hr hlk (rfl) dX7_keeps_35 ⟨congrArg (fun z => some (Value.int z)) (by simp [keepF, keepV, bI, c9, c14, c27]), rfl⟩
set_option maxRecDepth 20000 in
set_option maxHeartbeats 4000000 in
theorem m_roomiest (sin wo : Int32) (M : Mem) (hI : Inv (M 0)) : CR l sk D cy A X mX7_roomiest 3 [.ref (A 0), .int sin, .int wo] M (rI (oI (bestF (M 0) (roP (M 0) sin wo) (nOf (M 0)))) M) := by
  refine Con.of (lo := [some (.ref (A 0)), some (.int sin), some (.int wo), none, none]) cf_X7_roomiest (fun _ _ => wl_fst) 2 rfl (Nat.le_of_ble_eq_true rfl) (fun Pp Ee Ss Mm Aa Bb Me Cc A0 B hr hlk => ?_)
  have B : BS sk D cy (wl A cy 11 TM X) A0 Pp Ss Mm Aa Cc RX7 cX7_roomiest 5 := B
  obtain ⟨N, hN, eN, eNo⟩ := hI.n
  have loop : ∀ n k v, N + 1 ≤ k + n → k ≤ N → v = oI (bestF (M 0) (roP (M 0) sin wo) k) → AW Pp l Ee (rmK 3 (34 * 3)) Ss Mm Aa Bb Me Cc D (wl A cy 11 TM X) A0 5 0 0 (MQ Bb (QG D (wl A cy 11 TM X) A0 (rI (oI (bestF (M 0) (roP (M 0) sin wo) (nOf (M 0)))) M)) Aa Ss 0 0 A0) 5 [some (.ref (A 0)), some (.int sin), some (.int wo), some (.int v), some (.int (nI k))] [] (M) := by
    intro n
    induction n with
    | zero => intro k v h1 h2; omega
    | succ n ih =>
      intro k v h1 h2 h3
      refine a_iload B dX7_roomiest_5 rfl ?_
      refine a_aload_n B dX7_roomiest_7 rfl ?_
      refine a_getR B fl_X7_7 (by decide) rfl rfl dX7_roomiest_8 ?_
      refine a_iconst (v := 0) B dX7_roomiest_11 (by decide) ?_
      refine a_iald 0 B (by decide) rfl rfl (by omega) (by decide) dX7_roomiest_12 ?_
      rw [show M 0 (0 + 0) = nI N from eN]
      refine a_icmp_ge 72 B dX7_roomiest_13 (by decide) (fun c13 => ?_) (fun c13 => ?_)
      · have e1 : k = N := by have := ge_n (b := N) c13 rfl rfl (by omega) (by omega); omega
        subst e1
        refine a_iload_n B dX7_roomiest_72 rfl ?_
        exact a_iret B hr hlk dX7_roomiest_73 ⟨by rw [h3, eNo], rfl⟩
      have hlt0 := lt_n (b := N) c13 rfl rfl (by omega) (by omega)
      refine a_iload B dX7_roomiest_16 rfl ?_
      refine a_iload_n B dX7_roomiest_18 rfl ?_
      refine a_icmp_eq 66 B dX7_roomiest_19 (by decide) (fun c19 => ?_) (fun c19 => ?_)
      · refine p_iinc4 1 B dX7_roomiest_66 (by decide) (by decide) (k := ?_)
        refine a_goto 5 B dX7_roomiest_69 (by decide) ?_
        rw [nI_1]
        exact ih (k + 1) _ (by omega) (by omega) (by rw [best_n0 (show roP (M 0) sin wo k = false by unfold roP; rw [decide_eq_true c19]; rfl)]; exact h3)
      refine a_iload_n B dX7_roomiest_22 rfl ?_
      refine a_if_lt 41 B dX7_roomiest_23 (by decide) (fun c23 => ?_) (fun c23 => ?_)
      · rcases hb : bestF (M 0) (roP (M 0) sin wo) k with _ | b
        · have hv : v = -1 := by rw [h3, hb]; rfl
          subst hv
          refine a_iload_n B dX7_roomiest_41 rfl ?_
          refine a_if_lt 59 B dX7_roomiest_42 (by decide) (fun c42 => ?_) (fun c42 => ?_)
          · refine a_iload B dX7_roomiest_59 rfl ?_
            refine a_goto 65 B dX7_roomiest_61 (by decide) ?_
            refine p_istore3 B dX7_roomiest_65 (by decide) (k := ?_)
            refine p_iinc4 1 B dX7_roomiest_66 (by decide) (by decide) (k := ?_)
            refine a_goto 5 B dX7_roomiest_69 (by decide) ?_
            rw [nI_1]
            exact ih (k + 1) _ (by omega) (by omega) (by rw [best_n1 hb (show roP (M 0) sin wo k = true by unfold roP takB; rw [decide_eq_false c19, decide_eq_true c23]; rfl)]; rfl)
          exact absurd (show (-1 : Int32) < 0 by decide) (Int32.not_lt.mpr (Int32.not_lt.mp c42))
        · have hbk := best_lt _ _ _ _ hb
          have hv : v = nI b := by rw [h3, hb]; rfl
          subst hv
          refine a_iload_n B dX7_roomiest_41 rfl ?_
          refine a_if_lt 59 B dX7_roomiest_42 (by decide) (fun c42 => ?_) (fun c42 => ?_)
          · exact absurd c42 (nI_pos (by omega))
          refine a_aload_n B dX7_roomiest_45 rfl ?_
          refine a_iload B dX7_roomiest_46 rfl ?_
          refine a_callV1r B rfl cf_X7_room lk_X7_69 in_X7_room se_X7_room (wl_rc (p0 := 0) (by decide) rfl rfl rfl) (m_room k (by omega) _) dX7_roomiest_48 (Nat.le_of_ble_eq_true rfl) ⟨Nat.le_of_ble_eq_true rfl, Nat.le_of_ble_eq_true rfl⟩ ⟨rfl, rfl⟩ ?_
          refine a_aload_n B dX7_roomiest_51 rfl ?_
          refine a_iload_n B dX7_roomiest_52 rfl ?_
          refine a_callV1r B rfl cf_X7_room lk_X7_69 in_X7_room se_X7_room (wl_rc (p0 := 0) (by decide) rfl rfl rfl) (m_room b (by omega) _) dX7_roomiest_53 (Nat.le_of_ble_eq_true rfl) ⟨Nat.le_of_ble_eq_true rfl, Nat.le_of_ble_eq_true rfl⟩ ⟨rfl, rfl⟩ ?_
          refine a_icmp_le 64 B dX7_roomiest_56 (by decide) (fun c56 => ?_) (fun c56 => ?_)
          · refine a_iload_n B dX7_roomiest_64 rfl ?_
            refine p_istore3 B dX7_roomiest_65 (by decide) (k := ?_)
            refine p_iinc4 1 B dX7_roomiest_66 (by decide) (by decide) (k := ?_)
            refine a_goto 5 B dX7_roomiest_69 (by decide) ?_
            rw [nI_1]
            exact ih (k + 1) _ (by omega) (by omega) (by rw [best_n3 hb (show roP (M 0) sin wo k = true by unfold roP takB; rw [decide_eq_false c19, decide_eq_true c23]; rfl) (Int32.not_lt.mpr c56)]; rfl)
          refine a_iload B dX7_roomiest_59 rfl ?_
          refine a_goto 65 B dX7_roomiest_61 (by decide) ?_
          refine p_istore3 B dX7_roomiest_65 (by decide) (k := ?_)
          refine p_iinc4 1 B dX7_roomiest_66 (by decide) (by decide) (k := ?_)
          refine a_goto 5 B dX7_roomiest_69 (by decide) ?_
          rw [nI_1]
          exact ih (k + 1) _ (by omega) (by omega) (by rw [best_n2 hb (show roP (M 0) sin wo k = true by unfold roP takB; rw [decide_eq_false c19, decide_eq_true c23]; rfl) (Int32.not_le.mp c56)]; rfl)
      refine a_aload_n B dX7_roomiest_26 rfl ?_
      refine a_iload B dX7_roomiest_27 rfl ?_
      refine a_iconst (v := 2) B dX7_roomiest_29 (by decide) ?_
      refine a_callV2r B rfl cf_X7_its lk_X7_54 in_X7_its se_X7_its (wl_rc (p0 := 0) (by decide) rfl rfl rfl) (m_its k 2 (28 + k) (by omega) (by decide) (by omega) _) dX7_roomiest_30 (Nat.le_of_ble_eq_true rfl) ⟨Nat.le_of_ble_eq_true rfl, Nat.le_of_ble_eq_true rfl⟩ ⟨rfl, rfl⟩ ?_
      refine a_iload_n B dX7_roomiest_33 rfl ?_
      refine a_ishr B dX7_roomiest_34 ?_
      refine a_iconst (v := 1) B dX7_roomiest_35 (by decide) ?_
      refine a_iand B dX7_roomiest_36 ?_
      refine a_iconst (v := 1) B dX7_roomiest_37 (by decide) ?_
      refine a_icmp_ne 66 B dX7_roomiest_38 (by decide) (fun c38 => ?_) (fun c38 => ?_)
      · refine p_iinc4 1 B dX7_roomiest_66 (by decide) (by decide) (k := ?_)
        refine a_goto 5 B dX7_roomiest_69 (by decide) ?_
        rw [nI_1]
        exact ih (k + 1) _ (by omega) (by omega) (by rw [best_n0 (show roP (M 0) sin wo k = false by unfold roP takB; rw [decide_eq_false (fun q => absurd q (Int32.not_lt.mpr (Int32.not_lt.mp c23))), decide_eq_false c38, Bool.or_false, Bool.and_false])]; exact h3)
      rcases hb : bestF (M 0) (roP (M 0) sin wo) k with _ | b
      · have hv : v = -1 := by rw [h3, hb]; rfl
        subst hv
        refine a_iload_n B dX7_roomiest_41 rfl ?_
        refine a_if_lt 59 B dX7_roomiest_42 (by decide) (fun c42 => ?_) (fun c42 => ?_)
        · refine a_iload B dX7_roomiest_59 rfl ?_
          refine a_goto 65 B dX7_roomiest_61 (by decide) ?_
          refine p_istore3 B dX7_roomiest_65 (by decide) (k := ?_)
          refine p_iinc4 1 B dX7_roomiest_66 (by decide) (by decide) (k := ?_)
          refine a_goto 5 B dX7_roomiest_69 (by decide) ?_
          rw [nI_1]
          exact ih (k + 1) _ (by omega) (by omega) (by rw [best_n1 hb (show roP (M 0) sin wo k = true by unfold roP takB; rw [decide_eq_false c19, decide_eq_true c38, Bool.or_true]; rfl)]; rfl)
        exact absurd (show (-1 : Int32) < 0 by decide) (Int32.not_lt.mpr (Int32.not_lt.mp c42))
      · have hbk := best_lt _ _ _ _ hb
        have hv : v = nI b := by rw [h3, hb]; rfl
        subst hv
        refine a_iload_n B dX7_roomiest_41 rfl ?_
        refine a_if_lt 59 B dX7_roomiest_42 (by decide) (fun c42 => ?_) (fun c42 => ?_)
        · exact absurd c42 (nI_pos (by omega))
        refine a_aload_n B dX7_roomiest_45 rfl ?_
        refine a_iload B dX7_roomiest_46 rfl ?_
        refine a_callV1r B rfl cf_X7_room lk_X7_69 in_X7_room se_X7_room (wl_rc (p0 := 0) (by decide) rfl rfl rfl) (m_room k (by omega) _) dX7_roomiest_48 (Nat.le_of_ble_eq_true rfl) ⟨Nat.le_of_ble_eq_true rfl, Nat.le_of_ble_eq_true rfl⟩ ⟨rfl, rfl⟩ ?_
        refine a_aload_n B dX7_roomiest_51 rfl ?_
        refine a_iload_n B dX7_roomiest_52 rfl ?_
        refine a_callV1r B rfl cf_X7_room lk_X7_69 in_X7_room se_X7_room (wl_rc (p0 := 0) (by decide) rfl rfl rfl) (m_room b (by omega) _) dX7_roomiest_53 (Nat.le_of_ble_eq_true rfl) ⟨Nat.le_of_ble_eq_true rfl, Nat.le_of_ble_eq_true rfl⟩ ⟨rfl, rfl⟩ ?_
        refine a_icmp_le 64 B dX7_roomiest_56 (by decide) (fun c56 => ?_) (fun c56 => ?_)
        · refine a_iload_n B dX7_roomiest_64 rfl ?_
          refine p_istore3 B dX7_roomiest_65 (by decide) (k := ?_)
          refine p_iinc4 1 B dX7_roomiest_66 (by decide) (by decide) (k := ?_)
          refine a_goto 5 B dX7_roomiest_69 (by decide) ?_
          rw [nI_1]
          exact ih (k + 1) _ (by omega) (by omega) (by rw [best_n3 hb (show roP (M 0) sin wo k = true by unfold roP takB; rw [decide_eq_false c19, decide_eq_true c38, Bool.or_true]; rfl) (Int32.not_lt.mpr c56)]; rfl)
        refine a_iload B dX7_roomiest_59 rfl ?_
        refine a_goto 65 B dX7_roomiest_61 (by decide) ?_
        refine p_istore3 B dX7_roomiest_65 (by decide) (k := ?_)
        refine p_iinc4 1 B dX7_roomiest_66 (by decide) (by decide) (k := ?_)
        refine a_goto 5 B dX7_roomiest_69 (by decide) ?_
        rw [nI_1]
        exact ih (k + 1) _ (by omega) (by omega) (by rw [best_n2 hb (show roP (M 0) sin wo k = true by unfold roP takB; rw [decide_eq_false c19, decide_eq_true c38, Bool.or_true]; rfl) (Int32.not_le.mp c56)]; rfl)
  refine a_iconst (v := (-1)) B dX7_roomiest_0 (by decide) ?_
  refine p_istore3 B dX7_roomiest_1 (by decide) (k := ?_)
  refine a_iconst (v := 0) B dX7_roomiest_2 (by decide) ?_
  refine p_istore4 B dX7_roomiest_3 (by decide) (k := ?_)
  exact loop (N + 1) 0 _ (by omega) (by omega) rfl
theorem ro_tak {d : Dm} {sin : Int32} (hs : ¬ sin < 0) : ∀ n, n ≤ 8 → bestF d (roP d sin (-1)) n = bestF d (takB d sin) n := fun n hn => best_cong n (fun k hk => by
  unfold roP
  rw [decide_eq_false (fun q : nI k = -1 => nI_pos (n := k) (by omega) (by rw [q]; decide)), decide_eq_false hs]
  rfl)
theorem ro_ne {d : Dm} {sin : Int32} (hs : sin < 0) {dead : Nat} (hd : dead < 8) : ∀ n, n ≤ 8 → bestF d (roP d sin (nI dead)) n = bestF d (neB dead) n := fun n hn => best_cong n (fun k hk => by
  unfold roP neB
  rw [decide_eq_true hs, Bool.true_or, Bool.and_true]
  by_cases h : k = dead
  · subst h; simp
  · have h2 : ¬ nI k = nI dead := fun q => h (nI_inj (by omega) (by omega) q)
    simp [h, h2])
set_option maxRecDepth 20000 in
theorem m_todays (M : Mem) (hI : Inv (M 0)) : CR l sk D cy A X mX7_todays 0 [.ref (A 0)] M (rI (nI (6 + todN (M 0))) M) := by
  refine Con.of (lo := [some (.ref (A 0))]) cf_X7_todays (fun _ _ => wl_fst) 0 rfl (Nat.le_of_ble_eq_true rfl) (fun Pp Ee Ss Mm Aa Bb Me Cc A0 B hr hlk => ?_)
  have B : BS sk D cy (wl A cy 11 TM X) A0 Pp Ss Mm Aa Cc RX7 cX7_todays 1 := B
  obtain ⟨h6, he6⟩ := hI.tod
  refine a_bipush (v := 6) B dX7_todays_0 (by decide) ?_
  refine a_aload_n B dX7_todays_2 rfl ?_
  refine a_getR B fl_X7_7 (by decide) rfl rfl dX7_todays_3 ?_
  refine a_iconst (v := 1) B dX7_todays_6 (by decide) ?_
  refine a_iald 1 B (by decide) rfl rfl (by omega) (by decide) dX7_todays_7 ?_
  refine a_bipush (v := 6) B dX7_todays_8 (by decide) ?_
  refine a_irem B dX7_todays_10 (by decide) ?_
  refine a_iadd B dX7_todays_11 ?_
  exact a_iret B hr hlk dX7_todays_12 ⟨congrArg (fun z => some (Value.int z)) (by rw [← nI_add, ← he6]; rfl), rfl⟩
set_option maxRecDepth 20000 in
theorem m_confesses (cf : Int32) (M : Mem) (hI : Inv (M 0)) (hc : ¬ cf / 100 < 0) : CR l sk D cy A X mX7_confesses 4 [.ref (A 0), .int cf] M (rV (stB M 0 (confF (M 0) cf))) := by
  refine Con.of (lo := [some (.ref (A 0)), some (.int cf), none, none, none]) cf_X7_confesses (fun _ _ => wl_fst) 3 rfl (Nat.le_of_ble_eq_true rfl) (fun Pp Ee Ss Mm Aa Bb Me Cc A0 B hr hlk => ?_)
  have B : BS sk D cy (wl A cy 11 TM X) A0 Pp Ss Mm Aa Cc RX7 cX7_confesses 5 := B
  obtain ⟨N, hN, eN, eNo⟩ := hI.n
  refine a_iload_n B dX7_confesses_0 rfl ?_
  refine a_bipush (v := 100) B dX7_confesses_1 (by decide) ?_
  refine a_idiv B dX7_confesses_3 (by decide) ?_
  refine p_istore2 B dX7_confesses_4 (by decide) (k := ?_)
  refine a_iload_n B dX7_confesses_5 rfl ?_
  refine a_bipush (v := 100) B dX7_confesses_6 (by decide) ?_
  refine a_irem B dX7_confesses_8 (by decide) ?_
  refine p_istore3 B dX7_confesses_9 (by decide) (k := ?_)
  refine a_iload_n B dX7_confesses_10 rfl ?_
  refine a_if_ne 15 B dX7_confesses_11 (by decide) (fun c11 => ?_) (fun c11 => ?_)
  · refine a_aload_n B dX7_confesses_15 rfl ?_
    refine a_iload_n B dX7_confesses_16 rfl ?_
    refine a_iconst (v := (-1)) B dX7_confesses_17 (by decide) ?_
    refine a_callV2r B rfl cf_X7_roomiest lk_X7_72 in_X7_roomiest se_X7_roomiest (wl_rc (p0 := 0) (by decide) rfl rfl rfl) (m_roomiest _ _ _ hI) dX7_confesses_18 (Nat.le_of_ble_eq_true rfl) ⟨Nat.le_of_ble_eq_true rfl, Nat.le_of_ble_eq_true rfl⟩ ⟨rfl, rfl⟩ ?_
    rw [ro_tak hc _ (by omega)]
    refine p_istore4 B dX7_confesses_21 (by decide) (k := ?_)
    rcases hb : bestF (M 0) (takB (M 0) (cf / 100)) (nOf (M 0)) with _ | p
    · rw [oI_n]
      refine a_iload B dX7_confesses_23 rfl ?_
      refine a_if_ge 49 B dX7_confesses_25 (by decide) (fun c25 => ?_) (fun c25 => ?_)
      · exact absurd c25 (by decide)
      refine a_aload_n B dX7_confesses_28 rfl ?_
      refine a_getR B fl_X7_7 (by decide) rfl rfl dX7_confesses_29 ?_
      refine a_iconst (v := 5) B dX7_confesses_32 (by decide) ?_
      refine a_aload_n B dX7_confesses_33 rfl ?_
      refine a_getR B fl_X7_7 (by decide) rfl rfl dX7_confesses_34 ?_
      refine a_iconst (v := 5) B dX7_confesses_37 (by decide) ?_
      refine a_iald 5 B (by decide) rfl rfl (by omega) (by decide) dX7_confesses_38 ?_
      refine a_iconst (v := 1) B dX7_confesses_39 (by decide) ?_
      refine a_iadd B dX7_confesses_40 ?_
      refine a_iconst (v := 0) B dX7_confesses_41 (by decide) ?_
      refine a_ldc B dX7_confesses_42 kc_X7_75 ?_
      refine a_callS3r B rfl cf_X7_held lk_X7_62 st_X7_held (m_held _ _ _ _) dX7_confesses_44 (Nat.le_of_ble_eq_true rfl) ⟨Nat.le_of_ble_eq_true rfl, Nat.le_of_ble_eq_true rfl⟩ ⟨rfl, rfl⟩ ?_
      refine a_iast 5 B twM (by decide) rfl rfl (by omega) (by decide) dX7_confesses_47 ?_
      exact a_vret B hr hlk dX7_confesses_48 ⟨rfl, by unfold confF; rw [if_neg (show ¬ rmI cf 100 = 0 from c11), hb, Nat.zero_add]; exact upB_st⟩
    · have hp : p < 8 := by have := best_lt _ _ _ _ hb; omega
      rw [oI_s]
      refine a_iload B dX7_confesses_23 rfl ?_
      refine a_if_ge 49 B dX7_confesses_25 (by decide) (fun c25 => ?_) (fun c25 => ?_)
      · refine a_aload_n B dX7_confesses_49 rfl ?_
        refine a_iload B dX7_confesses_50 rfl ?_
        refine a_iconst (v := 1) B dX7_confesses_52 (by decide) ?_
        refine a_aload_n B dX7_confesses_53 rfl ?_
        refine a_iload B dX7_confesses_54 rfl ?_
        refine a_iconst (v := 1) B dX7_confesses_56 (by decide) ?_
        refine a_callV2r B rfl cf_X7_its lk_X7_54 in_X7_its se_X7_its (wl_rc (p0 := 0) (by decide) rfl rfl rfl) (m_its p 1 (20 + p) (by omega) (by decide) (by omega) _) dX7_confesses_57 (Nat.le_of_ble_eq_true rfl) ⟨Nat.le_of_ble_eq_true rfl, Nat.le_of_ble_eq_true rfl⟩ ⟨rfl, rfl⟩ ?_
        refine a_aload_n B dX7_confesses_60 rfl ?_
        refine a_iload B dX7_confesses_61 rfl ?_
        refine a_iload_n B dX7_confesses_63 rfl ?_
        refine a_iload_n B dX7_confesses_64 rfl ?_
        refine a_callV3r B rfl cf_X7_swellsBy lk_X7_76 in_X7_swellsBy se_X7_swellsBy (wl_rc (p0 := 0) (by decide) rfl rfl rfl) (m_swellsBy p hp _ _ _) dX7_confesses_65 (Nat.le_of_ble_eq_true rfl) ⟨Nat.le_of_ble_eq_true rfl, Nat.le_of_ble_eq_true rfl⟩ ⟨rfl, rfl⟩ ?_
        refine a_iadd B dX7_confesses_68 ?_
        refine a_iconst (v := 0) B dX7_confesses_69 (by decide) ?_
        refine a_sipush (v := 999) B dX7_confesses_70 (by decide) ?_
        refine a_callS3r B rfl cf_X7_held lk_X7_62 st_X7_held (m_held _ _ _ _) dX7_confesses_73 (Nat.le_of_ble_eq_true rfl) ⟨Nat.le_of_ble_eq_true rfl, Nat.le_of_ble_eq_true rfl⟩ ⟨rfl, rfl⟩ ?_
        refine a_callV3v B rfl cf_X7_sets lk_X7_79 in_X7_sets se_X7_sets (wl_rc (p0 := 0) (by decide) rfl rfl rfl) (m_sets p 1 (20 + p) (by omega) (by decide) (by omega) _ _) dX7_confesses_76 (Nat.le_of_ble_eq_true rfl) ⟨Nat.le_of_ble_eq_true rfl, Nat.le_of_ble_eq_true rfl⟩ ⟨rfl, rfl⟩ ?_
        refine a_aload_n B dX7_confesses_79 rfl ?_
        refine a_iload B dX7_confesses_80 rfl ?_
        refine a_iconst (v := 3) B dX7_confesses_82 (by decide) ?_
        refine a_aload_n B dX7_confesses_83 rfl ?_
        refine a_iload B dX7_confesses_84 rfl ?_
        refine a_iconst (v := 3) B dX7_confesses_86 (by decide) ?_
        refine a_callV2r B rfl cf_X7_its lk_X7_54 in_X7_its se_X7_its (wl_rc (p0 := 0) (by decide) rfl rfl rfl) (m_its p 3 (36 + p) (by omega) (by decide) (by omega) _) dX7_confesses_87 (Nat.le_of_ble_eq_true rfl) ⟨Nat.le_of_ble_eq_true rfl, Nat.le_of_ble_eq_true rfl⟩ ⟨rfl, rfl⟩ ?_
        refine a_iconst (v := 1) B dX7_confesses_90 (by decide) ?_
        refine a_iload_n B dX7_confesses_91 rfl ?_
        refine a_ishl B dX7_confesses_92 ?_
        refine a_ior B dX7_confesses_93 ?_
        refine a_callV3v B rfl cf_X7_sets lk_X7_79 in_X7_sets se_X7_sets (wl_rc (p0 := 0) (by decide) rfl rfl rfl) (m_sets p 3 (36 + p) (by omega) (by decide) (by omega) _ _) dX7_confesses_94 (Nat.le_of_ble_eq_true rfl) ⟨Nat.le_of_ble_eq_true rfl, Nat.le_of_ble_eq_true rfl⟩ ⟨rfl, rfl⟩ ?_
        refine a_aload_n B dX7_confesses_97 rfl ?_
        refine a_iload B dX7_confesses_98 rfl ?_
        refine a_iconst (v := 4) B dX7_confesses_100 (by decide) ?_
        refine a_aload_n B dX7_confesses_101 rfl ?_
        refine a_iload B dX7_confesses_102 rfl ?_
        refine a_iconst (v := 4) B dX7_confesses_104 (by decide) ?_
        refine a_callV2r B rfl cf_X7_its lk_X7_54 in_X7_its se_X7_its (wl_rc (p0 := 0) (by decide) rfl rfl rfl) (m_its p 4 (44 + p) (by omega) (by decide) (by omega) _) dX7_confesses_105 (Nat.le_of_ble_eq_true rfl) ⟨Nat.le_of_ble_eq_true rfl, Nat.le_of_ble_eq_true rfl⟩ ⟨rfl, rfl⟩ ?_
        refine a_iconst (v := 1) B dX7_confesses_108 (by decide) ?_
        refine a_iadd B dX7_confesses_109 ?_
        refine a_iconst (v := 0) B dX7_confesses_110 (by decide) ?_
        refine a_sipush (v := 9999) B dX7_confesses_111 (by decide) ?_
        refine a_callS3r B rfl cf_X7_held lk_X7_62 st_X7_held (m_held _ _ _ _) dX7_confesses_114 (Nat.le_of_ble_eq_true rfl) ⟨Nat.le_of_ble_eq_true rfl, Nat.le_of_ble_eq_true rfl⟩ ⟨rfl, rfl⟩ ?_
        refine a_callV3v B rfl cf_X7_sets lk_X7_79 in_X7_sets se_X7_sets (wl_rc (p0 := 0) (by decide) rfl rfl rfl) (m_sets p 4 (44 + p) (by omega) (by decide) (by omega) _ _) dX7_confesses_117 (Nat.le_of_ble_eq_true rfl) ⟨Nat.le_of_ble_eq_true rfl, Nat.le_of_ble_eq_true rfl⟩ ⟨rfl, rfl⟩ ?_
        exact a_vret B hr hlk dX7_confesses_120 ⟨rfl, by unfold confF; rw [if_neg (show ¬ rmI cf 100 = 0 from c11), hb]; simp only [stB_at, stB_st]; rfl⟩
      exact absurd (nI_pos' (by omega)) c25
  exact a_vret B hr hlk dX7_confesses_14 ⟨rfl, by unfold confF; rw [if_pos (show rmI cf 100 = 0 from c11)]; exact stB_id.symm⟩
end R2
