
section C1
variable {l : Launch} {sk : (Nat → Nat) × (Nat → Nat)} {D : va_G} {cy : Nat → ClassId} {A : Nat → Nat} {X : va_W}
def icB (v : Int32) : Bool := !decide (v < 0) && !decide (8 ≤ v / 100) && !decide (40 < rmI v 100)
def mayV (what v : Int32) : Bool := if what = 0 then wi v 6 else if what = 1 then wi v 999 else if what = 2 then wi v 255 else if what = 3 then wi v 255 else if what = 4 then wi v 9999 else if what = 5 then wi v 9999 else false
def beginF (d : Dm) (p : Nat) (kind sins : Int32) : Dm := upd (upd (upd (upd (upd (upd d (12 + p) kind) (20 + p) 0) (28 + p) sins) (36 + p) 0) (44 + p) 0) (52 + p) 0
def putF (d : Dm) (p : Nat) (what v : Int32) : Dm := if what = 0 then upd d (12 + p) v else if what = 1 then upd d (20 + p) v else if what = 2 then upd d (28 + p) v else if what = 3 then upd d (36 + p) v else if what = 4 then upd d (44 + p) v else if what = 5 then upd d (52 + p) v else d
def likeP (d e : Dm) (p q : Nat) : Dm := upd (upd (upd (upd (upd (upd d (12 + p) (e (12 + q))) (20 + p) (e (20 + q))) (28 + p) (e (28 + q))) (36 + p) (e (36 + q))) (44 + p) (e (44 + q))) (52 + p) (e (52 + q))
theorem wa_nn {x y : Int32} {a b : Nat} (hx : x = nI a) (hy : y = nI b) (ha : a ≤ 40) (hb : b ≤ 9) : hld (x - y) 0 40 = mxI (x - y) 0 := by
  subst hx; subst hy
  have key : ∀ a, a < 41 → ∀ b, b < 10 → hld (nI a - nI b) 0 40 = mxI (nI a - nI b) 0 := by decide +kernel
  exact key a (by omega) b (by omega)
theorem dig3 {y : Int32} {b : Nat} (hy : y = nI b) (hb : b ≤ 9) : 2 + y = mxI (5 + y - 3) 0 := by
  subst hy
  have key : ∀ b, b < 10 → 2 + nI b = mxI (5 + nI b - 3) 0 := by decide +kernel
  exact key b (by omega)
theorem onesF_0 : onesF 0 = 0 := by decide +kernel
theorem bitc_0 : bitc 0 = 0 := by decide +kernel
theorem and1 (x : Int32) : x &&& 1 = 0 ∨ x &&& 1 = 1 := by
  obtain ⟨j, h1, h2⟩ := pk_andE x (m := 1) 1 (by decide)
  rw [h2]
  rcases (show j = 0 ∨ j = 1 by omega) with rfl | rfl
  · exact Or.inl rfl
  · exact Or.inr rfl
theorem and1_0 {x : Int32} : x &&& 1 = 0 ↔ ¬ x &&& 1 = 1 := by
  rcases and1 x with h | h <;> rw [h] <;> decide
theorem and1_iff {x : Int32} : ¬ x &&& 1 = 0 ↔ x &&& 1 = 1 := by
  rcases and1 x with h | h <;> rw [h] <;> decide

set_option maxRecDepth 20000 in
theorem k_X6_sinOf (x : Int32) (M : Mem) : CC l sk D cy A X mX6_sinOf 0 [.int x] M (rI (x / 100) M) := by
  refine Con.of (lo := [some (.int x)]) cf_X6_sinOf (fun _ _ => wl_fst) 0 rfl (Nat.le_of_ble_eq_true rfl) (fun p e s m args below meth c A0 B hr hlk => ?_)
  have B : BS sk D cy (wl A cy 51 TC X) A0 p s m args c RX6 cX6_sinOf 1 := B
  refine a_iload_n B dX6_sinOf_0 rfl ?_
  refine a_bipush (v := 100) B dX6_sinOf_1 (by decide) ?_
  refine a_idiv B dX6_sinOf_3 (by decide) ?_
  exact a_iret B hr hlk dX6_sinOf_4 ⟨congrArg (fun z => some (Value.int z)) (rfl), rfl⟩
set_option maxRecDepth 20000 in
theorem k_X6_wordsOf (x : Int32) (M : Mem) : CC l sk D cy A X mX6_wordsOf 0 [.int x] M (rI (rmI x 100) M) := by
  refine Con.of (lo := [some (.int x)]) cf_X6_wordsOf (fun _ _ => wl_fst) 0 rfl (Nat.le_of_ble_eq_true rfl) (fun p e s m args below meth c A0 B hr hlk => ?_)
  have B : BS sk D cy (wl A cy 51 TC X) A0 p s m args c RX6 cX6_wordsOf 1 := B
  refine a_iload_n B dX6_wordsOf_0 rfl ?_
  refine a_bipush (v := 100) B dX6_wordsOf_1 (by decide) ?_
  refine a_irem B dX6_wordsOf_3 (by decide) ?_
  exact a_iret B hr hlk dX6_wordsOf_4 ⟨congrArg (fun z => some (Value.int z)) (rfl), rfl⟩
set_option maxRecDepth 20000 in
theorem k_X6_confessionOf (x y : Int32) (M : Mem) : CC l sk D cy A X mX6_confessionOf 0 [.int x, .int y] M (rI (100 * x + y) M) := by
  refine Con.of (lo := [some (.int x), some (.int y)]) cf_X6_confessionOf (fun _ _ => wl_fst) 0 rfl (Nat.le_of_ble_eq_true rfl) (fun p e s m args below meth c A0 B hr hlk => ?_)
  have B : BS sk D cy (wl A cy 51 TC X) A0 p s m args c RX6 cX6_confessionOf 2 := B
  refine a_bipush (v := 100) B dX6_confessionOf_0 (by decide) ?_
  refine a_iload_n B dX6_confessionOf_2 rfl ?_
  refine a_imul B dX6_confessionOf_3 ?_
  refine a_iload_n B dX6_confessionOf_4 rfl ?_
  refine a_iadd B dX6_confessionOf_5 ?_
  exact a_iret B hr hlk dX6_confessionOf_6 ⟨congrArg (fun z => some (Value.int z)) (rfl), rfl⟩
set_option maxRecDepth 20000 in
theorem k_X6_isConfession (v : Int32) (M : Mem) : CC l sk D cy A X mX6_isConfession 1 [.int v] M (rI (bI (icB v)) M) := by
  refine Con.of (lo := [some (.int v)]) cf_X6_isConfession (fun _ _ => wl_fst) 0 rfl (Nat.le_of_ble_eq_true rfl) (fun p e s m args below meth c A0 B hr hlk => ?_)
  have B : BS sk D cy (wl A cy 51 TC X) A0 p s m args c RX6 cX6_isConfession 1 := B
  refine a_iload_n B dX6_isConfession_0 rfl ?_
  refine a_if_lt 26 B dX6_isConfession_1 (by decide) (fun c1 => ?_) (fun c1 => ?_)
  · refine a_iconst (v := 0) B dX6_isConfession_26 (by decide) ?_
    exact a_zret B hr hlk (rfl) dX6_isConfession_27 ⟨congrArg (fun z => some (Value.int z)) (by simp [icB, bI, c1]), rfl⟩
  refine a_iload_n B dX6_isConfession_4 rfl ?_
  refine a_callS1r B rfl cf_X6_sinOf lk_X6_96 st_X6_sinOf (k_X6_sinOf _ _) dX6_isConfession_5 (Nat.le_of_ble_eq_true rfl) ⟨Nat.le_of_ble_eq_true rfl, Nat.le_of_ble_eq_true rfl⟩ ⟨rfl, rfl⟩ ?_
  refine a_bipush (v := 8) B dX6_isConfession_8 (by decide) ?_
  refine a_icmp_ge 26 B dX6_isConfession_10 (by decide) (fun c10 => ?_) (fun c10 => ?_)
  · refine a_iconst (v := 0) B dX6_isConfession_26 (by decide) ?_
    exact a_zret B hr hlk (rfl) dX6_isConfession_27 ⟨congrArg (fun z => some (Value.int z)) (by simp [icB, bI, c1, c10]), rfl⟩
  refine a_iload_n B dX6_isConfession_13 rfl ?_
  refine a_callS1r B rfl cf_X6_wordsOf lk_X6_99 st_X6_wordsOf (k_X6_wordsOf _ _) dX6_isConfession_14 (Nat.le_of_ble_eq_true rfl) ⟨Nat.le_of_ble_eq_true rfl, Nat.le_of_ble_eq_true rfl⟩ ⟨rfl, rfl⟩ ?_
  refine a_bipush (v := 40) B dX6_isConfession_17 (by decide) ?_
  refine a_icmp_gt 26 B dX6_isConfession_19 (by decide) (fun c19 => ?_) (fun c19 => ?_)
  · refine a_iconst (v := 0) B dX6_isConfession_26 (by decide) ?_
    exact a_zret B hr hlk (rfl) dX6_isConfession_27 ⟨congrArg (fun z => some (Value.int z)) (by simp [icB, bI, c1, c10, c19]), rfl⟩
  refine a_iconst (v := 1) B dX6_isConfession_22 (by decide) ?_
  refine a_goto 27 B dX6_isConfession_23 (by decide) ?_
  exact a_zret B hr hlk (rfl) dX6_isConfession_27 ⟨congrArg (fun z => some (Value.int z)) (by simp [icB, bI, c1, c10, c19]), rfl⟩
set_option maxRecDepth 20000 in
theorem k_X1_mayBe (what v : Int32) (M : Mem) : CC l sk D cy A X mX1_mayBe 2 [.int what, .int v] M (rI (bI (mayV what v)) M) := by
  refine Con.of (lo := [some (.int what), some (.int v)]) cf_X1_mayBe (fun _ _ => wl_fst) 0 rfl (Nat.le_of_ble_eq_true rfl) (fun p e s m args below meth c A0 B hr hlk => ?_)
  have B : BS sk D cy (wl A cy 51 TC X) A0 p s m args c RX1 cX1_mayBe 2 := B
  refine a_iload_n B dX1_mayBe_0 rfl ?_
  by_cases s1_0 : what = 0
  · refine a_tblIn 40 B dX1_mayBe_1 (by rw [s1_0]; decide) (by rw [s1_0]; decide) (by rw [s1_0]; rfl) (by decide) ?_
    refine a_iload_n B dX1_mayBe_40 rfl ?_
    refine a_callS1r B rfl cf_X1_isKind lk_X1_15 st_X1_isKind (k_X1_isKind _ _) dX1_mayBe_41 (Nat.le_of_ble_eq_true rfl) ⟨Nat.le_of_ble_eq_true rfl, Nat.le_of_ble_eq_true rfl⟩ ⟨rfl, rfl⟩ ?_
    exact a_zret B hr hlk (bI_nar _) dX1_mayBe_44 ⟨congrArg (fun z => some (Value.int z)) (by simp [mayV, s1_0]), rfl⟩
  by_cases s1_1 : what = 1
  · refine a_tblIn 45 B dX1_mayBe_1 (by rw [s1_1]; decide) (by rw [s1_1]; decide) (by rw [s1_1]; rfl) (by decide) ?_
    refine a_iload_n B dX1_mayBe_45 rfl ?_
    refine a_sipush (v := 999) B dX1_mayBe_46 (by decide) ?_
    refine a_callSN2r B rfl cf_X6_within ln_X1_11 st_X6_within (k_X6_within _ _ _) dX1_mayBe_49 (Nat.le_of_ble_eq_true rfl) ⟨Nat.le_of_ble_eq_true rfl, Nat.le_of_ble_eq_true rfl⟩ ⟨rfl, rfl⟩ ?_
    exact a_zret B hr hlk (bI_nar _) dX1_mayBe_52 ⟨congrArg (fun z => some (Value.int z)) (by simp [mayV, s1_0, s1_1]), rfl⟩
  by_cases s1_2 : what = 2
  · refine a_tblIn 53 B dX1_mayBe_1 (by rw [s1_2]; decide) (by rw [s1_2]; decide) (by rw [s1_2]; rfl) (by decide) ?_
    refine a_iload_n B dX1_mayBe_53 rfl ?_
    refine a_sipush (v := 255) B dX1_mayBe_54 (by decide) ?_
    refine a_callSN2r B rfl cf_X6_within ln_X1_11 st_X6_within (k_X6_within _ _ _) dX1_mayBe_57 (Nat.le_of_ble_eq_true rfl) ⟨Nat.le_of_ble_eq_true rfl, Nat.le_of_ble_eq_true rfl⟩ ⟨rfl, rfl⟩ ?_
    exact a_zret B hr hlk (bI_nar _) dX1_mayBe_60 ⟨congrArg (fun z => some (Value.int z)) (by simp [mayV, s1_0, s1_1, s1_2]), rfl⟩
  by_cases s1_3 : what = 3
  · refine a_tblIn 53 B dX1_mayBe_1 (by rw [s1_3]; decide) (by rw [s1_3]; decide) (by rw [s1_3]; rfl) (by decide) ?_
    refine a_iload_n B dX1_mayBe_53 rfl ?_
    refine a_sipush (v := 255) B dX1_mayBe_54 (by decide) ?_
    refine a_callSN2r B rfl cf_X6_within ln_X1_11 st_X6_within (k_X6_within _ _ _) dX1_mayBe_57 (Nat.le_of_ble_eq_true rfl) ⟨Nat.le_of_ble_eq_true rfl, Nat.le_of_ble_eq_true rfl⟩ ⟨rfl, rfl⟩ ?_
    exact a_zret B hr hlk (bI_nar _) dX1_mayBe_60 ⟨congrArg (fun z => some (Value.int z)) (by simp [mayV, s1_0, s1_1, s1_2, s1_3]), rfl⟩
  by_cases s1_4 : what = 4
  · refine a_tblIn 61 B dX1_mayBe_1 (by rw [s1_4]; decide) (by rw [s1_4]; decide) (by rw [s1_4]; rfl) (by decide) ?_
    refine a_iload_n B dX1_mayBe_61 rfl ?_
    refine a_sipush (v := 9999) B dX1_mayBe_62 (by decide) ?_
    refine a_callSN2r B rfl cf_X6_within ln_X1_11 st_X6_within (k_X6_within _ _ _) dX1_mayBe_65 (Nat.le_of_ble_eq_true rfl) ⟨Nat.le_of_ble_eq_true rfl, Nat.le_of_ble_eq_true rfl⟩ ⟨rfl, rfl⟩ ?_
    exact a_zret B hr hlk (bI_nar _) dX1_mayBe_68 ⟨congrArg (fun z => some (Value.int z)) (by simp [mayV, s1_0, s1_1, s1_2, s1_3, s1_4]), rfl⟩
  by_cases s1_5 : what = 5
  · refine a_tblIn 61 B dX1_mayBe_1 (by rw [s1_5]; decide) (by rw [s1_5]; decide) (by rw [s1_5]; rfl) (by decide) ?_
    refine a_iload_n B dX1_mayBe_61 rfl ?_
    refine a_sipush (v := 9999) B dX1_mayBe_62 (by decide) ?_
    refine a_callSN2r B rfl cf_X6_within ln_X1_11 st_X6_within (k_X6_within _ _ _) dX1_mayBe_65 (Nat.le_of_ble_eq_true rfl) ⟨Nat.le_of_ble_eq_true rfl, Nat.le_of_ble_eq_true rfl⟩ ⟨rfl, rfl⟩ ?_
    exact a_zret B hr hlk (bI_nar _) dX1_mayBe_68 ⟨congrArg (fun z => some (Value.int z)) (by simp [mayV, s1_0, s1_1, s1_2, s1_3, s1_4, s1_5]), rfl⟩
  refine a_tblOut 69 B dX1_mayBe_1 (by have h0 := lv_neT s1_0 (show (0 : Int32).toInt = 0 by decide); have h1 := lv_neT s1_1 (show (1 : Int32).toInt = 1 by decide); have h2 := lv_neT s1_2 (show (2 : Int32).toInt = 2 by decide); have h3 := lv_neT s1_3 (show (3 : Int32).toInt = 3 by decide); have h4 := lv_neT s1_4 (show (4 : Int32).toInt = 4 by decide); have h5 := lv_neT s1_5 (show (5 : Int32).toInt = 5 by decide); omega) (by decide) ?_
  refine a_iconst (v := 0) B dX1_mayBe_69 (by decide) ?_
  exact a_zret B hr hlk (rfl) dX1_mayBe_70 ⟨congrArg (fun z => some (Value.int z)) (by simp [mayV, bI, s1_0, s1_1, s1_2, s1_3, s1_4, s1_5]), rfl⟩
set_option maxRecDepth 20000 in
theorem k_X1_begin (i k : Nat) (hi : i < 3) (hk : k < 8) (kind sins : Int32) (M : Mem) : CC l sk D cy A X mX1_begin 0 [.ref (A (5 + 12 * i + k)), .int kind, .int sins] M (rV (stB M i (beginF (M i) k kind sins))) := by
  refine Con.of (lo := [some (.ref (A (5 + 12 * i + k))), some (.int kind), some (.int sins)]) cf_X1_begin (fun _ _ => wl_fst) 0 rfl (Nat.le_of_ble_eq_true rfl) (fun p e s m args below meth c A0 B hr hlk => ?_)
  have B : BS sk D cy (wl A cy 51 TC X) A0 p s m args c RX1 cX1_begin 3 := B
  refine a_aload_n B dX1_begin_0 rfl ?_
  refine a_iload_n B dX1_begin_1 rfl ?_
  refine a_putI B twC fl_X1_19 fp_1_0 (by omega) (tcP i hi k hk) rfl dX1_begin_2 ?_
  refine a_aload_n B dX1_begin_5 rfl ?_
  refine a_iconst (v := 0) B dX1_begin_6 (by decide) ?_
  refine a_putI B twC fl_X1_23 fp_1_1 (by omega) (tcP i hi k hk) rfl dX1_begin_7 ?_
  refine a_aload_n B dX1_begin_10 rfl ?_
  refine a_iload_n B dX1_begin_11 rfl ?_
  refine a_putI B twC fl_X1_26 fp_1_2 (by omega) (tcP i hi k hk) rfl dX1_begin_12 ?_
  refine a_aload_n B dX1_begin_15 rfl ?_
  refine a_iconst (v := 0) B dX1_begin_16 (by decide) ?_
  refine a_putI B twC fl_X1_29 fp_1_3 (by omega) (tcP i hi k hk) rfl dX1_begin_17 ?_
  refine a_aload_n B dX1_begin_20 rfl ?_
  refine a_iconst (v := 0) B dX1_begin_21 (by decide) ?_
  refine a_putI B twC fl_X1_32 fp_1_4 (by omega) (tcP i hi k hk) rfl dX1_begin_22 ?_
  refine a_aload_n B dX1_begin_25 rfl ?_
  refine a_iconst (v := 0) B dX1_begin_26 (by decide) ?_
  refine a_putI B twC fl_X1_35 fp_1_5 (by omega) (tcP i hi k hk) rfl dX1_begin_27 ?_
  exact a_vret B hr hlk dX1_begin_30 ⟨rfl, by simp only [beginF, upB_st, stB_at, stB_st]⟩
set_option maxRecDepth 20000 in
theorem k_X1_put (i k : Nat) (hi : i < 3) (hk : k < 8) (what v : Int32) (M : Mem) : CC l sk D cy A X mX1_put 0 [.ref (A (5 + 12 * i + k)), .int what, .int v] M (rV (stB M i (putF (M i) k what v))) := by
  refine Con.of (lo := [some (.ref (A (5 + 12 * i + k))), some (.int what), some (.int v)]) cf_X1_put (fun _ _ => wl_fst) 0 rfl (Nat.le_of_ble_eq_true rfl) (fun p e s m args below meth c A0 B hr hlk => ?_)
  have B : BS sk D cy (wl A cy 51 TC X) A0 p s m args c RX1 cX1_put 3 := B
  refine a_iload_n B dX1_put_0 rfl ?_
  by_cases s1_0 : what = 0
  · refine a_tblIn 40 B dX1_put_1 (by rw [s1_0]; decide) (by rw [s1_0]; decide) (by rw [s1_0]; rfl) (by decide) ?_
    refine a_aload_n B dX1_put_40 rfl ?_
    refine a_iload_n B dX1_put_41 rfl ?_
    refine a_putI B twC fl_X1_19 fp_1_0 (by omega) (tcP i hi k hk) rfl dX1_put_42 ?_
    refine a_goto 88 B dX1_put_45 (by decide) ?_
    exact a_vret B hr hlk dX1_put_88 ⟨rfl, by simp [putF, upB_st, stB_id, s1_0]⟩
  by_cases s1_1 : what = 1
  · refine a_tblIn 48 B dX1_put_1 (by rw [s1_1]; decide) (by rw [s1_1]; decide) (by rw [s1_1]; rfl) (by decide) ?_
    refine a_aload_n B dX1_put_48 rfl ?_
    refine a_iload_n B dX1_put_49 rfl ?_
    refine a_putI B twC fl_X1_23 fp_1_1 (by omega) (tcP i hi k hk) rfl dX1_put_50 ?_
    refine a_goto 88 B dX1_put_53 (by decide) ?_
    exact a_vret B hr hlk dX1_put_88 ⟨rfl, by simp [putF, upB_st, stB_id, s1_0, s1_1]⟩
  by_cases s1_2 : what = 2
  · refine a_tblIn 56 B dX1_put_1 (by rw [s1_2]; decide) (by rw [s1_2]; decide) (by rw [s1_2]; rfl) (by decide) ?_
    refine a_aload_n B dX1_put_56 rfl ?_
    refine a_iload_n B dX1_put_57 rfl ?_
    refine a_putI B twC fl_X1_26 fp_1_2 (by omega) (tcP i hi k hk) rfl dX1_put_58 ?_
    refine a_goto 88 B dX1_put_61 (by decide) ?_
    exact a_vret B hr hlk dX1_put_88 ⟨rfl, by simp [putF, upB_st, stB_id, s1_0, s1_1, s1_2]⟩
  by_cases s1_3 : what = 3
  · refine a_tblIn 64 B dX1_put_1 (by rw [s1_3]; decide) (by rw [s1_3]; decide) (by rw [s1_3]; rfl) (by decide) ?_
    refine a_aload_n B dX1_put_64 rfl ?_
    refine a_iload_n B dX1_put_65 rfl ?_
    refine a_putI B twC fl_X1_29 fp_1_3 (by omega) (tcP i hi k hk) rfl dX1_put_66 ?_
    refine a_goto 88 B dX1_put_69 (by decide) ?_
    exact a_vret B hr hlk dX1_put_88 ⟨rfl, by simp [putF, upB_st, stB_id, s1_0, s1_1, s1_2, s1_3]⟩
  by_cases s1_4 : what = 4
  · refine a_tblIn 72 B dX1_put_1 (by rw [s1_4]; decide) (by rw [s1_4]; decide) (by rw [s1_4]; rfl) (by decide) ?_
    refine a_aload_n B dX1_put_72 rfl ?_
    refine a_iload_n B dX1_put_73 rfl ?_
    refine a_putI B twC fl_X1_32 fp_1_4 (by omega) (tcP i hi k hk) rfl dX1_put_74 ?_
    refine a_goto 88 B dX1_put_77 (by decide) ?_
    exact a_vret B hr hlk dX1_put_88 ⟨rfl, by simp [putF, upB_st, stB_id, s1_0, s1_1, s1_2, s1_3, s1_4]⟩
  by_cases s1_5 : what = 5
  · refine a_tblIn 80 B dX1_put_1 (by rw [s1_5]; decide) (by rw [s1_5]; decide) (by rw [s1_5]; rfl) (by decide) ?_
    refine a_aload_n B dX1_put_80 rfl ?_
    refine a_iload_n B dX1_put_81 rfl ?_
    refine a_putI B twC fl_X1_35 fp_1_5 (by omega) (tcP i hi k hk) rfl dX1_put_82 ?_
    refine a_goto 88 B dX1_put_85 (by decide) ?_
    exact a_vret B hr hlk dX1_put_88 ⟨rfl, by simp [putF, upB_st, stB_id, s1_0, s1_1, s1_2, s1_3, s1_4, s1_5]⟩
  refine a_tblOut 88 B dX1_put_1 (by have h0 := lv_neT s1_0 (show (0 : Int32).toInt = 0 by decide); have h1 := lv_neT s1_1 (show (1 : Int32).toInt = 1 by decide); have h2 := lv_neT s1_2 (show (2 : Int32).toInt = 2 by decide); have h3 := lv_neT s1_3 (show (3 : Int32).toInt = 3 by decide); have h4 := lv_neT s1_4 (show (4 : Int32).toInt = 4 by decide); have h5 := lv_neT s1_5 (show (5 : Int32).toInt = 5 by decide); omega) (by decide) ?_
  exact a_vret B hr hlk dX1_put_88 ⟨rfl, by simp [putF, upB_st, stB_id, s1_0, s1_1, s1_2, s1_3, s1_4, s1_5]⟩
set_option maxRecDepth 20000 in
theorem k_X1_becomeLike (i k : Nat) (hi : i < 3) (hk : k < 8) (j q : Nat) (hj : j < 3) (hq : q < 8) (hij : i ≠ j) (M : Mem) : CC l sk D cy A X mX1_becomeLike 0 [.ref (A (5 + 12 * i + k)), .ref (A (5 + 12 * j + q))] M (rV (stB M i (likeP (M i) (M j) k q))) := by
  refine Con.of (lo := [some (.ref (A (5 + 12 * i + k))), some (.ref (A (5 + 12 * j + q)))]) cf_X1_becomeLike (fun _ _ => wl_fst) 0 rfl (Nat.le_of_ble_eq_true rfl) (fun p e s m args below meth c A0 B hr hlk => ?_)
  have B : BS sk D cy (wl A cy 51 TC X) A0 p s m args c RX1 cX1_becomeLike 2 := B
  refine a_aload_n B dX1_becomeLike_0 rfl ?_
  refine a_aload_n B dX1_becomeLike_1 rfl ?_
  refine a_getI B fl_X1_19 (by omega) (tcP j hj q hq) rfl dX1_becomeLike_2 ?_
  refine a_putI B twC fl_X1_19 fp_1_0 (by omega) (tcP i hi k hk) rfl dX1_becomeLike_5 ?_
  refine a_aload_n B dX1_becomeLike_8 rfl ?_
  refine a_aload_n B dX1_becomeLike_9 rfl ?_
  refine a_getI B fl_X1_23 (by omega) (tcP j hj q hq) rfl dX1_becomeLike_10 ?_
  refine a_putI B twC fl_X1_23 fp_1_1 (by omega) (tcP i hi k hk) rfl dX1_becomeLike_13 ?_
  refine a_aload_n B dX1_becomeLike_16 rfl ?_
  refine a_aload_n B dX1_becomeLike_17 rfl ?_
  refine a_getI B fl_X1_26 (by omega) (tcP j hj q hq) rfl dX1_becomeLike_18 ?_
  refine a_putI B twC fl_X1_26 fp_1_2 (by omega) (tcP i hi k hk) rfl dX1_becomeLike_21 ?_
  refine a_aload_n B dX1_becomeLike_24 rfl ?_
  refine a_aload_n B dX1_becomeLike_25 rfl ?_
  refine a_getI B fl_X1_29 (by omega) (tcP j hj q hq) rfl dX1_becomeLike_26 ?_
  refine a_putI B twC fl_X1_29 fp_1_3 (by omega) (tcP i hi k hk) rfl dX1_becomeLike_29 ?_
  refine a_aload_n B dX1_becomeLike_32 rfl ?_
  refine a_aload_n B dX1_becomeLike_33 rfl ?_
  refine a_getI B fl_X1_32 (by omega) (tcP j hj q hq) rfl dX1_becomeLike_34 ?_
  refine a_putI B twC fl_X1_32 fp_1_4 (by omega) (tcP i hi k hk) rfl dX1_becomeLike_37 ?_
  refine a_aload_n B dX1_becomeLike_40 rfl ?_
  refine a_aload_n B dX1_becomeLike_41 rfl ?_
  refine a_getI B fl_X1_35 (by omega) (tcP j hj q hq) rfl dX1_becomeLike_42 ?_
  refine a_putI B twC fl_X1_35 fp_1_5 (by omega) (tcP i hi k hk) rfl dX1_becomeLike_45 ?_
  exact a_vret B hr hlk dX1_becomeLike_48 ⟨rfl, by simp only [likeP, upB_st, stB_at, stB_st, stB_ne (Ne.symm hij)]⟩
set_option maxRecDepth 20000 in
theorem k_X1_holding (i k : Nat) (hi : i < 3) (hk : k < 8) (M : Mem) (hI : Inv (M i)) : CC l sk D cy A X mX1_holding 1 [.ref (A (5 + 12 * i + k))] M (rI (holdF (M i) k) M) := by
  refine Con.of (lo := [some (.ref (A (5 + 12 * i + k))), none, none]) cf_X1_holding (fun _ _ => wl_fst) 2 rfl (Nat.le_of_ble_eq_true rfl) (fun p e s m args below meth c A0 B hr hlk => ?_)
  have B : BS sk D cy (wl A cy 51 TC X) A0 p s m args c RX1 cX1_holding 3 := B
  have hkn := hI.kn hk
  obtain ⟨he, hhe1, hhe2⟩ := hI.he hk
  have hhe := hld_mn (t := 99) (nn_add (x := 60) (y := M i (44 + k)) (a := 60) rfl hhe2 (by omega))
  refine a_bipush (v := 40) B dX1_holding_0 (by decide) ?_
  refine a_iconst (v := 5) B dX1_holding_2 (by decide) ?_
  refine a_aload_n B dX1_holding_3 rfl ?_
  refine a_getI B fl_X1_29 (by omega) (tcP i hi k hk) rfl dX1_holding_4 ?_
  refine a_callS1r B rfl cf_J6_bitCount_0f7a4 lk_X1_42 st_J6_bitCount_0f7a4 (k_J6_bitCount_0f7a4 _ _) dX1_holding_7 (Nat.le_of_ble_eq_true rfl) ⟨Nat.le_of_ble_eq_true rfl, Nat.le_of_ble_eq_true rfl⟩ ⟨rfl, rfl⟩ ?_
  refine a_imul B dX1_holding_10 ?_
  refine a_iadd B dX1_holding_11 ?_
  refine p_istore1 B dX1_holding_12 (by decide) (k := ?_)
  refine a_aload_n B dX1_holding_13 rfl ?_
  refine a_getI B fl_X1_29 (by omega) (tcP i hi k hk) rfl dX1_holding_14 ?_
  refine a_if_ne 25 B dX1_holding_17 (by decide) (fun c17 => ?_) (fun c17 => ?_)
  · refine a_bipush (v := 60) B dX1_holding_25 (by decide) ?_
    refine p_istore2 B dX1_holding_27 (by decide) (k := ?_)
    refine a_aload_n B dX1_holding_28 rfl ?_
    refine a_getI B fl_X1_19 (by omega) (tcP i hi k hk) rfl dX1_holding_29 ?_
    by_cases s32_0 : M i (12 + k) = 1
    · refine a_tblIn 72 B dX1_holding_32 (by rw [s32_0]; decide) (by rw [s32_0]; decide) (by rw [s32_0]; rfl) (by decide) ?_
      refine a_bipush (v := 40) B dX1_holding_72 (by decide) ?_
      exact a_iret B hr hlk dX1_holding_74 ⟨congrArg (fun z => some (Value.int z)) (by simp [holdF, holdsV, bitc_ones hkn, ones0 hkn, hhe, onesF_0, bitc_0, c17, s32_0]), rfl⟩
    by_cases s32_1 : M i (12 + k) = 2
    · refine a_tblIn 81 B dX1_holding_32 (by rw [s32_1]; decide) (by rw [s32_1]; decide) (by rw [s32_1]; rfl) (by decide) ?_
      refine a_iload_n B dX1_holding_81 rfl ?_
      exact a_iret B hr hlk dX1_holding_82 ⟨congrArg (fun z => some (Value.int z)) (by simp [holdF, holdsV, bitc_ones hkn, ones0 hkn, hhe, onesF_0, bitc_0, c17, s32_0, s32_1]), rfl⟩
    by_cases s32_2 : M i (12 + k) = 3
    · refine a_tblIn 75 B dX1_holding_32 (by rw [s32_2]; decide) (by rw [s32_2]; decide) (by rw [s32_2]; rfl) (by decide) ?_
      refine a_iload_n B dX1_holding_75 rfl ?_
      exact a_iret B hr hlk dX1_holding_76 ⟨congrArg (fun z => some (Value.int z)) (by simp [holdF, holdsV, bitc_ones hkn, ones0 hkn, hhe, onesF_0, bitc_0, c17, s32_0, s32_1, s32_2]), rfl⟩
    by_cases s32_3 : M i (12 + k) = 4
    · refine a_tblIn 77 B dX1_holding_32 (by rw [s32_3]; decide) (by rw [s32_3]; decide) (by rw [s32_3]; rfl) (by decide) ?_
      refine a_iconst (v := 2) B dX1_holding_77 (by decide) ?_
      refine a_iload_n B dX1_holding_78 rfl ?_
      refine a_imul B dX1_holding_79 ?_
      exact a_iret B hr hlk dX1_holding_80 ⟨congrArg (fun z => some (Value.int z)) (by simp [holdF, holdsV, bitc_ones hkn, ones0 hkn, hhe, onesF_0, bitc_0, c17, s32_0, s32_1, s32_2, s32_3]), rfl⟩
    by_cases s32_4 : M i (12 + k) = 5
    · refine a_tblIn 88 B dX1_holding_32 (by rw [s32_4]; decide) (by rw [s32_4]; decide) (by rw [s32_4]; rfl) (by decide) ?_
      refine a_bipush (v := 60) B dX1_holding_88 (by decide) ?_
      refine a_aload_n B dX1_holding_90 rfl ?_
      refine a_getI B fl_X1_32 (by omega) (tcP i hi k hk) rfl dX1_holding_91 ?_
      refine a_iadd B dX1_holding_94 ?_
      refine a_bipush (v := 99) B dX1_holding_95 (by decide) ?_
      refine a_mmin B lk_X1_48 dX1_holding_97 (by rfl) (by rfl) ⟨by decide, trivial⟩ ⟨rfl, rfl⟩ ?_
      exact a_iret B hr hlk dX1_holding_100 ⟨congrArg (fun z => some (Value.int z)) (by simp [holdF, holdsV, bitc_ones hkn, ones0 hkn, hhe, onesF_0, bitc_0, c17, s32_0, s32_1, s32_2, s32_3, s32_4]), rfl⟩
    by_cases s32_5 : M i (12 + k) = 6
    · refine a_tblIn 83 B dX1_holding_32 (by rw [s32_5]; decide) (by rw [s32_5]; decide) (by rw [s32_5]; rfl) (by decide) ?_
      refine a_iload_n B dX1_holding_83 rfl ?_
      refine a_bipush (v := 40) B dX1_holding_84 (by decide) ?_
      refine a_iadd B dX1_holding_86 ?_
      exact a_iret B hr hlk dX1_holding_87 ⟨congrArg (fun z => some (Value.int z)) (by simp [holdF, holdsV, bitc_ones hkn, ones0 hkn, hhe, onesF_0, bitc_0, c17, s32_0, s32_1, s32_2, s32_3, s32_4, s32_5]), rfl⟩
    refine a_tblOut 101 B dX1_holding_32 (by have h0 := lv_neT s32_0 (show (1 : Int32).toInt = 1 by decide); have h1 := lv_neT s32_1 (show (2 : Int32).toInt = 2 by decide); have h2 := lv_neT s32_2 (show (3 : Int32).toInt = 3 by decide); have h3 := lv_neT s32_3 (show (4 : Int32).toInt = 4 by decide); have h4 := lv_neT s32_4 (show (5 : Int32).toInt = 5 by decide); have h5 := lv_neT s32_5 (show (6 : Int32).toInt = 6 by decide); omega) (by decide) ?_
    refine a_bipush (v := 60) B dX1_holding_101 (by decide) ?_
    exact a_iret B hr hlk dX1_holding_103 ⟨congrArg (fun z => some (Value.int z)) (by simp [holdF, holdsV, bitc_ones hkn, ones0 hkn, hhe, onesF_0, bitc_0, c17, s32_0, s32_1, s32_2, s32_3, s32_4, s32_5]), rfl⟩
  refine a_bipush (v := 30) B dX1_holding_20 (by decide) ?_
  refine a_goto 27 B dX1_holding_22 (by decide) ?_
  refine p_istore2 B dX1_holding_27 (by decide) (k := ?_)
  refine a_aload_n B dX1_holding_28 rfl ?_
  refine a_getI B fl_X1_19 (by omega) (tcP i hi k hk) rfl dX1_holding_29 ?_
  by_cases s32_0 : M i (12 + k) = 1
  · refine a_tblIn 72 B dX1_holding_32 (by rw [s32_0]; decide) (by rw [s32_0]; decide) (by rw [s32_0]; rfl) (by decide) ?_
    refine a_bipush (v := 40) B dX1_holding_72 (by decide) ?_
    exact a_iret B hr hlk dX1_holding_74 ⟨congrArg (fun z => some (Value.int z)) (by simp [holdF, holdsV, bitc_ones hkn, ones0 hkn, hhe, onesF_0, bitc_0, c17, s32_0]), rfl⟩
  by_cases s32_1 : M i (12 + k) = 2
  · refine a_tblIn 81 B dX1_holding_32 (by rw [s32_1]; decide) (by rw [s32_1]; decide) (by rw [s32_1]; rfl) (by decide) ?_
    refine a_iload_n B dX1_holding_81 rfl ?_
    exact a_iret B hr hlk dX1_holding_82 ⟨congrArg (fun z => some (Value.int z)) (by simp [holdF, holdsV, bitc_ones hkn, ones0 hkn, hhe, onesF_0, bitc_0, c17, s32_0, s32_1]), rfl⟩
  by_cases s32_2 : M i (12 + k) = 3
  · refine a_tblIn 75 B dX1_holding_32 (by rw [s32_2]; decide) (by rw [s32_2]; decide) (by rw [s32_2]; rfl) (by decide) ?_
    refine a_iload_n B dX1_holding_75 rfl ?_
    exact a_iret B hr hlk dX1_holding_76 ⟨congrArg (fun z => some (Value.int z)) (by simp [holdF, holdsV, bitc_ones hkn, ones0 hkn, hhe, onesF_0, bitc_0, c17, s32_0, s32_1, s32_2]), rfl⟩
  by_cases s32_3 : M i (12 + k) = 4
  · refine a_tblIn 77 B dX1_holding_32 (by rw [s32_3]; decide) (by rw [s32_3]; decide) (by rw [s32_3]; rfl) (by decide) ?_
    refine a_iconst (v := 2) B dX1_holding_77 (by decide) ?_
    refine a_iload_n B dX1_holding_78 rfl ?_
    refine a_imul B dX1_holding_79 ?_
    exact a_iret B hr hlk dX1_holding_80 ⟨congrArg (fun z => some (Value.int z)) (by simp [holdF, holdsV, bitc_ones hkn, ones0 hkn, hhe, onesF_0, bitc_0, c17, s32_0, s32_1, s32_2, s32_3]), rfl⟩
  by_cases s32_4 : M i (12 + k) = 5
  · refine a_tblIn 88 B dX1_holding_32 (by rw [s32_4]; decide) (by rw [s32_4]; decide) (by rw [s32_4]; rfl) (by decide) ?_
    refine a_bipush (v := 60) B dX1_holding_88 (by decide) ?_
    refine a_aload_n B dX1_holding_90 rfl ?_
    refine a_getI B fl_X1_32 (by omega) (tcP i hi k hk) rfl dX1_holding_91 ?_
    refine a_iadd B dX1_holding_94 ?_
    refine a_bipush (v := 99) B dX1_holding_95 (by decide) ?_
    refine a_mmin B lk_X1_48 dX1_holding_97 (by rfl) (by rfl) ⟨by decide, trivial⟩ ⟨rfl, rfl⟩ ?_
    exact a_iret B hr hlk dX1_holding_100 ⟨congrArg (fun z => some (Value.int z)) (by simp [holdF, holdsV, bitc_ones hkn, ones0 hkn, hhe, onesF_0, bitc_0, c17, s32_0, s32_1, s32_2, s32_3, s32_4]), rfl⟩
  by_cases s32_5 : M i (12 + k) = 6
  · refine a_tblIn 83 B dX1_holding_32 (by rw [s32_5]; decide) (by rw [s32_5]; decide) (by rw [s32_5]; rfl) (by decide) ?_
    refine a_iload_n B dX1_holding_83 rfl ?_
    refine a_bipush (v := 40) B dX1_holding_84 (by decide) ?_
    refine a_iadd B dX1_holding_86 ?_
    exact a_iret B hr hlk dX1_holding_87 ⟨congrArg (fun z => some (Value.int z)) (by simp [holdF, holdsV, bitc_ones hkn, ones0 hkn, hhe, onesF_0, bitc_0, c17, s32_0, s32_1, s32_2, s32_3, s32_4, s32_5]), rfl⟩
  refine a_tblOut 101 B dX1_holding_32 (by have h0 := lv_neT s32_0 (show (1 : Int32).toInt = 1 by decide); have h1 := lv_neT s32_1 (show (2 : Int32).toInt = 2 by decide); have h2 := lv_neT s32_2 (show (3 : Int32).toInt = 3 by decide); have h3 := lv_neT s32_3 (show (4 : Int32).toInt = 4 by decide); have h4 := lv_neT s32_4 (show (5 : Int32).toInt = 5 by decide); have h5 := lv_neT s32_5 (show (6 : Int32).toInt = 6 by decide); omega) (by decide) ?_
  refine a_bipush (v := 60) B dX1_holding_101 (by decide) ?_
  exact a_iret B hr hlk dX1_holding_103 ⟨congrArg (fun z => some (Value.int z)) (by simp [holdF, holdsV, bitc_ones hkn, ones0 hkn, hhe, onesF_0, bitc_0, c17, s32_0, s32_1, s32_2, s32_3, s32_4, s32_5]), rfl⟩
set_option maxRecDepth 20000 in
theorem k_X1_swelling (i k : Nat) (hi : i < 3) (hk : k < 8) (sin words water : Int32) (M : Mem) (hw : hld (words - water) 0 40 = mxI (words - water) 0) : CC l sk D cy A X mX1_swelling 1 [.ref (A (5 + 12 * i + k)), .int sin, .int words, .int water] M (rI (swellV (M i (12 + k)) (M i (36 + k)) sin words water) M) := by
  refine Con.of (lo := [some (.ref (A (5 + 12 * i + k))), some (.int sin), some (.int words), some (.int water), none, none]) cf_X1_swelling (fun _ _ => wl_fst) 2 rfl (Nat.le_of_ble_eq_true rfl) (fun p e s m args below meth c A0 B hr hlk => ?_)
  have B : BS sk D cy (wl A cy 51 TC X) A0 p s m args c RX1 cX1_swelling 6 := B
  refine a_iload_n B dX1_swelling_0 rfl ?_
  refine a_iload_n B dX1_swelling_1 rfl ?_
  refine a_isub B dX1_swelling_2 ?_
  refine a_iconst (v := 0) B dX1_swelling_3 (by decide) ?_
  refine a_mmax B lk_X1_54 dX1_swelling_4 (by rfl) (by rfl) ⟨by decide, trivial⟩ ⟨rfl, rfl⟩ ?_
  refine p_istore4 B dX1_swelling_7 (by decide) (k := ?_)
  refine a_iload_n B dX1_swelling_9 rfl ?_
  refine a_iconst (v := 3) B dX1_swelling_10 (by decide) ?_
  refine a_icmp_ne 20 B dX1_swelling_11 (by decide) (fun c11 => ?_) (fun c11 => ?_)
  · refine a_iload_n B dX1_swelling_20 rfl ?_
    refine p_istore5 B dX1_swelling_21 (by decide) (k := ?_)
    refine a_aload_n B dX1_swelling_23 rfl ?_
    refine a_getI B fl_X1_19 (by omega) (tcP i hi k hk) rfl dX1_swelling_24 ?_
    by_cases s27_0 : M i (12 + k) = 1
    · refine a_tblIn 64 B dX1_swelling_27 (by rw [s27_0]; decide) (by rw [s27_0]; decide) (by rw [s27_0]; rfl) (by decide) ?_
      refine a_iload B dX1_swelling_64 rfl ?_
      exact a_iret B hr hlk dX1_swelling_66 ⟨congrArg (fun z => some (Value.int z)) (by simp [swellV, hw, rmI, c11, s27_0]), rfl⟩
    by_cases s27_1 : M i (12 + k) = 2
    · refine a_tblIn 83 B dX1_swelling_27 (by rw [s27_1]; decide) (by rw [s27_1]; decide) (by rw [s27_1]; rfl) (by decide) ?_
      refine a_iload B dX1_swelling_83 rfl ?_
      exact a_iret B hr hlk dX1_swelling_85 ⟨congrArg (fun z => some (Value.int z)) (by simp [swellV, hw, rmI, c11, s27_0, s27_1]), rfl⟩
    by_cases s27_2 : M i (12 + k) = 3
    · refine a_tblIn 67 B dX1_swelling_27 (by rw [s27_2]; decide) (by rw [s27_2]; decide) (by rw [s27_2]; rfl) (by decide) ?_
      refine a_iload_n B dX1_swelling_67 rfl ?_
      refine a_iconst (v := 2) B dX1_swelling_68 (by decide) ?_
      refine a_irem B dX1_swelling_69 (by decide) ?_
      refine a_if_ne 80 B dX1_swelling_70 (by decide) (fun c70 => ?_) (fun c70 => ?_)
      · refine a_iload B dX1_swelling_80 rfl ?_
        exact a_iret B hr hlk dX1_swelling_82 ⟨congrArg (fun z => some (Value.int z)) (by first | (simp [swellV, hw, rmI, s27_0, s27_1, s27_2, c70]; done) | (exfalso; rw [c11] at c70; exact absurd c70 (by decide))), rfl⟩
      refine a_iload B dX1_swelling_73 rfl ?_
      refine a_iconst (v := 5) B dX1_swelling_75 (by decide) ?_
      refine a_iadd B dX1_swelling_76 ?_
      refine a_goto 82 B dX1_swelling_77 (by decide) ?_
      exact a_iret B hr hlk dX1_swelling_82 ⟨congrArg (fun z => some (Value.int z)) (by first | (simp [swellV, hw, rmI, s27_0, s27_1, s27_2, c70]; done) | (exfalso; rw [c11] at c70; exact absurd c70 (by decide))), rfl⟩
    by_cases s27_3 : M i (12 + k) = 4
    · refine a_tblIn 67 B dX1_swelling_27 (by rw [s27_3]; decide) (by rw [s27_3]; decide) (by rw [s27_3]; rfl) (by decide) ?_
      refine a_iload_n B dX1_swelling_67 rfl ?_
      refine a_iconst (v := 2) B dX1_swelling_68 (by decide) ?_
      refine a_irem B dX1_swelling_69 (by decide) ?_
      refine a_if_ne 80 B dX1_swelling_70 (by decide) (fun c70 => ?_) (fun c70 => ?_)
      · refine a_iload B dX1_swelling_80 rfl ?_
        exact a_iret B hr hlk dX1_swelling_82 ⟨congrArg (fun z => some (Value.int z)) (by first | (simp [swellV, hw, rmI, s27_0, s27_1, s27_2, s27_3, c70]; done) | (exfalso; rw [c11] at c70; exact absurd c70 (by decide))), rfl⟩
      refine a_iload B dX1_swelling_73 rfl ?_
      refine a_iconst (v := 5) B dX1_swelling_75 (by decide) ?_
      refine a_iadd B dX1_swelling_76 ?_
      refine a_goto 82 B dX1_swelling_77 (by decide) ?_
      exact a_iret B hr hlk dX1_swelling_82 ⟨congrArg (fun z => some (Value.int z)) (by first | (simp [swellV, hw, rmI, s27_0, s27_1, s27_2, s27_3, c70]; done) | (exfalso; rw [c11] at c70; exact absurd c70 (by decide))), rfl⟩
    by_cases s27_4 : M i (12 + k) = 5
    · refine a_tblIn 91 B dX1_swelling_27 (by rw [s27_4]; decide) (by rw [s27_4]; decide) (by rw [s27_4]; rfl) (by decide) ?_
      refine a_aload_n B dX1_swelling_91 rfl ?_
      refine a_getI B fl_X1_29 (by omega) (tcP i hi k hk) rfl dX1_swelling_92 ?_
      refine a_iload_n B dX1_swelling_95 rfl ?_
      refine a_ishr B dX1_swelling_96 ?_
      refine a_iconst (v := 1) B dX1_swelling_97 (by decide) ?_
      refine a_iand B dX1_swelling_98 ?_
      refine a_if_eq 109 B dX1_swelling_99 (by decide) (fun c99 => ?_) (fun c99 => ?_)
      · refine a_iload_n B dX1_swelling_109 rfl ?_
        exact a_iret B hr hlk dX1_swelling_110 ⟨congrArg (fun z => some (Value.int z)) (by have c99x := and1_0.mp c99; simp [swellV, c99x, s27_0, s27_1, s27_2, s27_3, s27_4]), rfl⟩
      refine a_iload_n B dX1_swelling_102 rfl ?_
      refine a_bipush (v := 10) B dX1_swelling_103 (by decide) ?_
      refine a_iadd B dX1_swelling_105 ?_
      refine a_goto 110 B dX1_swelling_106 (by decide) ?_
      exact a_iret B hr hlk dX1_swelling_110 ⟨congrArg (fun z => some (Value.int z)) (by have c99x := and1_iff.mp c99; simp [swellV, c99x, s27_0, s27_1, s27_2, s27_3, s27_4]), rfl⟩
    by_cases s27_5 : M i (12 + k) = 6
    · refine a_tblIn 86 B dX1_swelling_27 (by rw [s27_5]; decide) (by rw [s27_5]; decide) (by rw [s27_5]; rfl) (by decide) ?_
      refine a_iload B dX1_swelling_86 rfl ?_
      refine a_iconst (v := 2) B dX1_swelling_88 (by decide) ?_
      refine a_idiv B dX1_swelling_89 (by decide) ?_
      exact a_iret B hr hlk dX1_swelling_90 ⟨congrArg (fun z => some (Value.int z)) (by simp [swellV, hw, rmI, c11, s27_0, s27_1, s27_2, s27_3, s27_4, s27_5]), rfl⟩
    refine a_tblOut 111 B dX1_swelling_27 (by have h0 := lv_neT s27_0 (show (1 : Int32).toInt = 1 by decide); have h1 := lv_neT s27_1 (show (2 : Int32).toInt = 2 by decide); have h2 := lv_neT s27_2 (show (3 : Int32).toInt = 3 by decide); have h3 := lv_neT s27_3 (show (4 : Int32).toInt = 4 by decide); have h4 := lv_neT s27_4 (show (5 : Int32).toInt = 5 by decide); have h5 := lv_neT s27_5 (show (6 : Int32).toInt = 6 by decide); omega) (by decide) ?_
    refine a_iload_n B dX1_swelling_111 rfl ?_
    exact a_iret B hr hlk dX1_swelling_112 ⟨congrArg (fun z => some (Value.int z)) (by simp [swellV, hw, rmI, c11, s27_0, s27_1, s27_2, s27_3, s27_4, s27_5]), rfl⟩
  refine a_iload_n B dX1_swelling_14 rfl ?_
  refine a_iconst (v := 3) B dX1_swelling_15 (by decide) ?_
  refine a_idiv B dX1_swelling_16 (by decide) ?_
  refine a_goto 21 B dX1_swelling_17 (by decide) ?_
  refine p_istore5 B dX1_swelling_21 (by decide) (k := ?_)
  refine a_aload_n B dX1_swelling_23 rfl ?_
  refine a_getI B fl_X1_19 (by omega) (tcP i hi k hk) rfl dX1_swelling_24 ?_
  by_cases s27_0 : M i (12 + k) = 1
  · refine a_tblIn 64 B dX1_swelling_27 (by rw [s27_0]; decide) (by rw [s27_0]; decide) (by rw [s27_0]; rfl) (by decide) ?_
    refine a_iload B dX1_swelling_64 rfl ?_
    exact a_iret B hr hlk dX1_swelling_66 ⟨congrArg (fun z => some (Value.int z)) (by simp [swellV, hw, rmI, c11, s27_0]), rfl⟩
  by_cases s27_1 : M i (12 + k) = 2
  · refine a_tblIn 83 B dX1_swelling_27 (by rw [s27_1]; decide) (by rw [s27_1]; decide) (by rw [s27_1]; rfl) (by decide) ?_
    refine a_iload B dX1_swelling_83 rfl ?_
    exact a_iret B hr hlk dX1_swelling_85 ⟨congrArg (fun z => some (Value.int z)) (by simp [swellV, hw, rmI, c11, s27_0, s27_1]), rfl⟩
  by_cases s27_2 : M i (12 + k) = 3
  · refine a_tblIn 67 B dX1_swelling_27 (by rw [s27_2]; decide) (by rw [s27_2]; decide) (by rw [s27_2]; rfl) (by decide) ?_
    refine a_iload_n B dX1_swelling_67 rfl ?_
    refine a_iconst (v := 2) B dX1_swelling_68 (by decide) ?_
    refine a_irem B dX1_swelling_69 (by decide) ?_
    refine a_if_ne 80 B dX1_swelling_70 (by decide) (fun c70 => ?_) (fun c70 => ?_)
    · refine a_iload B dX1_swelling_80 rfl ?_
      exact a_iret B hr hlk dX1_swelling_82 ⟨congrArg (fun z => some (Value.int z)) (by first | (simp [swellV, hw, rmI, s27_0, s27_1, s27_2, c70]; done) | (exfalso; rw [c11] at c70; exact absurd c70 (by decide))), rfl⟩
    refine a_iload B dX1_swelling_73 rfl ?_
    refine a_iconst (v := 5) B dX1_swelling_75 (by decide) ?_
    refine a_iadd B dX1_swelling_76 ?_
    refine a_goto 82 B dX1_swelling_77 (by decide) ?_
    exact a_iret B hr hlk dX1_swelling_82 ⟨congrArg (fun z => some (Value.int z)) (by first | (simp [swellV, hw, rmI, s27_0, s27_1, s27_2, c70]; done) | (exfalso; rw [c11] at c70; exact absurd c70 (by decide))), rfl⟩
  by_cases s27_3 : M i (12 + k) = 4
  · refine a_tblIn 67 B dX1_swelling_27 (by rw [s27_3]; decide) (by rw [s27_3]; decide) (by rw [s27_3]; rfl) (by decide) ?_
    refine a_iload_n B dX1_swelling_67 rfl ?_
    refine a_iconst (v := 2) B dX1_swelling_68 (by decide) ?_
    refine a_irem B dX1_swelling_69 (by decide) ?_
    refine a_if_ne 80 B dX1_swelling_70 (by decide) (fun c70 => ?_) (fun c70 => ?_)
    · refine a_iload B dX1_swelling_80 rfl ?_
      exact a_iret B hr hlk dX1_swelling_82 ⟨congrArg (fun z => some (Value.int z)) (by first | (simp [swellV, hw, rmI, s27_0, s27_1, s27_2, s27_3, c70]; done) | (exfalso; rw [c11] at c70; exact absurd c70 (by decide))), rfl⟩
    refine a_iload B dX1_swelling_73 rfl ?_
    refine a_iconst (v := 5) B dX1_swelling_75 (by decide) ?_
    refine a_iadd B dX1_swelling_76 ?_
    refine a_goto 82 B dX1_swelling_77 (by decide) ?_
    exact a_iret B hr hlk dX1_swelling_82 ⟨congrArg (fun z => some (Value.int z)) (by first | (simp [swellV, hw, rmI, s27_0, s27_1, s27_2, s27_3, c70]; done) | (exfalso; rw [c11] at c70; exact absurd c70 (by decide))), rfl⟩
  by_cases s27_4 : M i (12 + k) = 5
  · refine a_tblIn 91 B dX1_swelling_27 (by rw [s27_4]; decide) (by rw [s27_4]; decide) (by rw [s27_4]; rfl) (by decide) ?_
    refine a_aload_n B dX1_swelling_91 rfl ?_
    refine a_getI B fl_X1_29 (by omega) (tcP i hi k hk) rfl dX1_swelling_92 ?_
    refine a_iload_n B dX1_swelling_95 rfl ?_
    refine a_ishr B dX1_swelling_96 ?_
    refine a_iconst (v := 1) B dX1_swelling_97 (by decide) ?_
    refine a_iand B dX1_swelling_98 ?_
    refine a_if_eq 109 B dX1_swelling_99 (by decide) (fun c99 => ?_) (fun c99 => ?_)
    · refine a_iload_n B dX1_swelling_109 rfl ?_
      exact a_iret B hr hlk dX1_swelling_110 ⟨congrArg (fun z => some (Value.int z)) (by have c99x := and1_0.mp c99; simp [swellV, c99x, s27_0, s27_1, s27_2, s27_3, s27_4]), rfl⟩
    refine a_iload_n B dX1_swelling_102 rfl ?_
    refine a_bipush (v := 10) B dX1_swelling_103 (by decide) ?_
    refine a_iadd B dX1_swelling_105 ?_
    refine a_goto 110 B dX1_swelling_106 (by decide) ?_
    exact a_iret B hr hlk dX1_swelling_110 ⟨congrArg (fun z => some (Value.int z)) (by have c99x := and1_iff.mp c99; simp [swellV, c99x, s27_0, s27_1, s27_2, s27_3, s27_4]), rfl⟩
  by_cases s27_5 : M i (12 + k) = 6
  · refine a_tblIn 86 B dX1_swelling_27 (by rw [s27_5]; decide) (by rw [s27_5]; decide) (by rw [s27_5]; rfl) (by decide) ?_
    refine a_iload B dX1_swelling_86 rfl ?_
    refine a_iconst (v := 2) B dX1_swelling_88 (by decide) ?_
    refine a_idiv B dX1_swelling_89 (by decide) ?_
    exact a_iret B hr hlk dX1_swelling_90 ⟨congrArg (fun z => some (Value.int z)) (by simp [swellV, hw, rmI, c11, s27_0, s27_1, s27_2, s27_3, s27_4, s27_5]), rfl⟩
  refine a_tblOut 111 B dX1_swelling_27 (by have h0 := lv_neT s27_0 (show (1 : Int32).toInt = 1 by decide); have h1 := lv_neT s27_1 (show (2 : Int32).toInt = 2 by decide); have h2 := lv_neT s27_2 (show (3 : Int32).toInt = 3 by decide); have h3 := lv_neT s27_3 (show (4 : Int32).toInt = 4 by decide); have h4 := lv_neT s27_4 (show (5 : Int32).toInt = 5 by decide); have h5 := lv_neT s27_5 (show (6 : Int32).toInt = 6 by decide); omega) (by decide) ?_
  refine a_iload_n B dX1_swelling_111 rfl ?_
  exact a_iret B hr hlk dX1_swelling_112 ⟨congrArg (fun z => some (Value.int z)) (by simp [swellV, hw, rmI, c11, s27_0, s27_1, s27_2, s27_3, s27_4, s27_5]), rfl⟩
set_option maxRecDepth 20000 in
theorem k_X1_digesting (i k : Nat) (hi : i < 3) (hk : k < 8) (water day : Int32) (M : Mem) (hw : ∃ n, n ≤ 9 ∧ water = nI n) : CC l sk D cy A X mX1_digesting 1 [.ref (A (5 + 12 * i + k)), .int water, .int day] M (rI (digV (M i (12 + k)) water day) M) := by
  refine Con.of (lo := [some (.ref (A (5 + 12 * i + k))), some (.int water), some (.int day)]) cf_X1_digesting (fun _ _ => wl_fst) 0 rfl (Nat.le_of_ble_eq_true rfl) (fun p e s m args below meth c A0 B hr hlk => ?_)
  have B : BS sk D cy (wl A cy 51 TC X) A0 p s m args c RX1 cX1_digesting 3 := B
  obtain ⟨wn, hw1, hw2⟩ := hw
  have hd3 := dig3 hw2 hw1
  refine a_aload_n B dX1_digesting_0 rfl ?_
  refine a_getI B fl_X1_19 (by omega) (tcP i hi k hk) rfl dX1_digesting_1 ?_
  by_cases s4_0 : M i (12 + k) = 1
  · refine a_tblIn 44 B dX1_digesting_4 (by rw [s4_0]; decide) (by rw [s4_0]; decide) (by rw [s4_0]; rfl) (by decide) ?_
    refine a_iconst (v := 5) B dX1_digesting_44 (by decide) ?_
    refine a_iload_n B dX1_digesting_45 rfl ?_
    refine a_iadd B dX1_digesting_46 ?_
    exact a_iret B hr hlk dX1_digesting_47 ⟨congrArg (fun z => some (Value.int z)) (by simp [digV, rmI, hd3, s4_0]), rfl⟩
  by_cases s4_1 : M i (12 + k) = 2
  · refine a_tblIn 60 B dX1_digesting_4 (by rw [s4_1]; decide) (by rw [s4_1]; decide) (by rw [s4_1]; rfl) (by decide) ?_
    refine a_bipush (v := 8) B dX1_digesting_60 (by decide) ?_
    exact a_iret B hr hlk dX1_digesting_62 ⟨congrArg (fun z => some (Value.int z)) (by simp [digV, rmI, hd3, s4_0, s4_1]), rfl⟩
  by_cases s4_2 : M i (12 + k) = 3
  · refine a_tblIn 48 B dX1_digesting_4 (by rw [s4_2]; decide) (by rw [s4_2]; decide) (by rw [s4_2]; rfl) (by decide) ?_
    refine a_iconst (v := 5) B dX1_digesting_48 (by decide) ?_
    refine a_iload_n B dX1_digesting_49 rfl ?_
    refine a_iadd B dX1_digesting_50 ?_
    refine a_iconst (v := 3) B dX1_digesting_51 (by decide) ?_
    refine a_isub B dX1_digesting_52 ?_
    refine a_iconst (v := 0) B dX1_digesting_53 (by decide) ?_
    refine a_mmax B lk_X1_54 dX1_digesting_54 (by rfl) (by rfl) ⟨by decide, trivial⟩ ⟨rfl, rfl⟩ ?_
    exact a_iret B hr hlk dX1_digesting_57 ⟨congrArg (fun z => some (Value.int z)) (by simp [digV, rmI, hd3, s4_0, s4_1, s4_2]), rfl⟩
  by_cases s4_3 : M i (12 + k) = 4
  · refine a_tblIn 58 B dX1_digesting_4 (by rw [s4_3]; decide) (by rw [s4_3]; decide) (by rw [s4_3]; rfl) (by decide) ?_
    refine a_iconst (v := 1) B dX1_digesting_58 (by decide) ?_
    exact a_iret B hr hlk dX1_digesting_59 ⟨congrArg (fun z => some (Value.int z)) (by simp [digV, rmI, hd3, s4_0, s4_1, s4_2, s4_3]), rfl⟩
  by_cases s4_4 : M i (12 + k) = 5
  · refine a_tblIn 66 B dX1_digesting_4 (by rw [s4_4]; decide) (by rw [s4_4]; decide) (by rw [s4_4]; rfl) (by decide) ?_
    refine a_iload_n B dX1_digesting_66 rfl ?_
    refine a_bipush (v := 7) B dX1_digesting_67 (by decide) ?_
    refine a_irem B dX1_digesting_69 (by decide) ?_
    refine a_bipush (v := 6) B dX1_digesting_70 (by decide) ?_
    refine a_icmp_ne 79 B dX1_digesting_72 (by decide) (fun c72 => ?_) (fun c72 => ?_)
    · refine a_iconst (v := 5) B dX1_digesting_79 (by decide) ?_
      exact a_iret B hr hlk dX1_digesting_80 ⟨congrArg (fun z => some (Value.int z)) (by simp [digV, rmI, hd3, s4_0, s4_1, s4_2, s4_3, s4_4, c72]), rfl⟩
    refine a_iconst (v := 0) B dX1_digesting_75 (by decide) ?_
    refine a_goto 80 B dX1_digesting_76 (by decide) ?_
    exact a_iret B hr hlk dX1_digesting_80 ⟨congrArg (fun z => some (Value.int z)) (by simp [digV, rmI, hd3, s4_0, s4_1, s4_2, s4_3, s4_4, c72]), rfl⟩
  by_cases s4_5 : M i (12 + k) = 6
  · refine a_tblIn 63 B dX1_digesting_4 (by rw [s4_5]; decide) (by rw [s4_5]; decide) (by rw [s4_5]; rfl) (by decide) ?_
    refine a_bipush (v := 16) B dX1_digesting_63 (by decide) ?_
    exact a_iret B hr hlk dX1_digesting_65 ⟨congrArg (fun z => some (Value.int z)) (by simp [digV, rmI, hd3, s4_0, s4_1, s4_2, s4_3, s4_4, s4_5]), rfl⟩
  refine a_tblOut 81 B dX1_digesting_4 (by have h0 := lv_neT s4_0 (show (1 : Int32).toInt = 1 by decide); have h1 := lv_neT s4_1 (show (2 : Int32).toInt = 2 by decide); have h2 := lv_neT s4_2 (show (3 : Int32).toInt = 3 by decide); have h3 := lv_neT s4_3 (show (4 : Int32).toInt = 4 by decide); have h4 := lv_neT s4_4 (show (5 : Int32).toInt = 5 by decide); have h5 := lv_neT s4_5 (show (6 : Int32).toInt = 6 by decide); omega) (by decide) ?_
  refine a_iconst (v := 5) B dX1_digesting_81 (by decide) ?_
  exact a_iret B hr hlk dX1_digesting_82 ⟨congrArg (fun z => some (Value.int z)) (by simp [digV, rmI, hd3, s4_0, s4_1, s4_2, s4_3, s4_4, s4_5]), rfl⟩
set_option maxRecDepth 20000 in
theorem k_X1_keepsSilent (i k : Nat) (hi : i < 3) (hk : k < 8) (M : Mem) (hI : Inv (M i)) : CC l sk D cy A X mX1_keepsSilent 1 [.ref (A (5 + 12 * i + k))] M (rI (bI (keepF (M i) k)) M) := by
  refine Con.of (lo := [some (.ref (A (5 + 12 * i + k)))]) cf_X1_keepsSilent (fun _ _ => wl_fst) 0 rfl (Nat.le_of_ble_eq_true rfl) (fun p e s m args below meth c A0 B hr hlk => ?_)
  have B : BS sk D cy (wl A cy 51 TC X) A0 p s m args c RX1 cX1_keepsSilent 1 := B
  have hkn := bitc_ones (hI.kn hk)
  refine a_aload_n B dX1_keepsSilent_0 rfl ?_
  refine a_getI B fl_X1_19 (by omega) (tcP i hi k hk) rfl dX1_keepsSilent_1 ?_
  refine a_iconst (v := 4) B dX1_keepsSilent_4 (by decide) ?_
  refine a_icmp_eq 27 B dX1_keepsSilent_5 (by decide) (fun c5 => ?_) (fun c5 => ?_)
  · refine a_iconst (v := 1) B dX1_keepsSilent_27 (by decide) ?_
    refine a_goto 32 B dX1_keepsSilent_28 (by decide) ?_
    exact a_zret B hr hlk (rfl) dX1_keepsSilent_32 ⟨congrArg (fun z => some (Value.int z)) (by simp [keepF, keepV, bI, c5]), rfl⟩
  refine a_aload_n B dX1_keepsSilent_8 rfl ?_
  refine a_getI B fl_X1_19 (by omega) (tcP i hi k hk) rfl dX1_keepsSilent_9 ?_
  refine a_iconst (v := 5) B dX1_keepsSilent_12 (by decide) ?_
  refine a_icmp_ne 31 B dX1_keepsSilent_13 (by decide) (fun c13 => ?_) (fun c13 => ?_)
  · refine a_iconst (v := 0) B dX1_keepsSilent_31 (by decide) ?_
    exact a_zret B hr hlk (rfl) dX1_keepsSilent_32 ⟨congrArg (fun z => some (Value.int z)) (by simp [keepF, keepV, bI, c5, c13]), rfl⟩
  refine a_aload_n B dX1_keepsSilent_16 rfl ?_
  refine a_getI B fl_X1_29 (by omega) (tcP i hi k hk) rfl dX1_keepsSilent_17 ?_
  refine a_callS1r B rfl cf_J6_bitCount_0f7a4 lk_X1_42 st_J6_bitCount_0f7a4 (k_J6_bitCount_0f7a4 _ _) dX1_keepsSilent_20 (Nat.le_of_ble_eq_true rfl) ⟨Nat.le_of_ble_eq_true rfl, Nat.le_of_ble_eq_true rfl⟩ ⟨rfl, rfl⟩ ?_
  refine a_iconst (v := 4) B dX1_keepsSilent_23 (by decide) ?_
  refine a_icmp_ge 31 B dX1_keepsSilent_24 (by decide) (fun c24 => ?_) (fun c24 => ?_)
  · refine a_iconst (v := 0) B dX1_keepsSilent_31 (by decide) ?_
    exact a_zret B hr hlk (rfl) dX1_keepsSilent_32 ⟨congrArg (fun z => some (Value.int z)) (by (try rw [hkn] at c24); simp [keepF, keepV, bI, c5, c13, c24]), rfl⟩
  refine a_iconst (v := 1) B dX1_keepsSilent_27 (by decide) ?_
  refine a_goto 32 B dX1_keepsSilent_28 (by decide) ?_
  exact a_zret B hr hlk (rfl) dX1_keepsSilent_32 ⟨congrArg (fun z => some (Value.int z)) (by (try rw [hkn] at c24); simp [keepF, keepV, bI, c5, c13, c24]), rfl⟩
end C1
