
section MM
variable {σ : Type} {p : Program} {l : Launch} {e : Env} {R : Room} {s : State} {m : MethodId} {args : Array Value} {below : List Frame} {meth : Method} {c : Code} {sk : (Nat → Nat) × (Nat → Nat)} {D : va_G} {cy : Nat → ClassId} {A0 : Nat → Prop} {own : String} {cc : ByteArray} {nL cells slots : Nat} {Q : State → Prop} {pc : Nat} {lo : List (Option Value)} {st : List Value} {wd : σ → va_W} {M : σ}
def mnI (x y : Int32) : Int32 := if y < x then y else x
def mxI (x y : Int32) : Int32 := if x < y then y else x
theorem a_mmin {index h1 lc1 : Nat} {x y : Int32} (B : BS sk D cy wd A0 p s m args c own cc nL) (hl : Cond.methodLink own index yJ9_min_7cf53 ∈ GW) (hdg : decode cc pc = .ok (.invokestatic index, 3)) (hR0 : R = rmK h1 lc1) (hw : Nat.ble ((st.map fun v => v.category).sum + 13) lc1 = true) (hR : 1 ≤ h1 ∧ True) (hcs : cells = 0 ∧ slots = 0) (k : AW p l e R s m args below meth c D wd A0 nL cells slots Q (pc + 3) lo (.int (mnI x y) :: st) M) : AW p l e R s m args below meth c D wd A0 nL cells slots Q pc lo (.int y :: .int x :: st) M := by
  intro H locs ls hP hS hL
  subst hR0
  obtain ⟨rfl, rfl⟩ := hcs
  exact va_mmin B.1.1 B.1.2.1 (B.1.2.2.1.trans hL.1.symm) B.1.2.2.2.1 (B.1.2.2.2.2 _ hl) (B.1.2.2.2.2 _ st_J9_min_7cf53) (B.1.2.2.2.2 _ ii_J9) (B.1.2.2.2.2 _ cf_J9_min_7cf53.1) hR.1 (Nat.le_of_ble_eq_true hw) (Nat.zero_le _) (Nat.zero_le _) hdg (k H locs ls hP hS hL)
theorem a_mmax {index h1 lc1 : Nat} {x y : Int32} (B : BS sk D cy wd A0 p s m args c own cc nL) (hl : Cond.methodLink own index yJ9_max_7cf53 ∈ GW) (hdg : decode cc pc = .ok (.invokestatic index, 3)) (hR0 : R = rmK h1 lc1) (hw : Nat.ble ((st.map fun v => v.category).sum + 13) lc1 = true) (hR : 1 ≤ h1 ∧ True) (hcs : cells = 0 ∧ slots = 0) (k : AW p l e R s m args below meth c D wd A0 nL cells slots Q (pc + 3) lo (.int (mxI x y) :: st) M) : AW p l e R s m args below meth c D wd A0 nL cells slots Q pc lo (.int y :: .int x :: st) M := by
  intro H locs ls hP hS hL
  subst hR0
  obtain ⟨rfl, rfl⟩ := hcs
  exact va_mmax B.1.1 B.1.2.1 (B.1.2.2.1.trans hL.1.symm) B.1.2.2.2.1 (B.1.2.2.2.2 _ hl) (B.1.2.2.2.2 _ st_J9_max_7cf53) (B.1.2.2.2.2 _ ii_J9) (B.1.2.2.2.2 _ cf_J9_max_7cf53.1) hR.1 (Nat.le_of_ble_eq_true hw) (Nat.zero_le _) (Nat.zero_le _) hdg (k H locs ls hP hS hL)
end MM
abbrev CC (l : Launch) (sk : (Nat → Nat) × (Nat → Nat)) (D : va_G) (cy : Nat → ClassId) (A : Nat → Nat) (X : va_W) (y : MD) (h : Nat) (av : List Value) (M : Mem) (Post : Option Value → Mem → Prop) : Prop := Con l sk D cy (wl A cy 51 TC X) y h (34 * h) av M Post
abbrev CR (l : Launch) (sk : (Nat → Nat) × (Nat → Nat)) (D : va_G) (cy : Nat → ClassId) (A : Nat → Nat) (X : va_W) (y : MD) (h : Nat) (av : List Value) (M : Mem) (Post : Option Value → Mem → Prop) : Prop := Con l sk D cy (wl A cy 11 TM X) y h (34 * h) av M Post
abbrev rI {σ : Type} (x : Int32) (M : σ) : Option Value → σ → Prop := rt1 (some (.int x)) M
abbrev rL {σ : Type} (x : Int64) (M : σ) : Option Value → σ → Prop := rt1 (some (.long x)) M
abbrev rA {σ : Type} (x : Nat) (M : σ) : Option Value → σ → Prop := rt1 (some (.ref x)) M
abbrev rV {σ : Type} (M : σ) : Option Value → σ → Prop := rt1 none M
def bI (b : Bool) : Int32 := if b then 1 else 0
theorem bI_t : bI true = 1 := rfl
theorem bI_f : bI false = 0 := rfl
theorem bI_nar (b : Bool) : narrow .boolean (.int (bI b)) = .int (bI b) := by cases b <;> rfl
theorem bI_eq0 {b : Bool} : bI b = 0 ↔ b = false := by cases b <;> decide
def stB (M : Mem) (b : Nat) (d : Nat → Int32) : Mem := fun b' => if b' = b then d else M b'
theorem stB_at {M : Mem} {b : Nat} {d : Nat → Int32} : stB M b d b = d := by unfold stB; rw [if_pos rfl]
theorem stB_ne {M : Mem} {b b' : Nat} {d : Nat → Int32} (h : b' ≠ b) : stB M b d b' = M b' := by unfold stB; rw [if_neg h]
theorem stB_id {M : Mem} {b : Nat} : stB M b (M b) = M := by
  funext b' n
  by_cases h : b' = b
  · subst h; rw [stB_at]
  · rw [stB_ne h]
theorem stB_st {M : Mem} {b : Nat} {d d' : Nat → Int32} : stB (stB M b d) b d' = stB M b d' := by
  funext b' n
  by_cases h : b' = b
  · subst h; rw [stB_at, stB_at]
  · rw [stB_ne h, stB_ne h, stB_ne h]
theorem stB_comm {M : Mem} {b b' : Nat} {d d' : Nat → Int32} (h : b ≠ b') : stB (stB M b d) b' d' = stB (stB M b' d') b d := by
  funext c n
  by_cases h1 : c = b
  · subst h1; rw [stB_ne h, stB_at, stB_at]
  · by_cases h2 : c = b'
    · subst h2; rw [stB_at, stB_ne h1, stB_at]
    · rw [stB_ne h2, stB_ne h1, stB_ne h1, stB_ne h2]
theorem upB_st {M : Mem} {b n : Nat} {v : Int32} : upB M b n v = stB M b (upd (M b) n v) := by
  funext b' n'
  by_cases h : b' = b
  · subst h
    rw [stB_at]
    by_cases h2 : n' = n
    · subst h2; rw [upB_on, pk_us]
    · rw [pk_un h2]; exact upB_off (r := (b', n')) (fun e => h2 (congrArg Prod.snd e))
  · rw [stB_ne h]; exact upB_off (r := (b', n')) (fun e => h (congrArg Prod.fst e))
theorem upB_stB {M : Mem} {b n : Nat} {d : Nat → Int32} {v : Int32} : upB (stB M b d) b n v = stB M b (upd d n v) := by
  rw [upB_st, stB_at, stB_st]
def wi (v t : Int32) : Bool := !decide (v < 0) && !decide (t < v)
def us (x n : Int32) : Int32 := (x.toUInt32 >>> (n.toUInt32 &&& Int32.toUInt32 31)).toInt32
def bitc (x : Int32) : Int32 :=
  let a := x - (us x 1 &&& 1431655765)
  let b := (a &&& 858993459) + (us a 2 &&& 858993459)
  let c := (b + us b 4) &&& 252645135
  let d := c + us c 8
  let e := d + us d 16
  e &&& 63
def rmI (x y : Int32) : Int32 := x - x / y * y
def fmI (x y : Int32) : Int32 := if 0 ≤ (x ^^^ y) then rmI x y else if rmI x y = 0 then rmI x y else rmI x y + y
section BASE
variable {l : Launch} {sk : (Nat → Nat) × (Nat → Nat)} {D : va_G} {cy : Nat → ClassId} {A : Nat → Nat} {X : va_W}

set_option maxRecDepth 20000 in
theorem k_X6_within (v t : Int32) (M : Mem) : CC l sk D cy A X mX6_within 0 [.int v, .int t] M (rI (bI (wi v t)) M) := by
  refine Con.of (lo := [some (.int v), some (.int t)]) cf_X6_within (fun _ _ => wl_fst) 0 rfl (Nat.le_of_ble_eq_true rfl) (fun p e s m args below meth c A0 B hr hlk => ?_)
  have B : BS sk D cy (wl A cy 51 TC X) A0 p s m args c RX6 cX6_within 2 := B
  refine a_iload_n B dX6_within_0 rfl ?_
  refine a_if_lt 13 B dX6_within_1 (by decide) (fun c1 => ?_) (fun c1 => ?_)
  · refine a_iconst (v := 0) B dX6_within_13 (by decide) ?_
    exact a_zret B hr hlk (rfl) dX6_within_14 ⟨congrArg (fun z => some (Value.int z)) (by simp [wi, bI, c1]), rfl⟩
  refine a_iload_n B dX6_within_4 rfl ?_
  refine a_iload_n B dX6_within_5 rfl ?_
  refine a_icmp_gt 13 B dX6_within_6 (by decide) (fun c6 => ?_) (fun c6 => ?_)
  · refine a_iconst (v := 0) B dX6_within_13 (by decide) ?_
    exact a_zret B hr hlk (rfl) dX6_within_14 ⟨congrArg (fun z => some (Value.int z)) (by simp [wi, bI, c1, c6]), rfl⟩
  refine a_iconst (v := 1) B dX6_within_9 (by decide) ?_
  refine a_goto 14 B dX6_within_10 (by decide) ?_
  exact a_zret B hr hlk (rfl) dX6_within_14 ⟨congrArg (fun z => some (Value.int z)) (by simp [wi, bI, c1, c6]), rfl⟩
set_option maxRecDepth 20000 in
theorem k_J6_bitCount_0f7a4 (x : Int32) (M : Mem) : CC l sk D cy A X mJ6_bitCount_0f7a4 0 [.int x] M (rI (bitc x) M) := by
  refine Con.of (lo := [some (.int x)]) cf_J6_bitCount_0f7a4 (fun _ _ => wl_fst) 0 rfl (Nat.le_of_ble_eq_true rfl) (fun p e s m args below meth c A0 B hr hlk => ?_)
  have B : BS sk D cy (wl A cy 51 TC X) A0 p s m args c RJ6 cJ6_bitCount_0f7a4 1 := B
  refine a_iload_n B dJ6_bitCount_0f7a4_0 rfl ?_
  refine a_iload_n B dJ6_bitCount_0f7a4_1 rfl ?_
  refine a_iconst (v := 1) B dJ6_bitCount_0f7a4_2 (by decide) ?_
  refine a_iushr B dJ6_bitCount_0f7a4_3 ?_
  refine a_ldcw B dJ6_bitCount_0f7a4_4 kc_J6_265 ?_
  refine a_iand B dJ6_bitCount_0f7a4_7 ?_
  refine a_isub B dJ6_bitCount_0f7a4_8 ?_
  refine p_istore0 B dJ6_bitCount_0f7a4_9 (by decide) (k := ?_)
  refine a_iload_n B dJ6_bitCount_0f7a4_10 rfl ?_
  refine a_ldcw B dJ6_bitCount_0f7a4_11 kc_J6_266 ?_
  refine a_iand B dJ6_bitCount_0f7a4_14 ?_
  refine a_iload_n B dJ6_bitCount_0f7a4_15 rfl ?_
  refine a_iconst (v := 2) B dJ6_bitCount_0f7a4_16 (by decide) ?_
  refine a_iushr B dJ6_bitCount_0f7a4_17 ?_
  refine a_ldcw B dJ6_bitCount_0f7a4_18 kc_J6_266 ?_
  refine a_iand B dJ6_bitCount_0f7a4_21 ?_
  refine a_iadd B dJ6_bitCount_0f7a4_22 ?_
  refine p_istore0 B dJ6_bitCount_0f7a4_23 (by decide) (k := ?_)
  refine a_iload_n B dJ6_bitCount_0f7a4_24 rfl ?_
  refine a_iload_n B dJ6_bitCount_0f7a4_25 rfl ?_
  refine a_iconst (v := 4) B dJ6_bitCount_0f7a4_26 (by decide) ?_
  refine a_iushr B dJ6_bitCount_0f7a4_27 ?_
  refine a_iadd B dJ6_bitCount_0f7a4_28 ?_
  refine a_ldcw B dJ6_bitCount_0f7a4_29 kc_J6_267 ?_
  refine a_iand B dJ6_bitCount_0f7a4_32 ?_
  refine p_istore0 B dJ6_bitCount_0f7a4_33 (by decide) (k := ?_)
  refine a_iload_n B dJ6_bitCount_0f7a4_34 rfl ?_
  refine a_iload_n B dJ6_bitCount_0f7a4_35 rfl ?_
  refine a_bipush (v := 8) B dJ6_bitCount_0f7a4_36 (by decide) ?_
  refine a_iushr B dJ6_bitCount_0f7a4_38 ?_
  refine a_iadd B dJ6_bitCount_0f7a4_39 ?_
  refine p_istore0 B dJ6_bitCount_0f7a4_40 (by decide) (k := ?_)
  refine a_iload_n B dJ6_bitCount_0f7a4_41 rfl ?_
  refine a_iload_n B dJ6_bitCount_0f7a4_42 rfl ?_
  refine a_bipush (v := 16) B dJ6_bitCount_0f7a4_43 (by decide) ?_
  refine a_iushr B dJ6_bitCount_0f7a4_45 ?_
  refine a_iadd B dJ6_bitCount_0f7a4_46 ?_
  refine p_istore0 B dJ6_bitCount_0f7a4_47 (by decide) (k := ?_)
  refine a_iload_n B dJ6_bitCount_0f7a4_48 rfl ?_
  refine a_bipush (v := 63) B dJ6_bitCount_0f7a4_49 (by decide) ?_
  refine a_iand B dJ6_bitCount_0f7a4_51 ?_
  exact a_iret B hr hlk dJ6_bitCount_0f7a4_52 ⟨congrArg (fun z => some (Value.int z)) (rfl), rfl⟩
set_option maxRecDepth 20000 in
theorem k_J9_floorMod_7cf53 (x y : Int32) (hy : ¬ y = 0) (M : Mem) : CC l sk D cy A X mJ9_floorMod_7cf53 0 [.int x, .int y] M (rI (fmI x y) M) := by
  refine Con.of (lo := [some (.int x), some (.int y), none]) cf_J9_floorMod_7cf53 (fun _ _ => wl_fst) 1 rfl (Nat.le_of_ble_eq_true rfl) (fun p e s m args below meth c A0 B hr hlk => ?_)
  have B : BS sk D cy (wl A cy 51 TC X) A0 p s m args c RJ9 cJ9_floorMod_7cf53 3 := B
  refine a_iload_n B dJ9_floorMod_7cf53_0 rfl ?_
  refine a_iload_n B dJ9_floorMod_7cf53_1 rfl ?_
  refine a_irem B dJ9_floorMod_7cf53_2 hy ?_
  refine p_istore2 B dJ9_floorMod_7cf53_3 (by decide) (k := ?_)
  refine a_iload_n B dJ9_floorMod_7cf53_4 rfl ?_
  refine a_iload_n B dJ9_floorMod_7cf53_5 rfl ?_
  refine a_ixor B dJ9_floorMod_7cf53_6 ?_
  refine a_if_ge 18 B dJ9_floorMod_7cf53_7 (by decide) (fun c7 => ?_) (fun c7 => ?_)
  · refine a_iload_n B dJ9_floorMod_7cf53_18 rfl ?_
    exact a_iret B hr hlk dJ9_floorMod_7cf53_19 ⟨congrArg (fun z => some (Value.int z)) (by simp [fmI, rmI, c7]), rfl⟩
  refine a_iload_n B dJ9_floorMod_7cf53_10 rfl ?_
  refine a_if_eq 18 B dJ9_floorMod_7cf53_11 (by decide) (fun c11 => ?_) (fun c11 => ?_)
  · refine a_iload_n B dJ9_floorMod_7cf53_18 rfl ?_
    exact a_iret B hr hlk dJ9_floorMod_7cf53_19 ⟨congrArg (fun z => some (Value.int z)) (by simp [fmI, rmI, c7, c11]), rfl⟩
  refine a_iload_n B dJ9_floorMod_7cf53_14 rfl ?_
  refine a_iload_n B dJ9_floorMod_7cf53_15 rfl ?_
  refine a_iadd B dJ9_floorMod_7cf53_16 ?_
  exact a_iret B hr hlk dJ9_floorMod_7cf53_17 ⟨congrArg (fun z => some (Value.int z)) (by simp [fmI, rmI, c7, c11]), rfl⟩
set_option maxRecDepth 20000 in
theorem k_X1_isKind (v : Int32) (M : Mem) : CC l sk D cy A X mX1_isKind 1 [.int v] M (rI (bI (wi v 6)) M) := by
  refine Con.of (lo := [some (.int v)]) cf_X1_isKind (fun _ _ => wl_fst) 0 rfl (Nat.le_of_ble_eq_true rfl) (fun p e s m args below meth c A0 B hr hlk => ?_)
  have B : BS sk D cy (wl A cy 51 TC X) A0 p s m args c RX1 cX1_isKind 1 := B
  refine a_iload_n B dX1_isKind_0 rfl ?_
  refine a_bipush (v := 6) B dX1_isKind_1 (by decide) ?_
  refine a_callSN2r B rfl cf_X6_within ln_X1_11 st_X6_within (k_X6_within _ _ _) dX1_isKind_3 (Nat.le_of_ble_eq_true rfl) ⟨Nat.le_of_ble_eq_true rfl, Nat.le_of_ble_eq_true rfl⟩ ⟨rfl, rfl⟩ ?_
  exact a_zret B hr hlk (bI_nar _) dX1_isKind_6 ⟨congrArg (fun z => some (Value.int z)) (rfl), rfl⟩
end BASE
