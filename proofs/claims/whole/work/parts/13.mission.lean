
section C2
theorem a_mem {σ : Type} {p : Program} {l : Launch} {e : Env} {R : Room} {s : State} {m : MethodId} {args : Array Value} {below : List Frame} {meth : Method} {c : Code} {D : va_G} {A0 : Nat → Prop} {nL cells slots : Nat} {Q : State → Prop} {pc : Nat} {lo : List (Option Value)} {st : List Value} {wd : σ → va_W} {M M' : σ} (h : M = M') (k : AW p l e R s m args below meth c D wd A0 nL cells slots Q pc lo st M') : AW p l e R s m args below meth c D wd A0 nL cells slots Q pc lo st M := h ▸ k
def tkF (d : Dm) (sin : Int32) : Nat → Int32
  | 0 => 0
  | k + 1 => if takB d sin k = true then tkF d sin k ||| (1 : Int32) <<< (nI k &&& 31) else tkF d sin k
def gB (g : Int32) (p : Nat) : Bool := decide (g >>> (nI p &&& 31) &&& 1 = 1)
def bmost (d : Dm) (o : Option Nat) : Int32 := match o with
  | none => 0
  | some b => roomF d b
def tellV (d : Dm) (k : Nat) (what : Int32) : Int32 := if what = 0 then d (12 + k) else if what = 1 then d (20 + k) else if what = 2 then d (28 + k) else if what = 3 then d (36 + k) else if what = 4 then d (44 + k) else if what = 5 then d (52 + k) else if what = 6 then holdF d k else if what = 7 then roomF d k else if what = 8 then digF d k else bI (keepF d k)
def sumT (d : Dm) (what : Int32) : Nat → Int32
  | 0 => 0
  | k + 1 => sumT d what k + tellV d k what
def togT (d : Dm) (what : Int32) : Nat → Int32
  | 0 => 0
  | k + 1 => togT d what k ||| tellV d k what
def fullO (d : Dm) : Nat → Option Nat
  | 0 => none
  | k + 1 => match fullO d k with
    | none => some k
    | some b => if d (20 + b) < d (20 + k) then some k else some b
def fulM (d : Dm) (o : Option Nat) : Int32 := match o with
  | none => -1
  | some b => d (20 + b)
def spotC (d : Dm) : Nat → Int32
  | 0 => 0
  | k + 1 => if d (60 + k) = -1 then spotC d k else spotC d k + 1
def tkT (d : Dm) (g : Int32) : Nat → Int32
  | 0 => 0
  | k + 1 => if gB g k = true then tkT d g k ||| d (28 + k) else tkT d g k
theorem tcRk (i : Nat) : ∀ k, k < 8 → [5 + 12 * i + 0, 5 + 12 * i + 1, 5 + 12 * i + 2, 5 + 12 * i + 3, 5 + 12 * i + 4, 5 + 12 * i + 5, 5 + 12 * i + 6, 5 + 12 * i + 7][k]? = some (5 + 12 * i + k) := by
  intro k hk
  rcases (show k = 0 ∨ k = 1 ∨ k = 2 ∨ k = 3 ∨ k = 4 ∨ k = 5 ∨ k = 6 ∨ k = 7 by omega) with rfl | rfl | rfl | rfl | rfl | rfl | rfl | rfl <;> rfl
theorem ge_n {x y : Int32} {a b : Nat} (c : y ≤ x) (hx : x = nI a) (hy : y = nI b) (ha : a < 2 ^ 31) (hb : b < 2 ^ 31) : b ≤ a := by subst hx; subst hy; exact (nI_leI hb ha).mp c
theorem lt_n {x y : Int32} {a b : Nat} (c : ¬ y ≤ x) (hx : x = nI a) (hy : y = nI b) (ha : a < 2 ^ 31) (hb : b < 2 ^ 31) : a < b := by
  subst hx; subst hy
  exact Nat.lt_of_not_le (fun h => c (nI_le h ha))
theorem nI_ltN {x : Int32} {a b : Nat} (hx : x = nI b) (h : a < b) (hb : b < 2 ^ 31) : nI a < x := by subst hx; exact nI_lt h hb
theorem oI_ne {b : Nat} (h : b < 8) : ¬ oI (some b) = -1 := by
  rcases (show b = 0 ∨ b = 1 ∨ b = 2 ∨ b = 3 ∨ b = 4 ∨ b = 5 ∨ b = 6 ∨ b = 7 by omega) with rfl | rfl | rfl | rfl | rfl | rfl | rfl | rfl <;> decide
theorem fm_eq {x : Int32} {a : Nat} (h : x = nI a) (ha : a < 2 ^ 31) : fmI x 6 = rmI x 6 := by
  subst h
  have h1 : (0 : Int32) ≤ nI a ^^^ 6 := by
    have h2 : nI a ^^^ 6 = nI (a ^^^ 6) := fb_xorI a 6
    rw [h2]
    exact nI_pos' (Nat.xor_lt_two_pow ha (by omega))
  unfold fmI
  rw [if_pos h1]
theorem best_cong {d : Dm} {P P' : Nat → Bool} : ∀ n, (∀ k, k < n → P k = P' k) → bestF d P n = bestF d P' n := by
  intro n
  induction n with
  | zero => intro _; rfl
  | succ n ih =>
    intro h
    unfold bestF
    rw [ih (fun k hk => h k (by omega)), h n (by omega)]
theorem gB_bit : ∀ m, m < 256 → ∀ p, p < 8 → gB (nI m) p = m.testBit p := by decide +kernel
theorem tk_mask (d : Dm) (sin : Int32) : ∀ n, n ≤ 8 → ∃ m, m < 2 ^ n ∧ tkF d sin n = nI m ∧ ∀ k, k < n → m.testBit k = takB d sin k := by
  intro n
  induction n with
  | zero => intro _; exact ⟨0, by omega, rfl, fun k hk => by omega⟩
  | succ n ih =>
    intro hn
    obtain ⟨m, h1, h2, h3⟩ := ih (by omega)
    have hp : 2 ^ (n + 1) = 2 * 2 ^ n := by rw [Nat.pow_succ]; omega
    have hmn : m.testBit n = false := Nat.testBit_lt_two_pow h1
    by_cases hb : takB d sin n = true
    · refine ⟨m ||| 2 ^ n, ?_, ?_, fun k hk => ?_⟩
      · exact Nat.or_lt_two_pow (by omega) (by omega)
      · show (if takB d sin n = true then _ else _) = _
        rw [if_pos hb, h2, shl_bit n (by omega), fa_or]
      · rw [fb_bit_set]
        by_cases e : k = n
        · subst e; simp [hb]
        · rw [h3 k (by omega)]; simp [e]
    · refine ⟨m, by omega, ?_, fun k hk => ?_⟩
      · show (if takB d sin n = true then _ else _) = _
        rw [if_neg hb, h2]
      · by_cases e : k = n
        · subst e; rw [hmn]; simpa using hb
        · exact h3 k (by omega)
theorem best_tk {d : Dm} {sin : Int32} {n : Nat} (hn : n ≤ 8) : bestF d (gB (tkF d sin n)) n = bestF d (takB d sin) n := by
  obtain ⟨m, h1, h2, h3⟩ := tk_mask d sin n hn
  refine best_cong n (fun k hk => ?_)
  have : 2 ^ n ≤ 2 ^ 8 := Nat.pow_le_pow_right (by omega) hn
  rw [h2, gB_bit m (by omega) k (by omega), h3 k hk]
variable {l : Launch} {sk : (Nat → Nat) × (Nat → Nat)} {D : va_G} {cy : Nat → ClassId} {A : Nat → Nat} {X : va_W}

set_option maxRecDepth 20000 in
theorem k_X0_at (i k : Nat) (hi : i < 3) (hk : k < 8) (M : Mem) (hlt : nI k < M i 0) : CC l sk D cy A X mX0_at 0 [.ref (A (1 + 12 * i)), .int (nI k)] M (rA (A (5 + 12 * i + k)) M) := by
  refine Con.of (lo := [some (.ref (A (1 + 12 * i))), some (.int (nI k))]) cf_X0_at (fun _ _ => wl_fst) 0 rfl (Nat.le_of_ble_eq_true rfl) (fun p e s m args below meth c A0 B hr hlk => ?_)
  have B : BS sk D cy (wl A cy 51 TC X) A0 p s m args c RX0 cX0_at 2 := B
  refine a_iload_n B dX0_at_0 rfl ?_
  refine a_if_lt 27 B dX0_at_1 (by decide) (fun c1 => ?_) (fun c1 => ?_)
  · exact absurd c1 (nI_pos (by omega))
  refine a_iload_n B dX0_at_4 rfl ?_
  refine a_aload_n B dX0_at_5 rfl ?_
  refine a_getI B fl_X0_27 (by omega) (tcM i hi) rfl dX0_at_6 ?_
  refine a_icmp_ge 27 B dX0_at_9 (by decide) (fun c9 => ?_) (fun c9 => ?_)
  · exact absurd hlt (Int32.not_lt.mpr c9)
  refine a_iload_n B dX0_at_12 rfl ?_
  refine a_bipush (v := 8) B dX0_at_13 (by decide) ?_
  refine a_icmp_ge 27 B dX0_at_15 (by decide) (fun c15 => ?_) (fun c15 => ?_)
  · exact absurd (show (nI 8) ≤ nI k from c15) (nI_ge hk (by omega))
  refine a_aload_n B dX0_at_18 rfl ?_
  refine a_getR B fl_X0_39 (by omega) (tcM i hi) rfl dX0_at_19 ?_
  refine a_iload_n B dX0_at_22 rfl ?_
  refine a_aald k 2 B (by omega) (tcR i hi) rfl rfl (tcRk i k hk) (Nat.le_of_ble_eq_true rfl) dX0_at_23 ?_
  refine a_goto 28 B dX0_at_24 (by decide) ?_
  exact a_aret B hr hlk (Or.inl ⟨_, rfl⟩) (Or.inr ⟨_, rfl⟩) dX0_at_28 ⟨rfl, rfl⟩
set_option maxRecDepth 20000 in
theorem k_X0_atN (i : Nat) (hi : i < 3) (v : Int32) (M : Mem) (hn : v < 0 ∨ M i 0 ≤ v ∨ 8 ≤ v) : CC l sk D cy A X mX0_at 0 [.ref (A (1 + 12 * i)), .int v] M (rt1 (some .null) M) := by
  refine Con.of (lo := [some (.ref (A (1 + 12 * i))), some (.int v)]) cf_X0_at (fun _ _ => wl_fst) 0 rfl (Nat.le_of_ble_eq_true rfl) (fun p e s m args below meth c A0 B hr hlk => ?_)
  have B : BS sk D cy (wl A cy 51 TC X) A0 p s m args c RX0 cX0_at 2 := B
  refine a_iload_n B dX0_at_0 rfl ?_
  refine a_if_lt 27 B dX0_at_1 (by decide) (fun c1 => ?_) (fun c1 => ?_)
  · refine a_null B dX0_at_27 ?_
    exact a_aret B hr hlk (Or.inl ⟨_, rfl⟩) (Or.inl rfl) dX0_at_28 ⟨rfl, rfl⟩
  refine a_iload_n B dX0_at_4 rfl ?_
  refine a_aload_n B dX0_at_5 rfl ?_
  refine a_getI B fl_X0_27 (by omega) (tcM i hi) rfl dX0_at_6 ?_
  refine a_icmp_ge 27 B dX0_at_9 (by decide) (fun c9 => ?_) (fun c9 => ?_)
  · refine a_null B dX0_at_27 ?_
    exact a_aret B hr hlk (Or.inl ⟨_, rfl⟩) (Or.inl rfl) dX0_at_28 ⟨rfl, rfl⟩
  refine a_iload_n B dX0_at_12 rfl ?_
  refine a_bipush (v := 8) B dX0_at_13 (by decide) ?_
  refine a_icmp_ge 27 B dX0_at_15 (by decide) (fun c15 => ?_) (fun c15 => ?_)
  · refine a_null B dX0_at_27 ?_
    exact a_aret B hr hlk (Or.inl ⟨_, rfl⟩) (Or.inl rfl) dX0_at_28 ⟨rfl, rfl⟩
  exact absurd hn (by simp [c1, c9, c15])
set_option maxRecDepth 20000 in
theorem k_X0_placeToday (i : Nat) (hi : i < 3) (M : Mem) (hI : Inv (M i)) : CC l sk D cy A X mX0_placeToday 1 [.ref (A (1 + 12 * i))] M (rI (nI (todN (M i))) M) := by
  refine Con.of (lo := [some (.ref (A (1 + 12 * i)))]) cf_X0_placeToday (fun _ _ => wl_fst) 0 rfl (Nat.le_of_ble_eq_true rfl) (fun p e s m args below meth c A0 B hr hlk => ?_)
  have B : BS sk D cy (wl A cy 51 TC X) A0 p s m args c RX0 cX0_placeToday 1 := B
  obtain ⟨dn, hd1, hd2⟩ := hI.day
  refine a_aload_n B dX0_placeToday_0 rfl ?_
  refine a_getI B fl_X0_9 (by omega) (tcM i hi) rfl dX0_placeToday_1 ?_
  refine a_bipush (v := 6) B dX0_placeToday_4 (by decide) ?_
  refine a_callS2r B rfl cf_J9_floorMod_7cf53 lk_X0_92 st_J9_floorMod_7cf53 (k_J9_floorMod_7cf53 _ _ (by decide) _) dX0_placeToday_6 (Nat.le_of_ble_eq_true rfl) ⟨Nat.le_of_ble_eq_true rfl, Nat.le_of_ble_eq_true rfl⟩ ⟨rfl, rfl⟩ ?_
  exact a_iret B hr hlk dX0_placeToday_9 ⟨congrArg (fun z => some (Value.int z)) (by rw [fm_eq hd2 (by omega)]; exact hI.tod.2), rfl⟩
def drawZ (z : Int32) : Int32 := z * 1103515245 + 12345
set_option maxRecDepth 20000 in
theorem k_X0_draw (i : Nat) (hi : i < 3) (M : Mem) : CC l sk D cy A X mX0_draw 0 [.ref (A (1 + 12 * i))] M (rI (us (drawZ (M i 2)) 8) (stB M i (upd (M i) 2 (drawZ (M i 2))))) := by
  refine Con.of (lo := [some (.ref (A (1 + 12 * i)))]) cf_X0_draw (fun _ _ => wl_fst) 0 rfl (Nat.le_of_ble_eq_true rfl) (fun p e s m args below meth c A0 B hr hlk => ?_)
  have B : BS sk D cy (wl A cy 51 TC X) A0 p s m args c RX0 cX0_draw 1 := B
  refine a_aload_n B dX0_draw_0 rfl ?_
  refine a_aload_n B dX0_draw_1 rfl ?_
  refine a_getI B fl_X0_24 (by omega) (tcM i hi) rfl dX0_draw_2 ?_
  refine a_ldc B dX0_draw_5 kc_X0_97 ?_
  refine a_imul B dX0_draw_7 ?_
  refine a_sipush (v := 12345) B dX0_draw_8 (by decide) ?_
  refine a_iadd B dX0_draw_11 ?_
  refine a_putI B twC fl_X0_24 fp_0_4 (by omega) (tcM i hi) rfl dX0_draw_12 ?_
  refine a_aload_n B dX0_draw_15 rfl ?_
  refine a_getI B fl_X0_24 (by omega) (tcM i hi) rfl dX0_draw_16 ?_
  refine a_bipush (v := 8) B dX0_draw_19 (by decide) ?_
  refine a_iushr B dX0_draw_21 ?_
  exact a_iret B hr hlk dX0_draw_22 ⟨congrArg (fun z => some (Value.int z)) (by rw [upB_on]; rfl), upB_st⟩
set_option maxRecDepth 20000 in
theorem k_X0_tellOf (i k : Nat) (hi : i < 3) (hk : k < 8) (what : Int32) (M : Mem) (hI : Inv (M i)) : CC l sk D cy A X mX0_tellOf 2 [.ref (A (1 + 12 * i)), .ref (A (5 + 12 * i + k)), .int what] M (rI (tellV (M i) k what) M) := by
  refine Con.of (lo := [some (.ref (A (1 + 12 * i))), some (.ref (A (5 + 12 * i + k))), some (.int what)]) cf_X0_tellOf (fun _ _ => wl_fst) 0 rfl (Nat.le_of_ble_eq_true rfl) (fun p e s m args below meth c A0 B hr hlk => ?_)
  have B : BS sk D cy (wl A cy 51 TC X) A0 p s m args c RX0 cX0_tellOf 3 := B
  refine a_iload_n B dX0_tellOf_0 rfl ?_
  by_cases s1_0 : what = 0
  · refine a_tblIn 52 B dX0_tellOf_1 (by rw [s1_0]; decide) (by rw [s1_0]; decide) (by rw [s1_0]; rfl) (by decide) ?_
    refine a_aload_n B dX0_tellOf_52 rfl ?_
    refine a_getI B fl_X0_62 (by omega) (tcP i hi k hk) rfl dX0_tellOf_53 ?_
    exact a_iret B hr hlk dX0_tellOf_56 ⟨congrArg (fun z => some (Value.int z)) (by simp [tellV, s1_0]), rfl⟩
  by_cases s1_1 : what = 1
  · refine a_tblIn 57 B dX0_tellOf_1 (by rw [s1_1]; decide) (by rw [s1_1]; decide) (by rw [s1_1]; rfl) (by decide) ?_
    refine a_aload_n B dX0_tellOf_57 rfl ?_
    refine a_getI B fl_X0_65 (by omega) (tcP i hi k hk) rfl dX0_tellOf_58 ?_
    exact a_iret B hr hlk dX0_tellOf_61 ⟨congrArg (fun z => some (Value.int z)) (by simp [tellV, s1_0, s1_1]), rfl⟩
  by_cases s1_2 : what = 2
  · refine a_tblIn 62 B dX0_tellOf_1 (by rw [s1_2]; decide) (by rw [s1_2]; decide) (by rw [s1_2]; rfl) (by decide) ?_
    refine a_aload_n B dX0_tellOf_62 rfl ?_
    refine a_getI B fl_X0_68 (by omega) (tcP i hi k hk) rfl dX0_tellOf_63 ?_
    exact a_iret B hr hlk dX0_tellOf_66 ⟨congrArg (fun z => some (Value.int z)) (by simp [tellV, s1_0, s1_1, s1_2]), rfl⟩
  by_cases s1_3 : what = 3
  · refine a_tblIn 67 B dX0_tellOf_1 (by rw [s1_3]; decide) (by rw [s1_3]; decide) (by rw [s1_3]; rfl) (by decide) ?_
    refine a_aload_n B dX0_tellOf_67 rfl ?_
    refine a_getI B fl_X0_71 (by omega) (tcP i hi k hk) rfl dX0_tellOf_68 ?_
    exact a_iret B hr hlk dX0_tellOf_71 ⟨congrArg (fun z => some (Value.int z)) (by simp [tellV, s1_0, s1_1, s1_2, s1_3]), rfl⟩
  by_cases s1_4 : what = 4
  · refine a_tblIn 72 B dX0_tellOf_1 (by rw [s1_4]; decide) (by rw [s1_4]; decide) (by rw [s1_4]; rfl) (by decide) ?_
    refine a_aload_n B dX0_tellOf_72 rfl ?_
    refine a_getI B fl_X0_74 (by omega) (tcP i hi k hk) rfl dX0_tellOf_73 ?_
    exact a_iret B hr hlk dX0_tellOf_76 ⟨congrArg (fun z => some (Value.int z)) (by simp [tellV, s1_0, s1_1, s1_2, s1_3, s1_4]), rfl⟩
  by_cases s1_5 : what = 5
  · refine a_tblIn 77 B dX0_tellOf_1 (by rw [s1_5]; decide) (by rw [s1_5]; decide) (by rw [s1_5]; rfl) (by decide) ?_
    refine a_aload_n B dX0_tellOf_77 rfl ?_
    refine a_getI B fl_X0_77 (by omega) (tcP i hi k hk) rfl dX0_tellOf_78 ?_
    exact a_iret B hr hlk dX0_tellOf_81 ⟨congrArg (fun z => some (Value.int z)) (by simp [tellV, s1_0, s1_1, s1_2, s1_3, s1_4, s1_5]), rfl⟩
  by_cases s1_6 : what = 6
  · refine a_tblIn 82 B dX0_tellOf_1 (by rw [s1_6]; decide) (by rw [s1_6]; decide) (by rw [s1_6]; rfl) (by decide) ?_
    refine a_aload_n B dX0_tellOf_82 rfl ?_
    refine a_callV0r B rfl cf_X1_holding lk_X0_80 in_X1_holding se_X1_holding (wl_rc (by omega) (tcP i hi k hk) rfl rfl) (k_X1_holding i k hi hk _ hI) dX0_tellOf_83 (Nat.le_of_ble_eq_true rfl) ⟨Nat.le_of_ble_eq_true rfl, Nat.le_of_ble_eq_true rfl⟩ ⟨rfl, rfl⟩ ?_
    exact a_iret B hr hlk dX0_tellOf_86 ⟨congrArg (fun z => some (Value.int z)) (by simp [tellV, s1_0, s1_1, s1_2, s1_3, s1_4, s1_5, s1_6]), rfl⟩
  by_cases s1_7 : what = 7
  · refine a_tblIn 87 B dX0_tellOf_1 (by rw [s1_7]; decide) (by rw [s1_7]; decide) (by rw [s1_7]; rfl) (by decide) ?_
    refine a_aload_n B dX0_tellOf_87 rfl ?_
    refine a_callV0r B rfl cf_X1_holding lk_X0_80 in_X1_holding se_X1_holding (wl_rc (by omega) (tcP i hi k hk) rfl rfl) (k_X1_holding i k hi hk _ hI) dX0_tellOf_88 (Nat.le_of_ble_eq_true rfl) ⟨Nat.le_of_ble_eq_true rfl, Nat.le_of_ble_eq_true rfl⟩ ⟨rfl, rfl⟩ ?_
    refine a_aload_n B dX0_tellOf_91 rfl ?_
    refine a_getI B fl_X0_65 (by omega) (tcP i hi k hk) rfl dX0_tellOf_92 ?_
    refine a_isub B dX0_tellOf_95 ?_
    exact a_iret B hr hlk dX0_tellOf_96 ⟨congrArg (fun z => some (Value.int z)) (by simp [tellV, roomF, s1_0, s1_1, s1_2, s1_3, s1_4, s1_5, s1_6, s1_7]), rfl⟩
  by_cases s1_8 : what = 8
  · refine a_tblIn 97 B dX0_tellOf_1 (by rw [s1_8]; decide) (by rw [s1_8]; decide) (by rw [s1_8]; rfl) (by decide) ?_
    refine a_aload_n B dX0_tellOf_97 rfl ?_
    refine a_aload_n B dX0_tellOf_98 rfl ?_
    refine a_getI B fl_X0_15 (by omega) (tcM i hi) rfl dX0_tellOf_99 ?_
    refine a_aload_n B dX0_tellOf_102 rfl ?_
    refine a_getI B fl_X0_9 (by omega) (tcM i hi) rfl dX0_tellOf_103 ?_
    refine a_callV2r B rfl cf_X1_digesting lk_X0_84 in_X1_digesting se_X1_digesting (wl_rc (by omega) (tcP i hi k hk) rfl rfl) (k_X1_digesting i k hi hk _ _ _ hI.wa) dX0_tellOf_106 (Nat.le_of_ble_eq_true rfl) ⟨Nat.le_of_ble_eq_true rfl, Nat.le_of_ble_eq_true rfl⟩ ⟨rfl, rfl⟩ ?_
    exact a_iret B hr hlk dX0_tellOf_109 ⟨congrArg (fun z => some (Value.int z)) (by simp [tellV, digF, s1_0, s1_1, s1_2, s1_3, s1_4, s1_5, s1_6, s1_7, s1_8]), rfl⟩
  refine a_tblOut 110 B dX0_tellOf_1 (by have h0 := lv_neT s1_0 (show (0 : Int32).toInt = 0 by decide); have h1 := lv_neT s1_1 (show (1 : Int32).toInt = 1 by decide); have h2 := lv_neT s1_2 (show (2 : Int32).toInt = 2 by decide); have h3 := lv_neT s1_3 (show (3 : Int32).toInt = 3 by decide); have h4 := lv_neT s1_4 (show (4 : Int32).toInt = 4 by decide); have h5 := lv_neT s1_5 (show (5 : Int32).toInt = 5 by decide); have h6 := lv_neT s1_6 (show (6 : Int32).toInt = 6 by decide); have h7 := lv_neT s1_7 (show (7 : Int32).toInt = 7 by decide); have h8 := lv_neT s1_8 (show (8 : Int32).toInt = 8 by decide); omega) (by decide) ?_
  refine a_aload_n B dX0_tellOf_110 rfl ?_
  refine a_callV0r B rfl cf_X1_keepsSilent lk_X0_88 in_X1_keepsSilent se_X1_keepsSilent (wl_rc (by omega) (tcP i hi k hk) rfl rfl) (k_X1_keepsSilent i k hi hk _ hI) dX0_tellOf_111 (Nat.le_of_ble_eq_true rfl) ⟨Nat.le_of_ble_eq_true rfl, Nat.le_of_ble_eq_true rfl⟩ ⟨rfl, rfl⟩ ?_
  refine a_if_eq 121 B dX0_tellOf_114 (by decide) (fun c114 => ?_) (fun c114 => ?_)
  · refine a_iconst (v := 0) B dX0_tellOf_121 (by decide) ?_
    exact a_iret B hr hlk dX0_tellOf_122 ⟨congrArg (fun z => some (Value.int z)) (by simp only [tellV, if_neg, s1_0, s1_1, s1_2, s1_3, s1_4, s1_5, s1_6, s1_7, s1_8]; cases hkp : keepF (M i) k <;> simp [hkp, bI] at c114 ⊢), rfl⟩
  refine a_iconst (v := 1) B dX0_tellOf_117 (by decide) ?_
  refine a_goto 122 B dX0_tellOf_118 (by decide) ?_
  exact a_iret B hr hlk dX0_tellOf_122 ⟨congrArg (fun z => some (Value.int z)) (by simp only [tellV, if_neg, s1_0, s1_1, s1_2, s1_3, s1_4, s1_5, s1_6, s1_7, s1_8]; cases hkp : keepF (M i) k <;> simp [hkp, bI] at c114 ⊢), rfl⟩
set_option maxRecDepth 20000 in
set_option maxHeartbeats 4000000 in
theorem k_X0_takersOf (i : Nat) (hi : i < 3) (sin : Int32) (M : Mem) (hI : Inv (M i)) : CC l sk D cy A X mX0_takersOf 1 [.ref (A (1 + 12 * i)), .int sin] M (rI (tkF (M i) sin (nOf (M i))) M) := by
  refine Con.of (lo := [some (.ref (A (1 + 12 * i))), some (.int sin), none, none, none]) cf_X0_takersOf (fun _ _ => wl_fst) 3 rfl (Nat.le_of_ble_eq_true rfl) (fun p e s m args below meth c A0 B hr hlk => ?_)
  have B : BS sk D cy (wl A cy 51 TC X) A0 p s m args c RX0 cX0_takersOf 5 := B
  obtain ⟨N, hN, eN, eNo⟩ := hI.n
  have loop : ∀ n k, N + 1 ≤ k + n → k ≤ N → ∀ o4 : Option Value, AW p l e (rmK 1 (34 * 1)) s m args below meth c D (wl A cy 51 TC X) A0 5 0 0 (MQ below (QG D (wl A cy 51 TC X) A0 (rI (tkF (M i) sin (nOf (M i))) M)) args s 0 0 A0) 4 [some (.ref (A (1 + 12 * i))), some (.int sin), some (.int (tkF (M i) sin k)), some (.int (nI k)), o4] [] (M) := by
    intro n
    induction n with
    | zero => intro k h1 h2; omega
    | succ n ih =>
      intro k h1 h2 o4
      refine a_iload_n B dX0_takersOf_4 rfl ?_
      refine a_aload_n B dX0_takersOf_5 rfl ?_
      refine a_getI B fl_X0_27 (by omega) (tcM i hi) rfl dX0_takersOf_6 ?_
      refine a_icmp_ge 48 B dX0_takersOf_9 (by decide) (fun c9 => ?_) (fun c9 => ?_)
      · have e1 : k = N := by have := ge_n c9 rfl eN (by omega) (by omega); omega
        subst e1
        refine a_iload_n B dX0_takersOf_48 rfl ?_
        exact a_iret B hr hlk dX0_takersOf_49 ⟨by rw [eNo], rfl⟩
      have hlt0 := lt_n c9 rfl eN (by omega) (by omega)
      have hk : k < 8 := by omega
      have hlt : nI k < M i 0 := nI_ltN eN hlt0 (by omega)
      refine a_aload_n B dX0_takersOf_12 rfl ?_
      refine a_iload_n B dX0_takersOf_13 rfl ?_
      refine a_callV1r B rfl cf_X0_at lk_X0_50 in_X0_at se_X0_at (wl_rc (by omega) (tcM i hi) rfl rfl) (k_X0_at i k hi hk _ hlt) dX0_takersOf_14 (Nat.le_of_ble_eq_true rfl) ⟨Nat.le_of_ble_eq_true rfl, Nat.le_of_ble_eq_true rfl⟩ ⟨rfl, rfl⟩ ?_
      refine p_astore4 B dX0_takersOf_17 (by decide) (k := ?_)
      refine a_aload B dX0_takersOf_19 rfl ?_
      refine a_ifnull B dX0_takersOf_21 ?_
      refine a_aload B dX0_takersOf_24 rfl ?_
      refine a_getI B fl_X0_68 (by omega) (tcP i hi k hk) rfl dX0_takersOf_26 ?_
      refine a_iload_n B dX0_takersOf_29 rfl ?_
      refine a_ishr B dX0_takersOf_30 ?_
      refine a_iconst (v := 1) B dX0_takersOf_31 (by decide) ?_
      refine a_iand B dX0_takersOf_32 ?_
      refine a_if_eq 42 B dX0_takersOf_33 (by decide) (fun c33 => ?_) (fun c33 => ?_)
      · refine p_iinc3 1 B dX0_takersOf_42 (by decide) (by decide) (k := ?_)
        refine a_goto 4 B dX0_takersOf_45 (by decide) ?_
        have e2 : tkF (M i) sin (k + 1) = tkF (M i) sin k := by rw [tkF, if_neg]; unfold takB; simpa using (and1_0.mp c33)
        have h9 := ih (k + 1) (by omega) (by omega)
        rw [e2] at h9
        rw [nI_1]
        exact h9 _
      refine a_iload_n B dX0_takersOf_36 rfl ?_
      refine a_iconst (v := 1) B dX0_takersOf_37 (by decide) ?_
      refine a_iload_n B dX0_takersOf_38 rfl ?_
      refine a_ishl B dX0_takersOf_39 ?_
      refine a_ior B dX0_takersOf_40 ?_
      refine p_istore2 B dX0_takersOf_41 (by decide) (k := ?_)
      refine p_iinc3 1 B dX0_takersOf_42 (by decide) (by decide) (k := ?_)
      refine a_goto 4 B dX0_takersOf_45 (by decide) ?_
      have e2 : tkF (M i) sin (k + 1) = tkF (M i) sin k ||| (1 : Int32) <<< (nI k &&& 31) := by rw [tkF, if_pos]; unfold takB; simpa using (and1_iff.mp c33)
      have h9 := ih (k + 1) (by omega) (by omega)
      rw [e2] at h9
      rw [nI_1]
      exact h9 _
  refine a_iconst (v := 0) B dX0_takersOf_0 (by decide) ?_
  refine p_istore2 B dX0_takersOf_1 (by decide) (k := ?_)
  refine a_iconst (v := 0) B dX0_takersOf_2 (by decide) ?_
  refine p_istore3 B dX0_takersOf_3 (by decide) (k := ?_)
  exact loop (N + 1) 0 (by omega) (by omega) _
set_option maxRecDepth 20000 in
set_option maxHeartbeats 4000000 in
theorem k_X0_hungriestOf (i : Nat) (hi : i < 3) (g : Int32) (M : Mem) (hI : Inv (M i)) : CC l sk D cy A X mX0_hungriestOf 2 [.ref (A (1 + 12 * i)), .int g] M (rI (oI (bestF (M i) (gB g) (nOf (M i)))) M) := by
  refine Con.of (lo := [some (.ref (A (1 + 12 * i))), some (.int g), none, none, none, none, none]) cf_X0_hungriestOf (fun _ _ => wl_fst) 5 rfl (Nat.le_of_ble_eq_true rfl) (fun p e s m args below meth c A0 B hr hlk => ?_)
  have B : BS sk D cy (wl A cy 51 TC X) A0 p s m args c RX0 cX0_hungriestOf 7 := B
  obtain ⟨N, hN, eN, eNo⟩ := hI.n
  have loop : ∀ n k, N + 1 ≤ k + n → k ≤ N → ∀ o5 o6 : Option Value, AW p l e (rmK 2 (34 * 2)) s m args below meth c D (wl A cy 51 TC X) A0 7 0 0 (MQ below (QG D (wl A cy 51 TC X) A0 (rI (oI (bestF (M i) (gB g) (nOf (M i)))) M)) args s 0 0 A0) 7 [some (.ref (A (1 + 12 * i))), some (.int g), some (.int (oI (bestF (M i) (gB g) k))), some (.int (bmost (M i) (bestF (M i) (gB g) k))), some (.int (nI k)), o5, o6] [] (M) := by
    intro n
    induction n with
    | zero => intro k h1 h2; omega
    | succ n ih =>
      intro k h1 h2 o5 o6
      refine a_iload B dX0_hungriestOf_7 rfl ?_
      refine a_aload_n B dX0_hungriestOf_9 rfl ?_
      refine a_getI B fl_X0_27 (by omega) (tcM i hi) rfl dX0_hungriestOf_10 ?_
      refine a_icmp_ge 74 B dX0_hungriestOf_13 (by decide) (fun c13 => ?_) (fun c13 => ?_)
      · have e1 : k = N := by have := ge_n c13 rfl eN (by omega) (by omega); omega
        subst e1
        refine a_iload_n B dX0_hungriestOf_74 rfl ?_
        exact a_iret B hr hlk dX0_hungriestOf_75 ⟨by rw [eNo], rfl⟩
      have hlt0 := lt_n c13 rfl eN (by omega) (by omega)
      have hk : k < 8 := by omega
      have hlt : nI k < M i 0 := nI_ltN eN hlt0 (by omega)
      refine a_aload_n B dX0_hungriestOf_16 rfl ?_
      refine a_iload B dX0_hungriestOf_17 rfl ?_
      refine a_callV1r B rfl cf_X0_at lk_X0_50 in_X0_at se_X0_at (wl_rc (by omega) (tcM i hi) rfl rfl) (k_X0_at i k hi hk _ hlt) dX0_hungriestOf_19 (Nat.le_of_ble_eq_true rfl) ⟨Nat.le_of_ble_eq_true rfl, Nat.le_of_ble_eq_true rfl⟩ ⟨rfl, rfl⟩ ?_
      refine p_astore5 B dX0_hungriestOf_22 (by decide) (k := ?_)
      refine a_aload B dX0_hungriestOf_24 rfl ?_
      refine a_ifnull B dX0_hungriestOf_26 ?_
      refine a_iload_n B dX0_hungriestOf_29 rfl ?_
      refine a_iload B dX0_hungriestOf_30 rfl ?_
      refine a_ishr B dX0_hungriestOf_32 ?_
      refine a_iconst (v := 1) B dX0_hungriestOf_33 (by decide) ?_
      refine a_iand B dX0_hungriestOf_34 ?_
      refine a_if_eq 68 B dX0_hungriestOf_35 (by decide) (fun c35 => ?_) (fun c35 => ?_)
      · refine p_iinc4 1 B dX0_hungriestOf_68 (by decide) (by decide) (k := ?_)
        refine a_goto 7 B dX0_hungriestOf_71 (by decide) ?_
        have hg : gB g k = false := by unfold gB; simpa using (and1_0.mp c35)
        have e2 : bestF (M i) (gB g) (k + 1) = bestF (M i) (gB g) k := by rw [bestF]; cases bestF (M i) (gB g) k <;> simp [hg]
        have h9 := ih (k + 1) (by omega) (by omega)
        rw [e2] at h9
        rw [nI_1]
        exact h9 _ _
      refine a_aload B dX0_hungriestOf_38 rfl ?_
      refine a_callV0r B rfl cf_X1_holding lk_X0_80 in_X1_holding se_X1_holding (wl_rc (by omega) (tcP i hi k hk) rfl rfl) (k_X1_holding i k hi hk _ hI) dX0_hungriestOf_40 (Nat.le_of_ble_eq_true rfl) ⟨Nat.le_of_ble_eq_true rfl, Nat.le_of_ble_eq_true rfl⟩ ⟨rfl, rfl⟩ ?_
      refine a_aload B dX0_hungriestOf_43 rfl ?_
      refine a_getI B fl_X0_65 (by omega) (tcP i hi k hk) rfl dX0_hungriestOf_45 ?_
      refine a_isub B dX0_hungriestOf_48 ?_
      refine p_istore6 B dX0_hungriestOf_49 (by decide) (k := ?_)
      have hg : gB g k = true := by unfold gB; simpa using (and1_iff.mp c35)
      cases hb : bestF (M i) (gB g) k with
      | none =>
        refine a_iload_n B dX0_hungriestOf_51 rfl ?_
        refine a_iconst (v := (-1)) B dX0_hungriestOf_52 (by decide) ?_
        refine a_icmp_eq 62 B dX0_hungriestOf_53 (by decide) (fun c53 => ?_) (fun c53 => ?_)
        · refine a_iload B dX0_hungriestOf_62 rfl ?_
          refine p_istore2 B dX0_hungriestOf_64 (by decide) (k := ?_)
          refine a_iload B dX0_hungriestOf_65 rfl ?_
          refine p_istore3 B dX0_hungriestOf_67 (by decide) (k := ?_)
          refine p_iinc4 1 B dX0_hungriestOf_68 (by decide) (by decide) (k := ?_)
          refine a_goto 7 B dX0_hungriestOf_71 (by decide) ?_
          have e2 : bestF (M i) (gB g) (k + 1) = some k := by rw [bestF, hb]; simp [hg]
          have h9 := ih (k + 1) (by omega) (by omega)
          rw [e2] at h9
          rw [nI_1]
          exact h9 _ _
        exact absurd rfl c53
      | some b =>
        have hb8 : b < 8 := by have := best_lt _ _ _ _ hb; omega
        refine a_iload_n B dX0_hungriestOf_51 rfl ?_
        refine a_iconst (v := (-1)) B dX0_hungriestOf_52 (by decide) ?_
        refine a_icmp_eq 62 B dX0_hungriestOf_53 (by decide) (fun c53 => ?_) (fun c53 => ?_)
        · exact absurd c53 (oI_ne hb8)
        refine a_iload B dX0_hungriestOf_56 rfl ?_
        refine a_iload_n B dX0_hungriestOf_58 rfl ?_
        refine a_icmp_le 68 B dX0_hungriestOf_59 (by decide) (fun c59 => ?_) (fun c59 => ?_)
        · refine p_iinc4 1 B dX0_hungriestOf_68 (by decide) (by decide) (k := ?_)
          refine a_goto 7 B dX0_hungriestOf_71 (by decide) ?_
          have e2 : bestF (M i) (gB g) (k + 1) = some b := by rw [bestF, hb]; simp only [hg, if_true]; rw [if_neg]; exact Int32.not_lt.mpr c59
          have h9 := ih (k + 1) (by omega) (by omega)
          rw [e2] at h9
          rw [nI_1]
          exact h9 _ _
        refine a_iload B dX0_hungriestOf_62 rfl ?_
        refine p_istore2 B dX0_hungriestOf_64 (by decide) (k := ?_)
        refine a_iload B dX0_hungriestOf_65 rfl ?_
        refine p_istore3 B dX0_hungriestOf_67 (by decide) (k := ?_)
        refine p_iinc4 1 B dX0_hungriestOf_68 (by decide) (by decide) (k := ?_)
        refine a_goto 7 B dX0_hungriestOf_71 (by decide) ?_
        have e2 : bestF (M i) (gB g) (k + 1) = some k := by rw [bestF, hb]; simp only [hg, if_true]; rw [if_pos]; exact Int32.not_le.mp c59
        have h9 := ih (k + 1) (by omega) (by omega)
        rw [e2] at h9
        rw [nI_1]
        exact h9 _ _
  refine a_iconst (v := (-1)) B dX0_hungriestOf_0 (by decide) ?_
  refine p_istore2 B dX0_hungriestOf_1 (by decide) (k := ?_)
  refine a_iconst (v := 0) B dX0_hungriestOf_2 (by decide) ?_
  refine p_istore3 B dX0_hungriestOf_3 (by decide) (k := ?_)
  refine a_iconst (v := 0) B dX0_hungriestOf_4 (by decide) ?_
  refine p_istore4 B dX0_hungriestOf_5 (by decide) (k := ?_)
  exact loop (N + 1) 0 (by omega) (by omega) _ _
end C2
