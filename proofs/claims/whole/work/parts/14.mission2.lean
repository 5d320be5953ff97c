
section C3
def neB (dead : Nat) (p : Nat) : Bool := decide (p ≠ dead)
def buryD (d : Dm) (dead : Nat) : Dm := match bestF d (neB dead) (nOf d) with
  | none => d
  | some q => upd (upd (upd (upd d (36 + q) (d (36 + q) ||| d (36 + dead))) (36 + dead) 0) (20 + dead) 0) (28 + dead) 0
theorem gB_ne : ∀ dead, dead < 8 → ∀ p, p < 8 → gB ((1 : Int32) <<< (nI dead &&& 31) ^^^ (-1)) p = neB dead p := by decide +kernel
theorem best_ne {d : Dm} {dead n : Nat} (hd : dead < 8) (hn : n ≤ 8) : bestF d (gB ((1 : Int32) <<< (nI dead &&& 31) ^^^ (-1))) n = bestF d (neB dead) n := best_cong n (fun k hk => gB_ne dead hd k (by omega))
theorem best_P {d : Dm} {P : Nat → Bool} : ∀ n b, bestF d P n = some b → P b = true := by
  intro n
  induction n with
  | zero => intro b h; simp [bestF] at h
  | succ n ih =>
    intro b h
    unfold bestF at h
    cases hb : bestF d P n with
    | none =>
      rw [hb] at h; dsimp only at h
      by_cases hp : P n = true
      · rw [if_pos hp] at h; cases h; exact hp
      · rw [if_neg hp] at h; cases h
    | some c =>
      rw [hb] at h
      dsimp only at h
      by_cases hp : P n = true
      · rw [if_pos hp] at h
        split at h
        · cases h; exact hp
        · cases h; exact ih _ hb
      · rw [if_neg hp] at h; cases h; exact ih _ hb
def welV (d : Dm) : Int32 := if d 0 < 8 then d 0 else -1
def welF (d : Dm) (kind sins : Int32) : Dm := if d 0 < 8 then beginF (upd d 0 (d 0 + 1)) (nOf d) kind sins else d
theorem sub_room {d : Dm} {p : Nat} (hI : Inv d) (hp : p < 8) : (roomF d p < 0) ↔ ¬ d (20 + p) ≤ holdF d p := by
  obtain ⟨a, ha, ea⟩ := hI.s hp
  obtain ⟨b, hb, eb⟩ := holds_le (k := d (12 + p)) (hI.kn hp) (hI.he hp)
  unfold roomF
  rw [ea, show holdF d p = nI b from eb, nI_leI (by omega) (by omega)]
  constructor
  · intro h hc
    rw [pk_sub hc] at h
    exact absurd h (nI_pos (by omega))
  · intro h
    exact pk_sneg (by omega) (by omega)
theorem cpB_st {M : Mem} {b0 s0 b1 d0 n : Nat} : cpB M b0 s0 b1 d0 n = stB M b1 (fun k => if d0 ≤ k ∧ k < d0 + n then M b0 (s0 + (k - d0)) else M b1 k) := by
  funext b k
  unfold cpB stB
  by_cases hb : b = b1
  · subst hb
    by_cases hk : d0 ≤ k ∧ k < d0 + n
    · rw [if_pos ⟨rfl, hk⟩, if_pos rfl, if_pos hk]
    · rw [if_neg (fun q => hk q.2), if_pos rfl, if_neg hk]
  · rw [if_neg (fun q => hb q.1), if_neg hb]
def likeK (d e : Dm) (k : Nat) : Dm := fun n => if n < 12 ∨ (60 ≤ n ∧ n < 70) then e n else if n < 60 ∧ (n - 12) % 8 < k then e n else d n
def likeF (d e : Dm) : Dm := likeK d e (nOf e)
theorem likeK_s {d e : Dm} {k : Nat} (hk : k < 8) : likeP (likeK d e k) e k k = likeK d e (k + 1) := by
  funext n
  unfold likeP upd likeK
  by_cases h1 : n = 52 + k
  · rw [if_pos h1, if_neg (by omega), if_pos (by omega), h1]
  rw [if_neg h1]
  by_cases h2 : n = 44 + k
  · rw [if_pos h2, if_neg (by omega), if_pos (by omega), h2]
  rw [if_neg h2]
  by_cases h3 : n = 36 + k
  · rw [if_pos h3, if_neg (by omega), if_pos (by omega), h3]
  rw [if_neg h3]
  by_cases h4 : n = 28 + k
  · rw [if_pos h4, if_neg (by omega), if_pos (by omega), h4]
  rw [if_neg h4]
  by_cases h5 : n = 20 + k
  · rw [if_pos h5, if_neg (by omega), if_pos (by omega), h5]
  rw [if_neg h5]
  by_cases h6 : n = 12 + k
  · rw [if_pos h6, if_neg (by omega), if_pos (by omega), h6]
  rw [if_neg h6]
  by_cases h7 : n < 12 ∨ (60 ≤ n ∧ n < 70)
  · rw [if_pos h7, if_pos h7]
  · rw [if_neg h7, if_neg h7]
    by_cases h8 : n < 60 ∧ (n - 12) % 8 < k
    · rw [if_pos h8, if_pos (by omega)]
    · rw [if_neg h8, if_neg (by omega)]
theorem like0 {M : Mem} {i j : Nat} (hij : i ≠ j) : cpB (cpB (upB (upB (upB (upB (upB (upB M i 1 (M j 1)) i 3 (M j 3)) i 4 (M j 4)) i 5 (M j 5)) i 2 (M j 2)) i 0 (M j 0)) j 6 i 6 6) j 60 i 60 10 = stB M i (likeK (M i) (M j) 0) := by
  simp only [cpB_st, upB_st, stB_at, stB_st, stB_ne (Ne.symm hij)]
  congr 1
  funext n
  unfold likeK upd
  by_cases h1 : 60 ≤ n ∧ n < 70
  · rw [if_pos (by omega), if_pos (by omega)]
    congr 1
    omega
  rw [if_neg (by omega)]
  by_cases h2 : 6 ≤ n ∧ n < 12
  · rw [if_pos (by omega), if_pos (by omega)]
    congr 1
    omega
  rw [if_neg (by omega)]
  by_cases h3 : n = 0
  · rw [if_pos h3, if_pos (by omega), h3]
  by_cases h4 : n = 2
  · rw [if_neg h3, if_pos h4, if_pos (by omega), h4]
  by_cases h5 : n = 5
  · rw [if_neg h3, if_neg h4, if_pos h5, if_pos (by omega), h5]
  by_cases h6 : n = 4
  · rw [if_neg h3, if_neg h4, if_neg h5, if_pos h6, if_pos (by omega), h6]
  by_cases h7 : n = 3
  · rw [if_neg h3, if_neg h4, if_neg h5, if_neg h6, if_pos h7, if_pos (by omega), h7]
  by_cases h8 : n = 1
  · rw [if_neg h3, if_neg h4, if_neg h5, if_neg h6, if_neg h7, if_pos h8, if_pos (by omega), h8]
  rw [if_neg h3, if_neg h4, if_neg h5, if_neg h6, if_neg h7, if_neg h8, if_neg (by omega), if_neg (by omega)]
theorem inv_or {M : Mem} {i : Nat} {v : Int32} (hI : Inv (M i)) (hv : ∃ n, n ≤ 255 ∧ v = nI n) : Inv ((upB M i 4 (M i 4 ||| v)) i) := by
  rw [upB_st, stB_at]
  obtain ⟨n1, hn1, e1⟩ := or_le hI.ou hv
  exact hI.up (Or.inl (by omega)) e1 (fun _ _ => hn1)
theorem likeF_nOf (d e : Dm) : nOf (likeF d e) = nOf e := by unfold nOf likeF likeK; rw [if_pos (by omega)]
theorem Inv.like {d e : Dm} (hd : Inv d) (he : Inv e) (k : Nat) : Inv (likeK d e k) := by
  refine ⟨fun j hj hj2 => ?_, fun j hj => ?_⟩
  · unfold likeK
    split
    · exact he.1 j hj hj2
    · split
      · exact he.1 j hj hj2
      · exact hd.1 j hj hj2
  · have e1 : likeK d e k (6 + j) = e (6 + j) := by unfold likeK; rw [if_pos (by omega)]
    rw [e1]
    exact he.2 j hj
variable {l : Launch} {sk : (Nat → Nat) × (Nat → Nat)} {D : va_G} {cy : Nat → ClassId} {A : Nat → Nat} {X : va_W}

set_option maxRecDepth 20000 in
theorem k_X1_eat (i k : Nat) (hi : i < 3) (hk : k < 8) (sin words : Int32) (M : Mem) (hI : Inv (M i)) (hw : ∃ w, w ≤ 40 ∧ words = nI w) : CC l sk D cy A X mX1_eat 2 [.ref (A (5 + 12 * i + k)), .int sin, .int words, .int (M i 3)] M (rV (stB M i (eatF (M i) k sin words))) := by
  refine Con.of (lo := [some (.ref (A (5 + 12 * i + k))), some (.int sin), some (.int words), some (.int (M i 3))]) cf_X1_eat (fun _ _ => wl_fst) 0 rfl (Nat.le_of_ble_eq_true rfl) (fun p e s m args below meth c A0 B hr hlk => ?_)
  have B : BS sk D cy (wl A cy 51 TC X) A0 p s m args c RX1 cX1_eat 4 := B
  obtain ⟨a, ha, ea⟩ := hI.s hk
  obtain ⟨b, hb, eb⟩ := swF_le hI (p := k) (sin := sin) hw
  obtain ⟨he, hhe, ehe⟩ := hI.he hk
  obtain ⟨wa, hwa, ewa⟩ := hI.wa
  obtain ⟨wn, hwn, ewn⟩ := hw
  have m1 := hld_mn (t := 999) (nn_add ea eb (by omega))
  have m2 := hld_mn (t := 9999) (nn_add (y := 1) (b := 1) ehe rfl (by omega))
  refine a_aload_n B dX1_eat_0 rfl ?_
  refine a_aload_n B dX1_eat_1 rfl ?_
  refine a_getI B fl_X1_23 (by omega) (tcP i hi k hk) rfl dX1_eat_2 ?_
  refine a_aload_n B dX1_eat_5 rfl ?_
  refine a_iload_n B dX1_eat_6 rfl ?_
  refine a_iload_n B dX1_eat_7 rfl ?_
  refine a_iload_n B dX1_eat_8 rfl ?_
  refine a_callV3r B rfl cf_X1_swelling lk_X1_57 in_X1_swelling se_X1_swelling (wl_rc (by omega) (tcP i hi k hk) rfl rfl) (k_X1_swelling i k hi hk _ _ _ _ (wa_nn ewn ewa hwn hwa)) dX1_eat_9 (Nat.le_of_ble_eq_true rfl) ⟨Nat.le_of_ble_eq_true rfl, Nat.le_of_ble_eq_true rfl⟩ ⟨rfl, rfl⟩ ?_
  refine a_iadd B dX1_eat_12 ?_
  refine a_sipush (v := 999) B dX1_eat_13 (by decide) ?_
  refine a_mmin B lk_X1_48 dX1_eat_16 (by rfl) (by rfl) ⟨by decide, trivial⟩ ⟨rfl, rfl⟩ ?_
  refine a_putI B twC fl_X1_23 fp_1_1 (by omega) (tcP i hi k hk) rfl dX1_eat_19 ?_
  refine a_aload_n B dX1_eat_22 rfl ?_
  refine a_dup B dX1_eat_23 rfl ?_
  refine a_getI B fl_X1_29 (by omega) (tcP i hi k hk) rfl dX1_eat_24 ?_
  refine a_iconst (v := 1) B dX1_eat_27 (by decide) ?_
  refine a_iload_n B dX1_eat_28 rfl ?_
  refine a_ishl B dX1_eat_29 ?_
  refine a_ior B dX1_eat_30 ?_
  refine a_putI B twC fl_X1_29 fp_1_3 (by omega) (tcP i hi k hk) rfl dX1_eat_31 ?_
  refine a_aload_n B dX1_eat_34 rfl ?_
  refine a_aload_n B dX1_eat_35 rfl ?_
  refine a_getI B fl_X1_32 (by omega) (tcP i hi k hk) rfl dX1_eat_36 ?_
  refine a_iconst (v := 1) B dX1_eat_39 (by decide) ?_
  refine a_iadd B dX1_eat_40 ?_
  refine a_sipush (v := 9999) B dX1_eat_41 (by decide) ?_
  refine a_mmin B lk_X1_48 dX1_eat_44 (by rfl) (by rfl) ⟨by decide, trivial⟩ ⟨rfl, rfl⟩ ?_
  refine a_putI B twC fl_X1_32 fp_1_4 (by omega) (tcP i hi k hk) rfl dX1_eat_47 ?_
  exact a_vret B hr hlk dX1_eat_50 ⟨rfl, by unfold swellF at m1; simp only [upB_st, stB_at, stB_st, eatF, swellF, pk_un (show 44 + k ≠ 36 + k by omega), pk_un (show 44 + k ≠ 20 + k by omega), m1, m2]⟩
set_option maxRecDepth 20000 in
theorem k_X1_fallIll (i k : Nat) (hi : i < 3) (hk : k < 8) (M : Mem) (hI : Inv (M i)) : CC l sk D cy A X mX1_fallIll 1 [.ref (A (5 + 12 * i + k))] M (rV (stB M i (fallF (M i) k))) := by
  refine Con.of (lo := [some (.ref (A (5 + 12 * i + k)))]) cf_X1_fallIll (fun _ _ => wl_fst) 0 rfl (Nat.le_of_ble_eq_true rfl) (fun p e s m args below meth c A0 B hr hlk => ?_)
  have B : BS sk D cy (wl A cy 51 TC X) A0 p s m args c RX1 cX1_fallIll 1 := B
  obtain ⟨a, ha, ea⟩ := hI.il hk
  have m2 := hld_mn (t := 9999) (nn_add (y := 1) (b := 1) ea rfl (by omega))
  refine a_aload_n B dX1_fallIll_0 rfl ?_
  refine a_iconst (v := 0) B dX1_fallIll_1 (by decide) ?_
  refine a_putI B twC fl_X1_29 fp_1_3 (by omega) (tcP i hi k hk) rfl dX1_fallIll_2 ?_
  refine a_aload_n B dX1_fallIll_5 rfl ?_
  refine a_iconst (v := 0) B dX1_fallIll_6 (by decide) ?_
  refine a_putI B twC fl_X1_23 fp_1_1 (by omega) (tcP i hi k hk) rfl dX1_fallIll_7 ?_
  refine a_aload_n B dX1_fallIll_10 rfl ?_
  refine a_aload_n B dX1_fallIll_11 rfl ?_
  refine a_getI B fl_X1_35 (by omega) (tcP i hi k hk) rfl dX1_fallIll_12 ?_
  refine a_iconst (v := 1) B dX1_fallIll_15 (by decide) ?_
  refine a_iadd B dX1_fallIll_16 ?_
  refine a_sipush (v := 9999) B dX1_fallIll_17 (by decide) ?_
  refine a_mmin B lk_X1_48 dX1_fallIll_20 (by rfl) (by rfl) ⟨by decide, trivial⟩ ⟨rfl, rfl⟩ ?_
  refine a_putI B twC fl_X1_35 fp_1_5 (by omega) (tcP i hi k hk) rfl dX1_fallIll_23 ?_
  exact a_vret B hr hlk dX1_fallIll_26 ⟨rfl, by simp only [upB_st, stB_at, stB_st, fallF, pk_un (show 52 + k ≠ 20 + k by omega), pk_un (show 52 + k ≠ 36 + k by omega), m2]⟩
set_option maxRecDepth 20000 in
theorem k_X0_welcome (i : Nat) (hi : i < 3) (kind sins : Int32) (M : Mem) (hI : Inv (M i)) : CC l sk D cy A X mX0_welcome 1 [.ref (A (1 + 12 * i)), .int kind, .int sins] M (rI (welV (M i)) (stB M i (welF (M i) kind sins))) := by
  refine Con.of (lo := [some (.ref (A (1 + 12 * i))), some (.int kind), some (.int sins), none, none]) cf_X0_welcome (fun _ _ => wl_fst) 2 rfl (Nat.le_of_ble_eq_true rfl) (fun p e s m args below meth c A0 B hr hlk => ?_)
  have B : BS sk D cy (wl A cy 51 TC X) A0 p s m args c RX0 cX0_welcome 5 := B
  obtain ⟨N, hN, eN, eNo⟩ := hI.n
  refine a_aload_n B dX0_welcome_0 rfl ?_
  refine a_getI B fl_X0_27 (by omega) (tcM i hi) rfl dX0_welcome_1 ?_
  refine a_bipush (v := 8) B dX0_welcome_4 (by decide) ?_
  refine a_icmp_lt 11 B dX0_welcome_6 (by decide) (fun c6 => ?_) (fun c6 => ?_)
  · have hk : N < 8 := by rw [eN] at c6; exact (nI_ltI (by omega) (by omega)).mp c6
    have hlt : nI N < (upB M i 0 (M i 0 + 1)) i 0 := by rw [upB_on, eN, nI_1]; exact nI_lt (by omega) (by omega)
    refine a_aload_n B dX0_welcome_11 rfl ?_
    refine a_getI B fl_X0_27 (by omega) (tcM i hi) rfl dX0_welcome_12 ?_
    refine p_istore3 B dX0_welcome_15 (by decide) (k := ?_)
    refine a_aload_n B dX0_welcome_16 rfl ?_
    refine a_dup B dX0_welcome_17 rfl ?_
    refine a_getI B fl_X0_27 (by omega) (tcM i hi) rfl dX0_welcome_18 ?_
    refine a_iconst (v := 1) B dX0_welcome_21 (by decide) ?_
    refine a_iadd B dX0_welcome_22 ?_
    refine a_putI B twC fl_X0_27 fp_0_5 (by omega) (tcM i hi) rfl dX0_welcome_23 ?_
    refine a_aload_n B dX0_welcome_26 rfl ?_
    refine a_iload_n B dX0_welcome_27 rfl ?_
    rw [eN] at hlt ⊢
    refine a_callV1r B rfl cf_X0_at lk_X0_50 in_X0_at se_X0_at (wl_rc (by omega) (tcM i hi) rfl rfl) (k_X0_at i N hi hk _ hlt) dX0_welcome_28 (Nat.le_of_ble_eq_true rfl) ⟨Nat.le_of_ble_eq_true rfl, Nat.le_of_ble_eq_true rfl⟩ ⟨rfl, rfl⟩ ?_
    refine p_astore4 B dX0_welcome_31 (by decide) (k := ?_)
    refine a_aload B dX0_welcome_33 rfl ?_
    refine a_ifnull B dX0_welcome_35 ?_
    refine a_aload B dX0_welcome_38 rfl ?_
    refine a_iload_n B dX0_welcome_40 rfl ?_
    refine a_iload_n B dX0_welcome_41 rfl ?_
    refine a_callV2v B rfl cf_X1_begin lk_X0_58 in_X1_begin se_X1_begin (wl_rc (by omega) (tcP i hi N hk) rfl rfl) (k_X1_begin i N hi hk _ _ _) dX0_welcome_42 (Nat.le_of_ble_eq_true rfl) ⟨Nat.le_of_ble_eq_true rfl, Nat.le_of_ble_eq_true rfl⟩ ⟨rfl, rfl⟩ ?_
    refine a_iload_n B dX0_welcome_45 rfl ?_
    exact a_iret B hr hlk dX0_welcome_46 ⟨congrArg (fun z => some (Value.int z)) (by rw [← eN]; unfold welV; rw [if_pos c6]), by rw [← eN, upB_st, stB_at, stB_st]; unfold welF; rw [if_pos c6, eNo]⟩
  refine a_iconst (v := (-1)) B dX0_welcome_9 (by decide) ?_
  exact a_iret B hr hlk dX0_welcome_10 ⟨congrArg (fun z => some (Value.int z)) (by unfold welV; rw [if_neg c6]), by unfold welF; rw [if_neg c6, stB_id]⟩
set_option maxRecDepth 20000 in
theorem k_X0_bury (i k : Nat) (hi : i < 3) (hk : k < 8) (M : Mem) (hI : Inv (M i)) : CC l sk D cy A X mX0_bury 3 [.ref (A (1 + 12 * i)), .int (nI k), .ref (A (5 + 12 * i + k))] M (rI (oI (bestF (M i) (neB k) (nOf (M i)))) (stB M i (buryD (M i) k))) := by
  refine Con.of (lo := [some (.ref (A (1 + 12 * i))), some (.int (nI k)), some (.ref (A (5 + 12 * i + k))), none, none]) cf_X0_bury (fun _ _ => wl_fst) 2 rfl (Nat.le_of_ble_eq_true rfl) (fun p e s m args below meth c A0 B hr hlk => ?_)
  have B : BS sk D cy (wl A cy 51 TC X) A0 p s m args c RX0 cX0_bury 5 := B
  obtain ⟨N, hN, eN, eNo⟩ := hI.n
  refine a_aload_n B dX0_bury_0 rfl ?_
  refine a_iconst (v := 1) B dX0_bury_1 (by decide) ?_
  refine a_iload_n B dX0_bury_2 rfl ?_
  refine a_ishl B dX0_bury_3 ?_
  refine a_iconst (v := (-1)) B dX0_bury_4 (by decide) ?_
  refine a_ixor B dX0_bury_5 ?_
  refine a_callV1r B rfl cf_X0_hungriestOf lk_X0_98 in_X0_hungriestOf se_X0_hungriestOf (wl_rc (by omega) (tcM i hi) rfl rfl) (k_X0_hungriestOf i hi _ _ hI) dX0_bury_6 (Nat.le_of_ble_eq_true rfl) ⟨Nat.le_of_ble_eq_true rfl, Nat.le_of_ble_eq_true rfl⟩ ⟨rfl, rfl⟩ ?_
  rw [best_ne hk (by omega)]
  cases hb : bestF (M i) (neB k) (nOf (M i)) with
  | none =>
    refine p_istore3 B dX0_bury_9 (by decide) (k := ?_)
    refine a_aload_n B dX0_bury_10 rfl ?_
    refine a_iload_n B dX0_bury_11 rfl ?_
    refine a_callV1r B rfl cf_X0_at lk_X0_50 in_X0_at se_X0_at (wl_rc (by omega) (tcM i hi) rfl rfl) (k_X0_atN i hi _ _ (Or.inl (by decide))) dX0_bury_12 (Nat.le_of_ble_eq_true rfl) ⟨Nat.le_of_ble_eq_true rfl, Nat.le_of_ble_eq_true rfl⟩ ⟨rfl, rfl⟩ ?_
    refine p_astoreN4 B dX0_bury_15 (by decide) (k := ?_)
    refine a_aloadN B dX0_bury_17 rfl ?_
    refine a_ifnonnullN B dX0_bury_19 ?_
    refine a_iconst (v := (-1)) B dX0_bury_22 (by decide) ?_
    exact a_iret B hr hlk dX0_bury_23 ⟨congrArg (fun z => some (Value.int z)) (rfl), by unfold buryD; rw [hb, stB_id]⟩
  | some q =>
    have hqN := best_lt _ _ _ _ hb
    have hq : q < 8 := by omega
    have hlt : nI q < M i 0 := nI_ltN eN (by omega) (by omega)
    refine p_istore3 B dX0_bury_9 (by decide) (k := ?_)
    refine a_aload_n B dX0_bury_10 rfl ?_
    refine a_iload_n B dX0_bury_11 rfl ?_
    refine a_callV1r B rfl cf_X0_at lk_X0_50 in_X0_at se_X0_at (wl_rc (by omega) (tcM i hi) rfl rfl) (k_X0_at i q hi hq _ hlt) dX0_bury_12 (Nat.le_of_ble_eq_true rfl) ⟨Nat.le_of_ble_eq_true rfl, Nat.le_of_ble_eq_true rfl⟩ ⟨rfl, rfl⟩ ?_
    refine p_astore4 B dX0_bury_15 (by decide) (k := ?_)
    refine a_aload B dX0_bury_17 rfl ?_
    refine a_ifnonnull 24 B dX0_bury_19 (by decide) ?_
    refine a_aload B dX0_bury_24 rfl ?_
    refine a_dup B dX0_bury_26 rfl ?_
    refine a_getI B fl_X0_71 (by omega) (tcP i hi q hq) rfl dX0_bury_27 ?_
    refine a_aload_n B dX0_bury_30 rfl ?_
    refine a_getI B fl_X0_71 (by omega) (tcP i hi k hk) rfl dX0_bury_31 ?_
    refine a_ior B dX0_bury_34 ?_
    refine a_putI B twC fl_X0_71 fp_1_3 (by omega) (tcP i hi q hq) rfl dX0_bury_35 ?_
    refine a_aload_n B dX0_bury_38 rfl ?_
    refine a_iconst (v := 0) B dX0_bury_39 (by decide) ?_
    refine a_putI B twC fl_X0_71 fp_1_3 (by omega) (tcP i hi k hk) rfl dX0_bury_40 ?_
    refine a_aload_n B dX0_bury_43 rfl ?_
    refine a_iconst (v := 0) B dX0_bury_44 (by decide) ?_
    refine a_putI B twC fl_X0_65 fp_1_1 (by omega) (tcP i hi k hk) rfl dX0_bury_45 ?_
    refine a_aload_n B dX0_bury_48 rfl ?_
    refine a_iconst (v := 0) B dX0_bury_49 (by decide) ?_
    refine a_putI B twC fl_X0_68 fp_1_2 (by omega) (tcP i hi k hk) rfl dX0_bury_50 ?_
    refine a_iload_n B dX0_bury_53 rfl ?_
    exact a_iret B hr hlk dX0_bury_54 ⟨congrArg (fun z => some (Value.int z)) (rfl), by simp only [buryD, hb, upB_st, stB_at, stB_st]⟩
set_option maxRecDepth 20000 in
set_option maxHeartbeats 4000000 in
theorem k_X0_letTheOverfullFallIll (i : Nat) (hi : i < 3) (M : Mem) (hI : Inv (M i)) : CC l sk D cy A X mX0_letTheOverfullFallIll 2 [.ref (A (1 + 12 * i))] M (rV (stB M i (illF (M i) (nOf (M i))))) := by
  refine Con.of (lo := [some (.ref (A (1 + 12 * i))), none, none]) cf_X0_letTheOverfullFallIll (fun _ _ => wl_fst) 2 rfl (Nat.le_of_ble_eq_true rfl) (fun p e s m args below meth c A0 B hr hlk => ?_)
  have B : BS sk D cy (wl A cy 51 TC X) A0 p s m args c RX0 cX0_letTheOverfullFallIll 3 := B
  obtain ⟨N, hN, eN, eNo⟩ := hI.n
  have loop : ∀ n k, N + 1 ≤ k + n → k ≤ N → ∀ o2 : Option Value, AW p l e (rmK 2 (34 * 2)) s m args below meth c D (wl A cy 51 TC X) A0 3 0 0 (MQ below (QG D (wl A cy 51 TC X) A0 (rV (stB M i (illF (M i) (nOf (M i)))))) args s 0 0 A0) 2 [some (.ref (A (1 + 12 * i))), some (.int (nI k)), o2] [] (stB M i (illF (M i) k)) := by
    intro n
    induction n with
    | zero => intro k h1 h2; omega
    | succ n ih =>
      intro k h1 h2 o2
      generalize hM1 : stB M i (illF (M i) k) = M1
      have hMi : M1 i = illF (M i) k := by rw [← hM1, stB_at]
      have hst : ∀ d, stB M1 i d = stB M i d := fun d => by rw [← hM1, stB_st]
      have hI1 : Inv (M1 i) := by rw [hMi]; exact hI.vIllF k (by omega)
      have eN1 : M1 i 0 = nI N := by rw [hMi, illF_off k (by omega) (by omega) (by omega)]; exact eN
      refine a_iload_n B dX0_letTheOverfullFallIll_2 rfl ?_
      refine a_aload_n B dX0_letTheOverfullFallIll_3 rfl ?_
      refine a_getI B fl_X0_27 (by omega) (tcM i hi) rfl dX0_letTheOverfullFallIll_4 ?_
      refine a_icmp_ge 65 B dX0_letTheOverfullFallIll_7 (by decide) (fun c7 => ?_) (fun c7 => ?_)
      · have e1 : k = N := by have := ge_n c7 rfl eN1 (by omega) (by omega); omega
        subst e1
        exact a_vret B hr hlk dX0_letTheOverfullFallIll_65 ⟨rfl, by rw [eNo, hM1]⟩
      have hlt0 := lt_n c7 rfl eN1 (by omega) (by omega)
      have hk : k < 8 := by omega
      have hlt : nI k < M1 i 0 := nI_ltN eN1 hlt0 (by omega)
      refine a_aload_n B dX0_letTheOverfullFallIll_10 rfl ?_
      refine a_iload_n B dX0_letTheOverfullFallIll_11 rfl ?_
      refine a_callV1r B rfl cf_X0_at lk_X0_50 in_X0_at se_X0_at (wl_rc (by omega) (tcM i hi) rfl rfl) (k_X0_at i k hi hk _ hlt) dX0_letTheOverfullFallIll_12 (Nat.le_of_ble_eq_true rfl) ⟨Nat.le_of_ble_eq_true rfl, Nat.le_of_ble_eq_true rfl⟩ ⟨rfl, rfl⟩ ?_
      refine p_astore2 B dX0_letTheOverfullFallIll_15 (by decide) (k := ?_)
      refine a_aload_n B dX0_letTheOverfullFallIll_16 rfl ?_
      refine a_ifnull B dX0_letTheOverfullFallIll_17 ?_
      refine a_aload_n B dX0_letTheOverfullFallIll_20 rfl ?_
      refine a_getI B fl_X0_65 (by omega) (tcP i hi k hk) rfl dX0_letTheOverfullFallIll_21 ?_
      refine a_aload_n B dX0_letTheOverfullFallIll_24 rfl ?_
      refine a_callV0r B rfl cf_X1_holding lk_X0_80 in_X1_holding se_X1_holding (wl_rc (by omega) (tcP i hi k hk) rfl rfl) (k_X1_holding i k hi hk _ hI1) dX0_letTheOverfullFallIll_25 (Nat.le_of_ble_eq_true rfl) ⟨Nat.le_of_ble_eq_true rfl, Nat.le_of_ble_eq_true rfl⟩ ⟨rfl, rfl⟩ ?_
      refine a_icmp_le 59 B dX0_letTheOverfullFallIll_28 (by decide) (fun c28 => ?_) (fun c28 => ?_)
      · refine p_iinc1 1 B dX0_letTheOverfullFallIll_59 (by decide) (by decide) (k := ?_)
        refine a_goto 2 B dX0_letTheOverfullFallIll_62 (by decide) ?_
        rw [nI_1]
        refine a_mem ?_ (ih (k + 1) (by omega) (by omega) _)
        rw [← hM1]
        show _ = stB M i (ill1 (illF (M i) k) k)
        unfold ill1
        rw [if_neg]
        intro h8
        exact ((sub_room hI1 hk).mp (by rw [hMi]; exact h8)) c28
      refine a_aload_n B dX0_letTheOverfullFallIll_31 rfl ?_
      refine a_dup B dX0_letTheOverfullFallIll_32 rfl ?_
      refine a_getI B fl_X0_18 (by omega) (tcM i hi) rfl dX0_letTheOverfullFallIll_33 ?_
      refine a_aload_n B dX0_letTheOverfullFallIll_36 rfl ?_
      refine a_callV0r B rfl cf_X1_keepsSilent lk_X0_88 in_X1_keepsSilent se_X1_keepsSilent (wl_rc (by omega) (tcP i hi k hk) rfl rfl) (k_X1_keepsSilent i k hi hk _ hI1) dX0_letTheOverfullFallIll_37 (Nat.le_of_ble_eq_true rfl) ⟨Nat.le_of_ble_eq_true rfl, Nat.le_of_ble_eq_true rfl⟩ ⟨rfl, rfl⟩ ?_
      refine a_if_eq 47 B dX0_letTheOverfullFallIll_40 (by decide) (fun c40 => ?_) (fun c40 => ?_)
      · refine a_aload_n B dX0_letTheOverfullFallIll_47 rfl ?_
        refine a_getI B fl_X0_71 (by omega) (tcP i hi k hk) rfl dX0_letTheOverfullFallIll_48 ?_
        refine a_ior B dX0_letTheOverfullFallIll_51 ?_
        refine a_putI B twC fl_X0_18 fp_0_2 (by omega) (tcM i hi) rfl dX0_letTheOverfullFallIll_52 ?_
        refine a_aload_n B dX0_letTheOverfullFallIll_55 rfl ?_
        refine a_callV0v B rfl cf_X1_fallIll lk_X0_131 in_X1_fallIll se_X1_fallIll (wl_rc (by omega) (tcP i hi k hk) rfl rfl) (k_X1_fallIll i k hi hk _ (inv_or hI1 (by first | exact ⟨0, by omega, rfl⟩ | exact hI1.kn hk))) dX0_letTheOverfullFallIll_56 (Nat.le_of_ble_eq_true rfl) ⟨Nat.le_of_ble_eq_true rfl, Nat.le_of_ble_eq_true rfl⟩ ⟨rfl, rfl⟩ ?_
        refine p_iinc1 1 B dX0_letTheOverfullFallIll_59 (by decide) (by decide) (k := ?_)
        refine a_goto 2 B dX0_letTheOverfullFallIll_62 (by decide) ?_
        rw [nI_1]
        refine a_mem ?_ (ih (k + 1) (by omega) (by omega) _)
        show _ = stB M i (ill1 (illF (M i) k) k)
        unfold ill1
        rw [if_pos (by rw [← hMi]; exact (sub_room hI1 hk).mpr c28), ← hMi]
        simp only [upB_st, stB_at, stB_st, hst]
        rw [if_neg (by rw [bI_eq0.mp c40]; decide)]
      refine a_iconst (v := 0) B dX0_letTheOverfullFallIll_43 (by decide) ?_
      refine a_goto 51 B dX0_letTheOverfullFallIll_44 (by decide) ?_
      refine a_ior B dX0_letTheOverfullFallIll_51 ?_
      refine a_putI B twC fl_X0_18 fp_0_2 (by omega) (tcM i hi) rfl dX0_letTheOverfullFallIll_52 ?_
      refine a_aload_n B dX0_letTheOverfullFallIll_55 rfl ?_
      refine a_callV0v B rfl cf_X1_fallIll lk_X0_131 in_X1_fallIll se_X1_fallIll (wl_rc (by omega) (tcP i hi k hk) rfl rfl) (k_X1_fallIll i k hi hk _ (inv_or hI1 (by first | exact ⟨0, by omega, rfl⟩ | exact hI1.kn hk))) dX0_letTheOverfullFallIll_56 (Nat.le_of_ble_eq_true rfl) ⟨Nat.le_of_ble_eq_true rfl, Nat.le_of_ble_eq_true rfl⟩ ⟨rfl, rfl⟩ ?_
      refine p_iinc1 1 B dX0_letTheOverfullFallIll_59 (by decide) (by decide) (k := ?_)
      refine a_goto 2 B dX0_letTheOverfullFallIll_62 (by decide) ?_
      rw [nI_1]
      refine a_mem ?_ (ih (k + 1) (by omega) (by omega) _)
      show _ = stB M i (ill1 (illF (M i) k) k)
      unfold ill1
      rw [if_pos (by rw [← hMi]; exact (sub_room hI1 hk).mpr c28), ← hMi]
      simp only [upB_st, stB_at, stB_st, hst]
      rw [if_pos (by cases hkp : keepF (M1 i) k with | true => rfl | false => exact absurd (by rw [hkp]; rfl) c40)]
  refine a_iconst (v := 0) B dX0_letTheOverfullFallIll_0 (by decide) ?_
  refine p_istore1 B dX0_letTheOverfullFallIll_1 (by decide) (k := ?_)
  refine a_mem ?_ (loop (N + 1) 0 (by omega) (by omega) _)
  exact stB_id.symm
theorem sub_le999 {a b : Nat} (ha : a ≤ 999) (hb : b ≤ 16) : ¬ (999 : Int32) < nI a - nI b := by
  by_cases h : b ≤ a
  · rw [pk_sub h]; exact nI_nlt (a := 999) (b := a - b) (by omega) (by omega)
  · intro h2
    have h3 := pk_sneg (a := a) (b := b) (by omega) (by omega)
    exact absurd (Int32.lt_trans h2 h3) (by decide)
set_option maxRecDepth 20000 in
set_option maxHeartbeats 4000000 in
theorem k_X0_letAllDigest (i : Nat) (hi : i < 3) (M : Mem) (hI : Inv (M i)) : CC l sk D cy A X mX0_letAllDigest 2 [.ref (A (1 + 12 * i))] M (rV (stB M i (digA (M i) (nOf (M i))))) := by
  refine Con.of (lo := [some (.ref (A (1 + 12 * i))), none, none]) cf_X0_letAllDigest (fun _ _ => wl_fst) 2 rfl (Nat.le_of_ble_eq_true rfl) (fun p e s m args below meth c A0 B hr hlk => ?_)
  have B : BS sk D cy (wl A cy 51 TC X) A0 p s m args c RX0 cX0_letAllDigest 3 := B
  obtain ⟨N, hN, eN, eNo⟩ := hI.n
  have loop : ∀ n k, N + 1 ≤ k + n → k ≤ N → ∀ o2 : Option Value, AW p l e (rmK 2 (34 * 2)) s m args below meth c D (wl A cy 51 TC X) A0 3 0 0 (MQ below (QG D (wl A cy 51 TC X) A0 (rV (stB M i (digA (M i) (nOf (M i)))))) args s 0 0 A0) 2 [some (.ref (A (1 + 12 * i))), some (.int (nI k)), o2] [] (stB M i (digA (M i) k)) := by
    intro n
    induction n with
    | zero => intro k h1 h2; omega
    | succ n ih =>
      intro k h1 h2 o2
      generalize hM1 : stB M i (digA (M i) k) = M1
      have hMi : M1 i = digA (M i) k := by rw [← hM1, stB_at]
      have hst : ∀ d, stB M1 i d = stB M i d := fun d => by rw [← hM1, stB_st]
      have hI1 : Inv (M1 i) := by rw [hMi]; exact hI.vDigA k (by omega)
      have eN1 : M1 i 0 = nI N := by rw [hMi, digA_off k (by omega) (by omega)]; exact eN
      refine a_iload_n B dX0_letAllDigest_2 rfl ?_
      refine a_aload_n B dX0_letAllDigest_3 rfl ?_
      refine a_getI B fl_X0_27 (by omega) (tcM i hi) rfl dX0_letAllDigest_4 ?_
      refine a_icmp_ge 51 B dX0_letAllDigest_7 (by decide) (fun c7 => ?_) (fun c7 => ?_)
      · have e1 : k = N := by have := ge_n c7 rfl eN1 (by omega) (by omega); omega
        subst e1
        exact a_vret B hr hlk dX0_letAllDigest_51 ⟨rfl, by rw [eNo, hM1]⟩
      have hlt0 := lt_n c7 rfl eN1 (by omega) (by omega)
      have hk : k < 8 := by omega
      have hlt : nI k < M1 i 0 := nI_ltN eN1 hlt0 (by omega)
      refine a_aload_n B dX0_letAllDigest_10 rfl ?_
      refine a_iload_n B dX0_letAllDigest_11 rfl ?_
      refine a_callV1r B rfl cf_X0_at lk_X0_50 in_X0_at se_X0_at (wl_rc (by omega) (tcM i hi) rfl rfl) (k_X0_at i k hi hk _ hlt) dX0_letAllDigest_12 (Nat.le_of_ble_eq_true rfl) ⟨Nat.le_of_ble_eq_true rfl, Nat.le_of_ble_eq_true rfl⟩ ⟨rfl, rfl⟩ ?_
      refine p_astore2 B dX0_letAllDigest_15 (by decide) (k := ?_)
      refine a_aload_n B dX0_letAllDigest_16 rfl ?_
      refine a_ifnull B dX0_letAllDigest_17 ?_
      refine a_aload_n B dX0_letAllDigest_20 rfl ?_
      refine a_aload_n B dX0_letAllDigest_21 rfl ?_
      refine a_getI B fl_X0_65 (by omega) (tcP i hi k hk) rfl dX0_letAllDigest_22 ?_
      refine a_aload_n B dX0_letAllDigest_25 rfl ?_
      refine a_aload_n B dX0_letAllDigest_26 rfl ?_
      refine a_getI B fl_X0_15 (by omega) (tcM i hi) rfl dX0_letAllDigest_27 ?_
      refine a_aload_n B dX0_letAllDigest_30 rfl ?_
      refine a_getI B fl_X0_9 (by omega) (tcM i hi) rfl dX0_letAllDigest_31 ?_
      refine a_callV2r B rfl cf_X1_digesting lk_X0_84 in_X1_digesting se_X1_digesting (wl_rc (by omega) (tcP i hi k hk) rfl rfl) (k_X1_digesting i k hi hk _ _ _ hI1.wa) dX0_letAllDigest_34 (Nat.le_of_ble_eq_true rfl) ⟨Nat.le_of_ble_eq_true rfl, Nat.le_of_ble_eq_true rfl⟩ ⟨rfl, rfl⟩ ?_
      refine a_isub B dX0_letAllDigest_37 ?_
      refine a_iconst (v := 0) B dX0_letAllDigest_38 (by decide) ?_
      refine a_mmax B lk_X0_134 dX0_letAllDigest_39 (by rfl) (by rfl) ⟨by decide, trivial⟩ ⟨rfl, rfl⟩ ?_
      refine a_putI B twC fl_X0_65 fp_1_1 (by omega) (tcP i hi k hk) rfl dX0_letAllDigest_42 ?_
      refine p_iinc1 1 B dX0_letAllDigest_45 (by decide) (by decide) (k := ?_)
      refine a_goto 2 B dX0_letAllDigest_48 (by decide) ?_
      rw [nI_1]
      refine a_mem ?_ (ih (k + 1) (by omega) (by omega) _)
      show _ = stB M i (dig1 (digA (M i) k) k)
      unfold dig1 digF
      rw [← hMi, upB_st, hst]
      obtain ⟨a, ha, ea⟩ := hI1.s hk
      obtain ⟨wb, hwb, ewb⟩ := hI1.wa
      obtain ⟨c2, hc2, ec2⟩ := dig_le (k := M1 i (12 + k)) (day := M1 i 1) ewb hwb
      rw [hld_mx (by decide)]
      rw [ea, ec2]
      intro h8
      exact absurd h8 (sub_le999 ha hc2)
  refine a_iconst (v := 0) B dX0_letAllDigest_0 (by decide) ?_
  refine p_istore1 B dX0_letAllDigest_1 (by decide) (k := ?_)
  refine a_mem ?_ (loop (N + 1) 0 (by omega) (by omega) _)
  exact stB_id.symm
end C3
