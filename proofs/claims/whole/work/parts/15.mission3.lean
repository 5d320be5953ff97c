
section C4
def fstN (P : Nat → Bool) : Nat → Option Nat
  | 0 => none
  | n + 1 => match fstN P n with
    | some k => some k
    | none => if P n = true then some n else none
def fst2 (Q : Nat → Nat → Bool) (m : Nat) : Nat → Option Nat
  | 0 => none
  | n + 1 => match fst2 Q m n with
    | some g => some g
    | none => fstN (Q n) m
theorem fst_up {P : Nat → Bool} {m k : Nat} (h : fstN P m = some k) : ∀ n, m ≤ n → fstN P n = some k := by
  intro n
  induction n with
  | zero => intro hn; rw [show m = 0 by omega] at h; exact h
  | succ n ih =>
    intro hn
    by_cases e : m = n + 1
    · rw [← e]; exact h
    · rw [fstN, ih (by omega)]
theorem fst2_up {Q : Nat → Nat → Bool} {w m k : Nat} (h : fst2 Q w m = some k) : ∀ n, m ≤ n → fst2 Q w n = some k := by
  intro n
  induction n with
  | zero => intro hn; rw [show m = 0 by omega] at h; exact h
  | succ n ih =>
    intro hn
    by_cases e : m = n + 1
    · rw [← e]; exact h
    · rw [fst2, ih (by omega)]
theorem shl9 : ∀ s, s < 9 → (1 : Int32) <<< (nI s &&& 31) = nI (2 ^ s) := by decide +kernel
theorem pow9 {s : Nat} (h : s ≤ 8) : 2 ^ s ≤ 256 := by
  have : 2 ^ s ≤ 2 ^ 8 := Nat.pow_le_pow_right (by omega) h
  omega
def ttB (d : Dm) (g sins : Int32) : Bool := decide (sins &&& (tkT d g (nOf d) ^^^ (-1)) = 0)
def fewQ (d : Dm) (sins : Int32) (s g : Nat) : Bool := decide (bitc (nI g) = nI s) && ttB d (nI g) sins
def fewO (d : Dm) (sins : Int32) : Option Nat := fst2 (fewQ d sins) (2 ^ nOf d) (nOf d + 1)
theorem conf_n {d : Dm} {cf : Int32} (hN : nOf d ≤ 8) : nOf (confF d cf) = nOf d := by
  unfold nOf
  rw [conf_off (by omega) (by omega) hN]
theorem ill_n {d : Dm} {n : Nat} (hn : n ≤ 8) : nOf (illF d n) = nOf d := by
  unfold nOf
  rw [illF_off n hn (by omega) (by omega)]
theorem le0 {x : Int32} {a : Nat} (hx : x = nI a) (ha : a < 2 ^ 31) (h : x ≤ 0) : x = 0 := by
  subst hx
  have := (nI_leI (b := 0) ha (by omega)).mp h
  rw [show a = 0 by omega]
  rfl
theorem gt0 {x : Int32} (h : ¬ x ≤ 0) : ¬ x = 0 := fun e => h (by rw [e]; decide)

variable {l : Launch} {sk : (Nat → Nat) × (Nat → Nat)} {D : va_G} {cy : Nat → ClassId} {A : Nat → Nat} {X : va_W}
set_option maxRecDepth 20000 in
set_option maxHeartbeats 4000000 in
theorem k_X0_sumTogether (i : Nat) (hi : i < 3) (what : Int32) (M : Mem) (hI : Inv (M i)) : CC l sk D cy A X mX0_sumTogether 3 [.ref (A (1 + 12 * i)), .int what] M (rI (sumT (M i) what (nOf (M i))) M) := by
  refine Con.of (lo := [some (.ref (A (1 + 12 * i))), some (.int what), none, none, none]) cf_X0_sumTogether (fun _ _ => wl_fst) 3 rfl (Nat.le_of_ble_eq_true rfl) (fun p e s m args below meth c A0 B hr hlk => ?_)
  have B : BS sk D cy (wl A cy 51 TC X) A0 p s m args c RX0 cX0_sumTogether 5 := B
  obtain ⟨N, hN, eN, eNo⟩ := hI.n
  have loop : ∀ n k, N + 1 ≤ k + n → k ≤ N → ∀ o4 : Option Value, AW p l e (rmK 3 (34 * 3)) s m args below meth c D (wl A cy 51 TC X) A0 5 0 0 (MQ below (QG D (wl A cy 51 TC X) A0 (rI (sumT (M i) what (nOf (M i))) M)) args s 0 0 A0) 4 [some (.ref (A (1 + 12 * i))), some (.int what), some (.int (sumT (M i) what k)), some (.int (nI k)), o4] [] (M) := by
    intro n
    induction n with
    | zero => intro k h1 h2; omega
    | succ n ih =>
      intro k h1 h2 o4
      refine a_iload_n B dX0_sumTogether_4 rfl ?_
      refine a_aload_n B dX0_sumTogether_5 rfl ?_
      refine a_getI B fl_X0_27 (by omega) (tcM i hi) rfl dX0_sumTogether_6 ?_
      refine a_icmp_ge 44 B dX0_sumTogether_9 (by decide) (fun c9 => ?_) (fun c9 => ?_)
      · have e1 : k = N := by have := ge_n c9 rfl eN (by omega) (by omega); omega
        subst e1
        refine a_iload_n B dX0_sumTogether_44 rfl ?_
        exact a_iret B hr hlk dX0_sumTogether_45 ⟨by rw [eNo], rfl⟩
      have hlt0 := lt_n c9 rfl eN (by omega) (by omega)
      have hk : k < 8 := by omega
      have hlt : nI k < M i 0 := nI_ltN eN hlt0 (by omega)
      refine a_aload_n B dX0_sumTogether_12 rfl ?_
      refine a_iload_n B dX0_sumTogether_13 rfl ?_
      refine a_callV1r B rfl cf_X0_at lk_X0_50 in_X0_at se_X0_at (wl_rc (by omega) (tcM i hi) rfl rfl) (k_X0_at i k hi hk _ hlt) dX0_sumTogether_14 (Nat.le_of_ble_eq_true rfl) ⟨Nat.le_of_ble_eq_true rfl, Nat.le_of_ble_eq_true rfl⟩ ⟨rfl, rfl⟩ ?_
      refine p_astore4 B dX0_sumTogether_17 (by decide) (k := ?_)
      refine a_iload_n B dX0_sumTogether_19 rfl ?_
      refine a_aload B dX0_sumTogether_20 rfl ?_
      refine a_ifnonnull 29 B dX0_sumTogether_22 (by decide) ?_
      refine a_aload_n B dX0_sumTogether_29 rfl ?_
      refine a_aload B dX0_sumTogether_30 rfl ?_
      refine a_iload_n B dX0_sumTogether_32 rfl ?_
      refine a_callV2r B rfl cf_X0_tellOf lk_X0_137 in_X0_tellOf se_X0_tellOf (wl_rc (by omega) (tcM i hi) rfl rfl) (k_X0_tellOf i k hi hk _ _ hI) dX0_sumTogether_33 (Nat.le_of_ble_eq_true rfl) ⟨Nat.le_of_ble_eq_true rfl, Nat.le_of_ble_eq_true rfl⟩ ⟨rfl, rfl⟩ ?_
      refine a_iadd B dX0_sumTogether_36 ?_
      refine p_istore2 B dX0_sumTogether_37 (by decide) (k := ?_)
      refine p_iinc3 1 B dX0_sumTogether_38 (by decide) (by decide) (k := ?_)
      refine a_goto 4 B dX0_sumTogether_41 (by decide) ?_
      rw [nI_1]
      exact ih (k + 1) (by omega) (by omega) _
  refine a_iconst (v := 0) B dX0_sumTogether_0 (by decide) ?_
  refine p_istore2 B dX0_sumTogether_1 (by decide) (k := ?_)
  refine a_iconst (v := 0) B dX0_sumTogether_2 (by decide) ?_
  refine p_istore3 B dX0_sumTogether_3 (by decide) (k := ?_)
  exact loop (N + 1) 0 (by omega) (by omega) _
set_option maxRecDepth 20000 in
set_option maxHeartbeats 4000000 in
theorem k_X0_sinsTogether (i : Nat) (hi : i < 3) (what : Int32) (M : Mem) (hI : Inv (M i)) : CC l sk D cy A X mX0_sinsTogether 3 [.ref (A (1 + 12 * i)), .int what] M (rI (togT (M i) what (nOf (M i))) M) := by
  refine Con.of (lo := [some (.ref (A (1 + 12 * i))), some (.int what), none, none, none]) cf_X0_sinsTogether (fun _ _ => wl_fst) 3 rfl (Nat.le_of_ble_eq_true rfl) (fun p e s m args below meth c A0 B hr hlk => ?_)
  have B : BS sk D cy (wl A cy 51 TC X) A0 p s m args c RX0 cX0_sinsTogether 5 := B
  obtain ⟨N, hN, eN, eNo⟩ := hI.n
  have loop : ∀ n k, N + 1 ≤ k + n → k ≤ N → ∀ o4 : Option Value, AW p l e (rmK 3 (34 * 3)) s m args below meth c D (wl A cy 51 TC X) A0 5 0 0 (MQ below (QG D (wl A cy 51 TC X) A0 (rI (togT (M i) what (nOf (M i))) M)) args s 0 0 A0) 4 [some (.ref (A (1 + 12 * i))), some (.int what), some (.int (togT (M i) what k)), some (.int (nI k)), o4] [] (M) := by
    intro n
    induction n with
    | zero => intro k h1 h2; omega
    | succ n ih =>
      intro k h1 h2 o4
      refine a_iload_n B dX0_sinsTogether_4 rfl ?_
      refine a_aload_n B dX0_sinsTogether_5 rfl ?_
      refine a_getI B fl_X0_27 (by omega) (tcM i hi) rfl dX0_sinsTogether_6 ?_
      refine a_icmp_ge 44 B dX0_sinsTogether_9 (by decide) (fun c9 => ?_) (fun c9 => ?_)
      · have e1 : k = N := by have := ge_n c9 rfl eN (by omega) (by omega); omega
        subst e1
        refine a_iload_n B dX0_sinsTogether_44 rfl ?_
        exact a_iret B hr hlk dX0_sinsTogether_45 ⟨by rw [eNo], rfl⟩
      have hlt0 := lt_n c9 rfl eN (by omega) (by omega)
      have hk : k < 8 := by omega
      have hlt : nI k < M i 0 := nI_ltN eN hlt0 (by omega)
      refine a_aload_n B dX0_sinsTogether_12 rfl ?_
      refine a_iload_n B dX0_sinsTogether_13 rfl ?_
      refine a_callV1r B rfl cf_X0_at lk_X0_50 in_X0_at se_X0_at (wl_rc (by omega) (tcM i hi) rfl rfl) (k_X0_at i k hi hk _ hlt) dX0_sinsTogether_14 (Nat.le_of_ble_eq_true rfl) ⟨Nat.le_of_ble_eq_true rfl, Nat.le_of_ble_eq_true rfl⟩ ⟨rfl, rfl⟩ ?_
      refine p_astore4 B dX0_sinsTogether_17 (by decide) (k := ?_)
      refine a_iload_n B dX0_sinsTogether_19 rfl ?_
      refine a_aload B dX0_sinsTogether_20 rfl ?_
      refine a_ifnonnull 29 B dX0_sinsTogether_22 (by decide) ?_
      refine a_aload_n B dX0_sinsTogether_29 rfl ?_
      refine a_aload B dX0_sinsTogether_30 rfl ?_
      refine a_iload_n B dX0_sinsTogether_32 rfl ?_
      refine a_callV2r B rfl cf_X0_tellOf lk_X0_137 in_X0_tellOf se_X0_tellOf (wl_rc (by omega) (tcM i hi) rfl rfl) (k_X0_tellOf i k hi hk _ _ hI) dX0_sinsTogether_33 (Nat.le_of_ble_eq_true rfl) ⟨Nat.le_of_ble_eq_true rfl, Nat.le_of_ble_eq_true rfl⟩ ⟨rfl, rfl⟩ ?_
      refine a_ior B dX0_sinsTogether_36 ?_
      refine p_istore2 B dX0_sinsTogether_37 (by decide) (k := ?_)
      refine p_iinc3 1 B dX0_sinsTogether_38 (by decide) (by decide) (k := ?_)
      refine a_goto 4 B dX0_sinsTogether_41 (by decide) ?_
      rw [nI_1]
      exact ih (k + 1) (by omega) (by omega) _
  refine a_iconst (v := 0) B dX0_sinsTogether_0 (by decide) ?_
  refine p_istore2 B dX0_sinsTogether_1 (by decide) (k := ?_)
  refine a_iconst (v := 0) B dX0_sinsTogether_2 (by decide) ?_
  refine p_istore3 B dX0_sinsTogether_3 (by decide) (k := ?_)
  exact loop (N + 1) 0 (by omega) (by omega) _

theorem full_lt (d : Dm) : ∀ n b, fullO d n = some b → b < n := by
  intro n
  induction n with
  | zero => intro b h; simp [fullO] at h
  | succ n ih =>
    intro b h
    unfold fullO at h
    cases hb : fullO d n with
    | none => rw [hb] at h; dsimp only at h; cases h; omega
    | some c =>
      rw [hb] at h
      dsimp only at h
      have := ih c hb
      split at h <;> cases h <;> omega

set_option maxRecDepth 20000 in
set_option maxHeartbeats 4000000 in
theorem k_X0_fullest (i : Nat) (hi : i < 3) (M : Mem) (hI : Inv (M i)) : CC l sk D cy A X mX0_fullest 1 [.ref (A (1 + 12 * i))] M (rI (oI (fullO (M i) (nOf (M i)))) M) := by
  refine Con.of (lo := [some (.ref (A (1 + 12 * i))), none, none, none, none]) cf_X0_fullest (fun _ _ => wl_fst) 4 rfl (Nat.le_of_ble_eq_true rfl) (fun p e s m args below meth c A0 B hr hlk => ?_)
  have B : BS sk D cy (wl A cy 51 TC X) A0 p s m args c RX0 cX0_fullest 5 := B
  obtain ⟨N, hN, eN, eNo⟩ := hI.n
  have loop : ∀ n k, N + 1 ≤ k + n → k ≤ N → ∀ o4 : Option Value, AW p l e (rmK 1 (34 * 1)) s m args below meth c D (wl A cy 51 TC X) A0 5 0 0 (MQ below (QG D (wl A cy 51 TC X) A0 (rI (oI (fullO (M i) (nOf (M i)))) M)) args s 0 0 A0) 6 [some (.ref (A (1 + 12 * i))), some (.int (oI (fullO (M i) k))), some (.int (fulM (M i) (fullO (M i) k))), some (.int (nI k)), o4] [] (M) := by
    intro n
    induction n with
    | zero => intro k h1 h2; omega
    | succ n ih =>
      intro k h1 h2 o4
      refine a_iload_n B dX0_fullest_6 rfl ?_
      refine a_aload_n B dX0_fullest_7 rfl ?_
      refine a_getI B fl_X0_27 (by omega) (tcM i hi) rfl dX0_fullest_8 ?_
      refine a_icmp_ge 49 B dX0_fullest_11 (by decide) (fun c11 => ?_) (fun c11 => ?_)
      · have e1 : k = N := by have := ge_n c11 rfl eN (by omega) (by omega); omega
        subst e1
        refine a_iload_n B dX0_fullest_49 rfl ?_
        exact a_iret B hr hlk dX0_fullest_50 ⟨by rw [eNo], rfl⟩
      have hlt0 := lt_n c11 rfl eN (by omega) (by omega)
      have hk : k < 8 := by omega
      have hlt : nI k < M i 0 := nI_ltN eN hlt0 (by omega)
      refine a_aload_n B dX0_fullest_14 rfl ?_
      refine a_iload_n B dX0_fullest_15 rfl ?_
      refine a_callV1r B rfl cf_X0_at lk_X0_50 in_X0_at se_X0_at (wl_rc (by omega) (tcM i hi) rfl rfl) (k_X0_at i k hi hk _ hlt) dX0_fullest_16 (Nat.le_of_ble_eq_true rfl) ⟨Nat.le_of_ble_eq_true rfl, Nat.le_of_ble_eq_true rfl⟩ ⟨rfl, rfl⟩ ?_
      refine p_astore4 B dX0_fullest_19 (by decide) (k := ?_)
      refine a_aload B dX0_fullest_21 rfl ?_
      refine a_ifnull B dX0_fullest_23 ?_
      refine a_aload B dX0_fullest_26 rfl ?_
      refine a_getI B fl_X0_65 (by omega) (tcP i hi k hk) rfl dX0_fullest_28 ?_
      cases hb : fullO (M i) k with
      | none =>
        refine a_iload_n B dX0_fullest_31 rfl ?_
        refine a_icmp_le 43 B dX0_fullest_32 (by decide) (fun c32 => ?_) (fun c32 => ?_)
        · obtain ⟨a, ha, ea⟩ := hI.s hk
          rw [ea] at c32
          exact absurd c32 (Int32.not_le.mpr (Int32.lt_of_lt_of_le (show (-1 : Int32) < 0 by decide) (nI_pos' (by omega))))
        refine a_iload_n B dX0_fullest_35 rfl ?_
        refine p_istore1 B dX0_fullest_36 (by decide) (k := ?_)
        refine a_aload B dX0_fullest_37 rfl ?_
        refine a_getI B fl_X0_65 (by omega) (tcP i hi k hk) rfl dX0_fullest_39 ?_
        refine p_istore2 B dX0_fullest_42 (by decide) (k := ?_)
        refine p_iinc3 1 B dX0_fullest_43 (by decide) (by decide) (k := ?_)
        refine a_goto 6 B dX0_fullest_46 (by decide) ?_
        have e2 : fullO (M i) (k + 1) = some k := by rw [fullO, hb]
        have h9 := ih (k + 1) (by omega) (by omega)
        rw [e2] at h9
        rw [nI_1]
        exact h9 _
      | some b =>
        refine a_iload_n B dX0_fullest_31 rfl ?_
        refine a_icmp_le 43 B dX0_fullest_32 (by decide) (fun c32 => ?_) (fun c32 => ?_)
        · refine p_iinc3 1 B dX0_fullest_43 (by decide) (by decide) (k := ?_)
          refine a_goto 6 B dX0_fullest_46 (by decide) ?_
          have e2 : fullO (M i) (k + 1) = some b := by rw [fullO, hb]; simp only; rw [if_neg]; exact Int32.not_lt.mpr c32
          have h9 := ih (k + 1) (by omega) (by omega)
          rw [e2] at h9
          rw [nI_1]
          exact h9 _
        refine a_iload_n B dX0_fullest_35 rfl ?_
        refine p_istore1 B dX0_fullest_36 (by decide) (k := ?_)
        refine a_aload B dX0_fullest_37 rfl ?_
        refine a_getI B fl_X0_65 (by omega) (tcP i hi k hk) rfl dX0_fullest_39 ?_
        refine p_istore2 B dX0_fullest_42 (by decide) (k := ?_)
        refine p_iinc3 1 B dX0_fullest_43 (by decide) (by decide) (k := ?_)
        refine a_goto 6 B dX0_fullest_46 (by decide) ?_
        have e2 : fullO (M i) (k + 1) = some k := by rw [fullO, hb]; simp only; rw [if_pos]; exact Int32.not_le.mp c32
        have h9 := ih (k + 1) (by omega) (by omega)
        rw [e2] at h9
        rw [nI_1]
        exact h9 _
  refine a_iconst (v := (-1)) B dX0_fullest_0 (by decide) ?_
  refine p_istore1 B dX0_fullest_1 (by decide) (k := ?_)
  refine a_iconst (v := (-1)) B dX0_fullest_2 (by decide) ?_
  refine p_istore2 B dX0_fullest_3 (by decide) (k := ?_)
  refine a_iconst (v := 0) B dX0_fullest_4 (by decide) ?_
  refine p_istore3 B dX0_fullest_5 (by decide) (k := ?_)
  exact loop (N + 1) 0 (by omega) (by omega) _
set_option maxRecDepth 20000 in
set_option maxHeartbeats 4000000 in
theorem k_X0_spotsInUse (i : Nat) (hi : i < 3) (M : Mem) : CC l sk D cy A X mX0_spotsInUse 0 [.ref (A (1 + 12 * i))] M (rI (spotC (M i) 10) M) := by
  refine Con.of (lo := [some (.ref (A (1 + 12 * i))), none, none]) cf_X0_spotsInUse (fun _ _ => wl_fst) 2 rfl (Nat.le_of_ble_eq_true rfl) (fun p e s m args below meth c A0 B hr hlk => ?_)
  have B : BS sk D cy (wl A cy 51 TC X) A0 p s m args c RX0 cX0_spotsInUse 3 := B
  have loop : ∀ n k, 10 + 1 ≤ k + n → k ≤ 10 → AW p l e (rmK 0 (34 * 0)) s m args below meth c D (wl A cy 51 TC X) A0 3 0 0 (MQ below (QG D (wl A cy 51 TC X) A0 (rI (spotC (M i) 10) M)) args s 0 0 A0) 4 [some (.ref (A (1 + 12 * i))), some (.int (spotC (M i) k)), some (.int (nI k))] [] (M) := by
    intro n
    induction n with
    | zero => intro k h1 h2; omega
    | succ n ih =>
      intro k h1 h2 
      refine a_iload_n B dX0_spotsInUse_4 rfl ?_
      refine a_bipush (v := 10) B dX0_spotsInUse_5 (by decide) ?_
      refine a_icmp_ge 29 B dX0_spotsInUse_7 (by decide) (fun c7 => ?_) (fun c7 => ?_)
      · have e1 : k = 10 := by have := ge_n (b := 10) c7 rfl rfl (by omega) (by omega); omega
        subst e1
        refine a_iload_n B dX0_spotsInUse_29 rfl ?_
        exact a_iret B hr hlk dX0_spotsInUse_30 ⟨rfl, rfl⟩
      have hlt0 := lt_n (b := 10) c7 rfl rfl (by omega) (by omega)
      refine a_aload_n B dX0_spotsInUse_10 rfl ?_
      refine a_getR B fl_X0_34 (by omega) (tcM i hi) rfl dX0_spotsInUse_11 ?_
      refine a_iload_n B dX0_spotsInUse_14 rfl ?_
      refine a_iald k B (by omega) (tcS i hi) rfl hlt0 (by decide) dX0_spotsInUse_15 ?_
      refine a_iconst (v := (-1)) B dX0_spotsInUse_16 (by decide) ?_
      refine a_icmp_eq 23 B dX0_spotsInUse_17 (by decide) (fun c17 => ?_) (fun c17 => ?_)
      · refine p_iinc2 1 B dX0_spotsInUse_23 (by decide) (by decide) (k := ?_)
        refine a_goto 4 B dX0_spotsInUse_26 (by decide) ?_
        have e2 : spotC (M i) (k + 1) = spotC (M i) k := by rw [spotC, if_pos c17]
        have h9 := ih (k + 1) (by omega) (by omega)
        rw [e2] at h9
        rw [nI_1]
        exact h9
      refine p_iinc1 1 B dX0_spotsInUse_20 (by decide) (by decide) (k := ?_)
      refine p_iinc2 1 B dX0_spotsInUse_23 (by decide) (by decide) (k := ?_)
      refine a_goto 4 B dX0_spotsInUse_26 (by decide) ?_
      have e2 : spotC (M i) (k + 1) = spotC (M i) k + 1 := by rw [spotC, if_neg c17]
      have h9 := ih (k + 1) (by omega) (by omega)
      rw [e2] at h9
      rw [nI_1]
      exact h9
  refine a_iconst (v := 0) B dX0_spotsInUse_0 (by decide) ?_
  refine p_istore1 B dX0_spotsInUse_1 (by decide) (k := ?_)
  refine a_iconst (v := 0) B dX0_spotsInUse_2 (by decide) ?_
  refine p_istore2 B dX0_spotsInUse_3 (by decide) (k := ?_)
  exact loop 11 0 (by omega) (by omega)
set_option maxRecDepth 20000 in
set_option maxHeartbeats 4000000 in
theorem k_X0_takeTogether (i : Nat) (hi : i < 3) (g sins : Int32) (M : Mem) (hI : Inv (M i)) : CC l sk D cy A X mX0_takeTogether 1 [.ref (A (1 + 12 * i)), .int g, .int sins] M (rI (bI (ttB (M i) g sins)) M) := by
  refine Con.of (lo := [some (.ref (A (1 + 12 * i))), some (.int g), some (.int sins), none, none, none]) cf_X0_takeTogether (fun _ _ => wl_fst) 3 rfl (Nat.le_of_ble_eq_true rfl) (fun p e s m args below meth c A0 B hr hlk => ?_)
  have B : BS sk D cy (wl A cy 51 TC X) A0 p s m args c RX0 cX0_takeTogether 6 := B
  obtain ⟨N, hN, eN, eNo⟩ := hI.n
  have loop : ∀ n k, N + 1 ≤ k + n → k ≤ N → ∀ o5 : Option Value, AW p l e (rmK 1 (34 * 1)) s m args below meth c D (wl A cy 51 TC X) A0 6 0 0 (MQ below (QG D (wl A cy 51 TC X) A0 (rI (bI (ttB (M i) g sins)) M)) args s 0 0 A0) 5 [some (.ref (A (1 + 12 * i))), some (.int g), some (.int sins), some (.int (tkT (M i) g k)), some (.int (nI k)), o5] [] (M) := by
    intro n
    induction n with
    | zero => intro k h1 h2; omega
    | succ n ih =>
      intro k h1 h2 o5
      refine a_iload B dX0_takeTogether_5 rfl ?_
      refine a_aload_n B dX0_takeTogether_7 rfl ?_
      refine a_getI B fl_X0_27 (by omega) (tcM i hi) rfl dX0_takeTogether_8 ?_
      refine a_icmp_ge 50 B dX0_takeTogether_11 (by decide) (fun c11 => ?_) (fun c11 => ?_)
      · have e1 : k = N := by have := ge_n c11 rfl eN (by omega) (by omega); omega
        subst e1
        refine a_iload_n B dX0_takeTogether_50 rfl ?_
        refine a_iload_n B dX0_takeTogether_51 rfl ?_
        refine a_iconst (v := (-1)) B dX0_takeTogether_52 (by decide) ?_
        refine a_ixor B dX0_takeTogether_53 ?_
        refine a_iand B dX0_takeTogether_54 ?_
        refine a_if_ne 62 B dX0_takeTogether_55 (by decide) (fun c55 => ?_) (fun c55 => ?_)
        · refine a_iconst (v := 0) B dX0_takeTogether_62 (by decide) ?_
          exact a_zret B hr hlk rfl dX0_takeTogether_63 ⟨by unfold ttB; rw [eNo, decide_eq_false c55]; rfl, rfl⟩
        refine a_iconst (v := 1) B dX0_takeTogether_58 (by decide) ?_
        refine a_goto 63 B dX0_takeTogether_59 (by decide) ?_
        exact a_zret B hr hlk rfl dX0_takeTogether_63 ⟨by unfold ttB; rw [eNo, decide_eq_true c55]; rfl, rfl⟩
      have hlt0 := lt_n c11 rfl eN (by omega) (by omega)
      have hk : k < 8 := by omega
      have hlt : nI k < M i 0 := nI_ltN eN hlt0 (by omega)
      refine a_aload_n B dX0_takeTogether_14 rfl ?_
      refine a_iload B dX0_takeTogether_15 rfl ?_
      refine a_callV1r B rfl cf_X0_at lk_X0_50 in_X0_at se_X0_at (wl_rc (by omega) (tcM i hi) rfl rfl) (k_X0_at i k hi hk _ hlt) dX0_takeTogether_17 (Nat.le_of_ble_eq_true rfl) ⟨Nat.le_of_ble_eq_true rfl, Nat.le_of_ble_eq_true rfl⟩ ⟨rfl, rfl⟩ ?_
      refine p_astore5 B dX0_takeTogether_20 (by decide) (k := ?_)
      refine a_aload B dX0_takeTogether_22 rfl ?_
      refine a_ifnull B dX0_takeTogether_24 ?_
      refine a_iload_n B dX0_takeTogether_27 rfl ?_
      refine a_iload B dX0_takeTogether_28 rfl ?_
      refine a_ishr B dX0_takeTogether_30 ?_
      refine a_iconst (v := 1) B dX0_takeTogether_31 (by decide) ?_
      refine a_iand B dX0_takeTogether_32 ?_
      refine a_if_eq 44 B dX0_takeTogether_33 (by decide) (fun c33 => ?_) (fun c33 => ?_)
      · refine p_iinc4 1 B dX0_takeTogether_44 (by decide) (by decide) (k := ?_)
        refine a_goto 5 B dX0_takeTogether_47 (by decide) ?_
        have e2 : tkT (M i) g (k + 1) = tkT (M i) g k := by rw [tkT, if_neg]; unfold gB; simpa using (and1_0.mp c33)
        have h9 := ih (k + 1) (by omega) (by omega)
        rw [e2] at h9
        rw [nI_1]
        exact h9 _
      refine a_iload_n B dX0_takeTogether_36 rfl ?_
      refine a_aload B dX0_takeTogether_37 rfl ?_
      refine a_getI B fl_X0_68 (by omega) (tcP i hi k hk) rfl dX0_takeTogether_39 ?_
      refine a_ior B dX0_takeTogether_42 ?_
      refine p_istore3 B dX0_takeTogether_43 (by decide) (k := ?_)
      refine p_iinc4 1 B dX0_takeTogether_44 (by decide) (by decide) (k := ?_)
      refine a_goto 5 B dX0_takeTogether_47 (by decide) ?_
      have e2 : tkT (M i) g (k + 1) = tkT (M i) g k ||| M i (28 + k) := by rw [tkT, if_pos]; unfold gB; simpa using (and1_iff.mp c33)
      have h9 := ih (k + 1) (by omega) (by omega)
      rw [e2] at h9
      rw [nI_1]
      exact h9 _
  refine a_iconst (v := 0) B dX0_takeTogether_0 (by decide) ?_
  refine p_istore3 B dX0_takeTogether_1 (by decide) (k := ?_)
  refine a_iconst (v := 0) B dX0_takeTogether_2 (by decide) ?_
  refine p_istore4 B dX0_takeTogether_3 (by decide) (k := ?_)
  exact loop (N + 1) 0 (by omega) (by omega) _
set_option maxRecDepth 20000 in
set_option maxHeartbeats 4000000 in
theorem k_X0_fewestTaking (i : Nat) (hi : i < 3) (sins : Int32) (M : Mem) (hI : Inv (M i)) : CC l sk D cy A X mX0_fewestTaking 2 [.ref (A (1 + 12 * i)), .int sins] M (rI (oI (fewO (M i) sins)) M) := by
  refine Con.of (lo := [some (.ref (A (1 + 12 * i))), some (.int sins), none, none]) cf_X0_fewestTaking (fun _ _ => wl_fst) 2 rfl (Nat.le_of_ble_eq_true rfl) (fun p e s m args below meth c A0 B hr hlk => ?_)
  have B : BS sk D cy (wl A cy 51 TC X) A0 p s m args c RX0 cX0_fewestTaking 4 := B
  obtain ⟨N, hN, eN, eNo⟩ := hI.n
  have hp := pow9 hN
  have inner : ∀ z, z ≤ N → fst2 (fewQ (M i) sins) (2 ^ N) z = none → (fst2 (fewQ (M i) sins) (2 ^ N) (z + 1) = none → AW p l e (rmK 2 (34 * 2)) s m args below meth c D (wl A cy 51 TC X) A0 4 0 0 (MQ below (QG D (wl A cy 51 TC X) A0 (rI (oI (fewO (M i) sins)) M)) args s 0 0 A0) 47 [some (.ref (A (1 + 12 * i))), some (.int sins), some (.int (nI z)), some (.int (nI (2 ^ N)))] [] (M)) → ∀ n k, 2 ^ N + 1 ≤ k + n → k ≤ 2 ^ N → fstN (fewQ (M i) sins z) k = none → AW p l e (rmK 2 (34 * 2)) s m args below meth c D (wl A cy 51 TC X) A0 4 0 0 (MQ below (QG D (wl A cy 51 TC X) A0 (rI (oI (fewO (M i) sins)) M)) args s 0 0 A0) 12 [some (.ref (A (1 + 12 * i))), some (.int sins), some (.int (nI z)), some (.int (nI k))] [] (M) := by
    intro z hz hz0 hout n
    induction n with
    | zero => intro k h1 h2; omega
    | succ n ih =>
      intro k h1 h2 h3
      refine a_iload_n B dX0_fewestTaking_12 rfl ?_
      refine a_iconst (v := 1) B dX0_fewestTaking_13 (by decide) ?_
      refine a_aload_n B dX0_fewestTaking_14 rfl ?_
      refine a_getI B fl_X0_27 (by omega) (tcM i hi) rfl dX0_fewestTaking_15 ?_
      refine a_ishl B dX0_fewestTaking_18 ?_
      rw [eN, shl9 N (by omega)]
      refine a_icmp_ge 47 B dX0_fewestTaking_19 (by decide) (fun c19 => ?_) (fun c19 => ?_)
      · have e1 : k = 2 ^ N := by have := ge_n c19 rfl rfl (by omega) (by omega); omega
        subst e1
        exact hout (by rw [fst2, hz0]; exact h3)
      have hlt0 := lt_n c19 rfl rfl (by omega) (by omega)
      refine a_iload_n B dX0_fewestTaking_22 rfl ?_
      refine a_callS1r B rfl cf_J6_bitCount_0f7a4 lk_X0_141 st_J6_bitCount_0f7a4 (k_J6_bitCount_0f7a4 _ _) dX0_fewestTaking_23 (Nat.le_of_ble_eq_true rfl) ⟨Nat.le_of_ble_eq_true rfl, Nat.le_of_ble_eq_true rfl⟩ ⟨rfl, rfl⟩ ?_
      refine a_iload_n B dX0_fewestTaking_26 rfl ?_
      refine a_icmp_ne 41 B dX0_fewestTaking_27 (by decide) (fun c27 => ?_) (fun c27 => ?_)
      · refine p_iinc3 1 B dX0_fewestTaking_41 (by decide) (by decide) (k := ?_)
        refine a_goto 12 B dX0_fewestTaking_44 (by decide) ?_
        have e2 : fstN (fewQ (M i) sins z) (k + 1) = none := by rw [fstN, h3]; simp only; rw [if_neg]; unfold fewQ; simp [c27]
        rw [nI_1]
        exact ih (k + 1) (by omega) (by omega) e2
      refine a_aload_n B dX0_fewestTaking_30 rfl ?_
      refine a_iload_n B dX0_fewestTaking_31 rfl ?_
      refine a_iload_n B dX0_fewestTaking_32 rfl ?_
      refine a_callV2r B rfl cf_X0_takeTogether lk_X0_146 in_X0_takeTogether se_X0_takeTogether (wl_rc (by omega) (tcM i hi) rfl rfl) (k_X0_takeTogether i hi _ _ _ hI) dX0_fewestTaking_33 (Nat.le_of_ble_eq_true rfl) ⟨Nat.le_of_ble_eq_true rfl, Nat.le_of_ble_eq_true rfl⟩ ⟨rfl, rfl⟩ ?_
      refine a_if_eq 41 B dX0_fewestTaking_36 (by decide) (fun c36 => ?_) (fun c36 => ?_)
      · refine p_iinc3 1 B dX0_fewestTaking_41 (by decide) (by decide) (k := ?_)
        refine a_goto 12 B dX0_fewestTaking_44 (by decide) ?_
        have e2 : fstN (fewQ (M i) sins z) (k + 1) = none := by rw [fstN, h3]; simp only; rw [if_neg]; unfold fewQ; simp; intro _; exact bI_eq0.mp c36
        rw [nI_1]
        exact ih (k + 1) (by omega) (by omega) e2
      refine a_iload_n B dX0_fewestTaking_39 rfl ?_
      have e0 : fewQ (M i) sins z k = true := by
        unfold fewQ
        rw [decide_eq_true c27]
        cases hb : ttB (M i) (nI k) sins with
        | true => rfl
        | false => exact absurd (by rw [hb]; rfl) c36
      have e2 : fstN (fewQ (M i) sins z) (k + 1) = some k := by rw [fstN, h3]; simp only; rw [if_pos e0]
      have e3 : fst2 (fewQ (M i) sins) (2 ^ N) (z + 1) = some k := by rw [fst2, hz0]; exact fst_up e2 _ (by omega)
      exact a_iret B hr hlk dX0_fewestTaking_40 ⟨by rw [fewO, eNo, fst2_up e3 (N + 1) (by omega)]; rfl, rfl⟩
  have loop : ∀ n k, N + 2 ≤ k + n → k ≤ N + 1 → fst2 (fewQ (M i) sins) (2 ^ N) k = none → ∀ o3 : Option Value, AW p l e (rmK 2 (34 * 2)) s m args below meth c D (wl A cy 51 TC X) A0 4 0 0 (MQ below (QG D (wl A cy 51 TC X) A0 (rI (oI (fewO (M i) sins)) M)) args s 0 0 A0) 2 [some (.ref (A (1 + 12 * i))), some (.int sins), some (.int (nI k)), o3] [] (M) := by
    intro n
    induction n with
    | zero => intro k h1 h2; omega
    | succ n ih =>
      intro k h1 h2 h3 o3
      refine a_iload_n B dX0_fewestTaking_2 rfl ?_
      refine a_aload_n B dX0_fewestTaking_3 rfl ?_
      refine a_getI B fl_X0_27 (by omega) (tcM i hi) rfl dX0_fewestTaking_4 ?_
      refine a_icmp_gt 53 B dX0_fewestTaking_7 (by decide) (fun c7 => ?_) (fun c7 => ?_)
      · have e1 : k = N + 1 := by rw [eN] at c7; have := (nI_ltI (by omega) (by omega)).mp c7; omega
        subst e1
        refine a_iconst (v := (-1)) B dX0_fewestTaking_53 (by decide) ?_
        exact a_iret B hr hlk dX0_fewestTaking_54 ⟨by rw [fewO, eNo, h3]; rfl, rfl⟩
      have hlt0 : k ≤ N := by rw [eN] at c7; exact Nat.le_of_not_lt (fun q => c7 ((nI_ltI (by omega) (by omega)).mpr q))
      refine a_iconst (v := 0) B dX0_fewestTaking_10 (by decide) ?_
      refine p_istore3 B dX0_fewestTaking_11 (by decide) (k := ?_)
      refine inner k hlt0 h3 (fun h4 => ?_) (2 ^ N + 1) 0 (by rw [Nat.zero_add]; exact Nat.le_refl _) (Nat.zero_le _) rfl
      refine p_iinc2 1 B dX0_fewestTaking_47 (by decide) (by decide) (k := ?_)
      refine a_goto 2 B dX0_fewestTaking_50 (by decide) ?_
      rw [nI_1]
      exact ih (k + 1) (by omega) (by omega) h4 _
  refine a_iconst (v := 0) B dX0_fewestTaking_0 (by decide) ?_
  refine p_istore2 B dX0_fewestTaking_1 (by decide) (k := ?_)
  exact loop (N + 2) 0 (by omega) (by omega) rfl _
set_option maxRecDepth 20000 in
set_option maxHeartbeats 4000000 in
theorem k_X0_passDay (i : Nat) (hi : i < 3) (M : Mem) (hI : Inv (M i)) : CC l sk D cy A X mX0_passDay 3 [.ref (A (1 + 12 * i))] M (rV (stB M i (dayF (M i)))) := by
  refine Con.of (lo := [some (.ref (A (1 + 12 * i))), none, none, none, none]) cf_X0_passDay (fun _ _ => wl_fst) 4 rfl (Nat.le_of_ble_eq_true rfl) (fun p e s m args below meth c A0 B hr hlk => ?_)
  have B : BS sk D cy (wl A cy 51 TC X) A0 p s m args c RX0 cX0_passDay 5 := B
  obtain ⟨N, hN, eN, eNo⟩ := hI.n
  obtain ⟨cn, hc1, hc2, hc3⟩ := hI.li hI.tod.1
  obtain ⟨es, ew⟩ := cf_parts hc3 hc1
  have hI1 : Inv (confF (M i) (M i (6 + todN (M i)))) := hI.vConf (hI.li hI.tod.1)
  have hn1 : nOf (confF (M i) (M i (6 + todN (M i)))) = nOf (M i) := conf_n (by omega)
  have hn2 : nOf (illF (confF (M i) (M i (6 + todN (M i)))) (nOf (M i))) = nOf (M i) := (ill_n (by omega)).trans hn1
  have hI2 : Inv (illF (confF (M i) (M i (6 + todN (M i)))) (nOf (M i))) := hI1.vIllF _ (by omega)
  have hI3 : Inv (digA (illF (confF (M i) (M i (6 + todN (M i)))) (nOf (M i))) (nOf (M i))) := hI2.vDigA _ (by omega)
  obtain ⟨dn, hdn, edn⟩ := hI3.day
  have m3 := hld_mn (t := 99999) (nn_add (y := 1) (b := 1) edn rfl (by omega))
  obtain ⟨kn, hkn, ekn⟩ := hI.ke
  have m4 := hld_mn (t := 99999) (nn_add (y := 1) (b := 1) ekn rfl (by omega))
  have tail : ∀ o4 : Option Value, AW p l e (rmK 3 (34 * 3)) s m args below meth c D (wl A cy 51 TC X) A0 5 0 0 (MQ below (QG D (wl A cy 51 TC X) A0 (rV (stB M i (dayF (M i))))) args s 0 0 A0) 81 [some (.ref (A (1 + 12 * i))), some (.int (M i (6 + todN (M i)))), some (.int ((M i (6 + todN (M i))) / 100)), some (.int (rmI (M i (6 + todN (M i))) 100)), o4] [] (stB M i (confF (M i) (M i (6 + todN (M i))))) := by
    intro o4
    refine a_aload_n B dX0_passDay_81 rfl ?_
    refine a_callV0v B rfl cf_X0_letTheOverfullFallIll lk_X0_125 in_X0_letTheOverfullFallIll se_X0_letTheOverfullFallIll (wl_rc (by omega) (tcM i hi) rfl rfl) (k_X0_letTheOverfullFallIll i hi _ (by rw [stB_at]; exact hI1)) dX0_passDay_82 (Nat.le_of_ble_eq_true rfl) ⟨Nat.le_of_ble_eq_true rfl, Nat.le_of_ble_eq_true rfl⟩ ⟨rfl, rfl⟩ ?_
    rw [stB_at, stB_st, hn1]
    refine a_aload_n B dX0_passDay_85 rfl ?_
    refine a_callV0v B rfl cf_X0_letAllDigest lk_X0_128 in_X0_letAllDigest se_X0_letAllDigest (wl_rc (by omega) (tcM i hi) rfl rfl) (k_X0_letAllDigest i hi _ (by rw [stB_at]; exact hI2)) dX0_passDay_86 (Nat.le_of_ble_eq_true rfl) ⟨Nat.le_of_ble_eq_true rfl, Nat.le_of_ble_eq_true rfl⟩ ⟨rfl, rfl⟩ ?_
    rw [stB_at, stB_st, hn2]
    refine a_aload_n B dX0_passDay_89 rfl ?_
    refine a_aload_n B dX0_passDay_90 rfl ?_
    refine a_getI B fl_X0_9 (by omega) (tcM i hi) rfl dX0_passDay_91 ?_
    refine a_iconst (v := 1) B dX0_passDay_94 (by decide) ?_
    refine a_iadd B dX0_passDay_95 ?_
    refine a_ldc B dX0_passDay_96 kc_X0_121 ?_
    refine a_mmin B lk_X0_122 dX0_passDay_98 (by rfl) (by rfl) ⟨by decide, trivial⟩ ⟨rfl, rfl⟩ ?_
    refine a_putI B twC fl_X0_9 fp_0_0 (by omega) (tcM i hi) rfl dX0_passDay_101 ?_
    exact a_vret B hr hlk dX0_passDay_104 ⟨rfl, by rw [upB_stB, stB_at, ← m3]; rfl⟩
  refine a_aload_n B dX0_passDay_0 rfl ?_
  refine a_getR B fl_X0_30 (by omega) (tcM i hi) rfl dX0_passDay_1 ?_
  refine a_aload_n B dX0_passDay_4 rfl ?_
  refine a_callV0r B rfl cf_X0_placeToday lk_X0_105 in_X0_placeToday se_X0_placeToday (wl_rc (by omega) (tcM i hi) rfl rfl) (k_X0_placeToday i hi _ hI) dX0_passDay_5 (Nat.le_of_ble_eq_true rfl) ⟨Nat.le_of_ble_eq_true rfl, Nat.le_of_ble_eq_true rfl⟩ ⟨rfl, rfl⟩ ?_
  refine a_iald (todN (M i)) B (by omega) (tcL i hi) rfl hI.tod.1 (by decide) dX0_passDay_8 ?_
  refine p_istore1 B dX0_passDay_9 (by decide) (k := ?_)
  refine a_iload_n B dX0_passDay_10 rfl ?_
  refine a_callSN1r B rfl cf_X6_sinOf ln_X0_108 st_X6_sinOf (k_X6_sinOf _ _) dX0_passDay_11 (Nat.le_of_ble_eq_true rfl) ⟨Nat.le_of_ble_eq_true rfl, Nat.le_of_ble_eq_true rfl⟩ ⟨rfl, rfl⟩ ?_
  refine p_istore2 B dX0_passDay_14 (by decide) (k := ?_)
  refine a_iload_n B dX0_passDay_15 rfl ?_
  refine a_callSN1r B rfl cf_X6_wordsOf ln_X0_111 st_X6_wordsOf (k_X6_wordsOf _ _) dX0_passDay_16 (Nat.le_of_ble_eq_true rfl) ⟨Nat.le_of_ble_eq_true rfl, Nat.le_of_ble_eq_true rfl⟩ ⟨rfl, rfl⟩ ?_
  refine p_istore3 B dX0_passDay_19 (by decide) (k := ?_)
  refine a_iload_n B dX0_passDay_20 rfl ?_
  refine a_if_le 40 B dX0_passDay_21 (by decide) (fun c21 => ?_) (fun c21 => ?_)
  · refine a_null B dX0_passDay_40 ?_
    refine p_astoreN4 B dX0_passDay_41 (by decide) (k := ?_)
    refine a_aloadN B dX0_passDay_43 rfl ?_
    refine a_ifnullN 62 B dX0_passDay_45 (by decide) ?_
    refine a_iload_n B dX0_passDay_62 rfl ?_
    refine a_if_le 81 B dX0_passDay_63 (by decide) (fun c63 => ?_) (fun c63 => ?_)
    · refine a_mem ?_ (tail _)
      have h0 := le0 ew (by omega) c21
      unfold confF
      rw [if_pos h0, stB_id]
    exact absurd c21 c63
  refine a_aload_n B dX0_passDay_24 rfl ?_
  refine a_aload_n B dX0_passDay_25 rfl ?_
  refine a_aload_n B dX0_passDay_26 rfl ?_
  refine a_iload_n B dX0_passDay_27 rfl ?_
  refine a_callV1r B rfl cf_X0_takersOf lk_X0_114 in_X0_takersOf se_X0_takersOf (wl_rc (by omega) (tcM i hi) rfl rfl) (k_X0_takersOf i hi _ _ hI) dX0_passDay_28 (Nat.le_of_ble_eq_true rfl) ⟨Nat.le_of_ble_eq_true rfl, Nat.le_of_ble_eq_true rfl⟩ ⟨rfl, rfl⟩ ?_
  refine a_callV1r B rfl cf_X0_hungriestOf lk_X0_98 in_X0_hungriestOf se_X0_hungriestOf (wl_rc (by omega) (tcM i hi) rfl rfl) (k_X0_hungriestOf i hi _ _ hI) dX0_passDay_31 (Nat.le_of_ble_eq_true rfl) ⟨Nat.le_of_ble_eq_true rfl, Nat.le_of_ble_eq_true rfl⟩ ⟨rfl, rfl⟩ ?_
  rw [best_tk (by omega)]
  cases hb : bestF (M i) (takB (M i) ((M i (6 + todN (M i))) / 100)) (nOf (M i)) with
  | none =>
    refine a_callV1r B rfl cf_X0_at lk_X0_50 in_X0_at se_X0_at (wl_rc (by omega) (tcM i hi) rfl rfl) (k_X0_atN i hi _ _ (Or.inl (by decide))) dX0_passDay_34 (Nat.le_of_ble_eq_true rfl) ⟨Nat.le_of_ble_eq_true rfl, Nat.le_of_ble_eq_true rfl⟩ ⟨rfl, rfl⟩ ?_
    refine a_goto 41 B dX0_passDay_37 (by decide) ?_
    refine p_astoreN4 B dX0_passDay_41 (by decide) (k := ?_)
    refine a_aloadN B dX0_passDay_43 rfl ?_
    refine a_ifnullN 62 B dX0_passDay_45 (by decide) ?_
    refine a_iload_n B dX0_passDay_62 rfl ?_
    refine a_if_le 81 B dX0_passDay_63 (by decide) (fun c63 => ?_) (fun c63 => ?_)
    · exact absurd c63 c21
    refine a_aload_n B dX0_passDay_66 rfl ?_
    refine a_aload_n B dX0_passDay_67 rfl ?_
    refine a_getI B fl_X0_21 (by omega) (tcM i hi) rfl dX0_passDay_68 ?_
    refine a_iconst (v := 1) B dX0_passDay_71 (by decide) ?_
    refine a_iadd B dX0_passDay_72 ?_
    refine a_ldc B dX0_passDay_73 kc_X0_121 ?_
    refine a_mmin B lk_X0_122 dX0_passDay_75 (by rfl) (by rfl) ⟨by decide, trivial⟩ ⟨rfl, rfl⟩ ?_
    refine a_putI B twC fl_X0_21 fp_0_3 (by omega) (tcM i hi) rfl dX0_passDay_78 ?_
    refine a_mem ?_ (tail _)
    unfold confF
    rw [if_neg (gt0 c21), hb]
    rw [upB_st, ← m4]
  | some q =>
    have hqN := best_lt _ _ _ _ hb
    have hq : q < 8 := by omega
    have hlt : nI q < M i 0 := nI_ltN eN (by omega) (by omega)
    refine a_callV1r B rfl cf_X0_at lk_X0_50 in_X0_at se_X0_at (wl_rc (by omega) (tcM i hi) rfl rfl) (k_X0_at i q hi hq _ hlt) dX0_passDay_34 (Nat.le_of_ble_eq_true rfl) ⟨Nat.le_of_ble_eq_true rfl, Nat.le_of_ble_eq_true rfl⟩ ⟨rfl, rfl⟩ ?_
    refine a_goto 41 B dX0_passDay_37 (by decide) ?_
    refine p_astore4 B dX0_passDay_41 (by decide) (k := ?_)
    refine a_aload B dX0_passDay_43 rfl ?_
    refine a_ifnull B dX0_passDay_45 ?_
    refine a_aload B dX0_passDay_48 rfl ?_
    refine a_iload_n B dX0_passDay_50 rfl ?_
    refine a_iload_n B dX0_passDay_51 rfl ?_
    refine a_aload_n B dX0_passDay_52 rfl ?_
    refine a_getI B fl_X0_15 (by omega) (tcM i hi) rfl dX0_passDay_53 ?_
    refine a_callV3v B rfl cf_X1_eat lk_X0_117 in_X1_eat se_X1_eat (wl_rc (by omega) (tcP i hi q hq) rfl rfl) (k_X1_eat i q hi hq _ _ _ hI ⟨_, hc2, ew⟩) dX0_passDay_56 (Nat.le_of_ble_eq_true rfl) ⟨Nat.le_of_ble_eq_true rfl, Nat.le_of_ble_eq_true rfl⟩ ⟨rfl, rfl⟩ ?_
    refine a_goto 81 B dX0_passDay_59 (by decide) ?_
    refine a_mem ?_ (tail _)
    unfold confF
    rw [if_neg (gt0 c21), hb]
set_option maxRecDepth 20000 in
set_option maxHeartbeats 4000000 in
theorem k_X0_passDays (i : Nat) (hi : i < 3) (t : Nat) (ht : t < 100000) (M : Mem) (hI : Inv (M i)) : CC l sk D cy A X mX0_passDays 4 [.ref (A (1 + 12 * i)), .int (nI t)] M (rV (stB M i (daysF (M i) t))) := by
  refine Con.of (lo := [some (.ref (A (1 + 12 * i))), some (.int (nI t)), none]) cf_X0_passDays (fun _ _ => wl_fst) 1 rfl (Nat.le_of_ble_eq_true rfl) (fun p e s m args below meth c A0 B hr hlk => ?_)
  have B : BS sk D cy (wl A cy 51 TC X) A0 p s m args c RX0 cX0_passDays 3 := B
  have loop : ∀ n k, t + 1 ≤ k + n → k ≤ t → AW p l e (rmK 4 (34 * 4)) s m args below meth c D (wl A cy 51 TC X) A0 3 0 0 (MQ below (QG D (wl A cy 51 TC X) A0 (rV (stB M i (daysF (M i) t)))) args s 0 0 A0) 2 [some (.ref (A (1 + 12 * i))), some (.int (nI t)), some (.int (nI k))] [] (stB M i (daysF (M i) k)) := by
    intro n
    induction n with
    | zero => intro k h1 h2; omega
    | succ n ih =>
      intro k h1 h2 
      refine a_iload_n B dX0_passDays_2 rfl ?_
      refine a_iload_n B dX0_passDays_3 rfl ?_
      refine a_icmp_ge 17 B dX0_passDays_4 (by decide) (fun c4 => ?_) (fun c4 => ?_)
      · have e1 : k = t := by have := ge_n c4 rfl rfl (by omega) (by omega); omega
        subst e1
        exact a_vret B hr hlk dX0_passDays_17 ⟨rfl, rfl⟩
      have hlt0 := lt_n c4 rfl rfl (by omega) (by omega)
      refine a_aload_n B dX0_passDays_7 rfl ?_
      refine a_callV0v B rfl cf_X0_passDay lk_X0_102 in_X0_passDay se_X0_passDay (wl_rc (by omega) (tcM i hi) rfl rfl) (k_X0_passDay i hi _ (by rw [stB_at]; exact hI.vDays k)) dX0_passDays_8 (Nat.le_of_ble_eq_true rfl) ⟨Nat.le_of_ble_eq_true rfl, Nat.le_of_ble_eq_true rfl⟩ ⟨rfl, rfl⟩ ?_
      rw [stB_at, stB_st]
      refine p_iinc2 1 B dX0_passDays_11 (by decide) (by decide) (k := ?_)
      refine a_goto 2 B dX0_passDays_14 (by decide) ?_
      rw [nI_1]
      exact ih (k + 1) (by omega) (by omega)
  refine a_iconst (v := 0) B dX0_passDays_0 (by decide) ?_
  refine p_istore2 B dX0_passDays_1 (by decide) (k := ?_)
  refine a_mem ?_ (loop (t + 1) 0 (by omega) (by omega))
  exact stB_id.symm
set_option maxRecDepth 20000 in
set_option maxHeartbeats 4000000 in
theorem k_X0_becomeLike (i j : Nat) (hi : i < 3) (hj : j < 3) (hij : i ≠ j) (M : Mem) (hI : Inv (M j)) : CC l sk D cy A X mX0_becomeLike 1 [.ref (A (1 + 12 * i)), .ref (A (1 + 12 * j))] M (rV (stB M i (likeF (M i) (M j)))) := by
  refine Con.of (lo := [some (.ref (A (1 + 12 * i))), some (.ref (A (1 + 12 * j))), none, none, none]) cf_X0_becomeLike (fun _ _ => wl_fst) 3 rfl (Nat.le_of_ble_eq_true rfl) (fun p e s m args below meth c A0 B hr hlk => ?_)
  have B : BS sk D cy (wl A cy 51 TC X) A0 p s m args c RX0 cX0_becomeLike 5 := B
  obtain ⟨N, hN, eN, eNo⟩ := hI.n
  have loop : ∀ n k, N + 1 ≤ k + n → k ≤ N → ∀ o3 o4 : Option Value, AW p l e (rmK 1 (34 * 1)) s m args below meth c D (wl A cy 51 TC X) A0 5 0 0 (MQ below (QG D (wl A cy 51 TC X) A0 (rV (stB M i (likeF (M i) (M j))))) args s 0 0 A0) 80 [some (.ref (A (1 + 12 * i))), some (.ref (A (1 + 12 * j))), some (.int (nI k)), o3, o4] [] (stB M i (likeK (M i) (M j) k)) := by
    intro n
    induction n with
    | zero => intro k h1 h2; omega
    | succ n ih =>
      intro k h1 h2 o3 o4
      generalize hM1 : stB M i (likeK (M i) (M j) k) = M1
      have hMi : M1 i = likeK (M i) (M j) k := by rw [← hM1, stB_at]
      have hMj : M1 j = M j := by rw [← hM1, stB_ne (Ne.symm hij)]
      have hst : ∀ d, stB M1 i d = stB M i d := fun d => by rw [← hM1, stB_st]
      have eN1 : M1 i 0 = nI N := by rw [hMi]; unfold likeK; rw [if_pos (by omega)]; exact eN
      refine a_iload_n B dX0_becomeLike_80 rfl ?_
      refine a_aload_n B dX0_becomeLike_81 rfl ?_
      refine a_getI B fl_X0_27 (by omega) (tcM i hi) rfl dX0_becomeLike_82 ?_
      refine a_icmp_ge 122 B dX0_becomeLike_85 (by decide) (fun c85 => ?_) (fun c85 => ?_)
      · have e1 : k = N := by have := ge_n c85 rfl eN1 (by omega) (by omega); omega
        subst e1
        exact a_vret B hr hlk dX0_becomeLike_122 ⟨rfl, by rw [← hM1, likeF, eNo]⟩
      have hlt0 := lt_n c85 rfl eN1 (by omega) (by omega)
      have hk : k < 8 := by omega
      have hlti : nI k < M1 i 0 := nI_ltN eN1 hlt0 (by omega)
      have hltj : nI k < M1 j 0 := by rw [hMj]; exact nI_ltN eN hlt0 (by omega)
      refine a_aload_n B dX0_becomeLike_88 rfl ?_
      refine a_iload_n B dX0_becomeLike_89 rfl ?_
      refine a_callV1r B rfl cf_X0_at lk_X0_50 in_X0_at se_X0_at (wl_rc (by omega) (tcM j hj) rfl rfl) (k_X0_at j k hj hk _ hltj) dX0_becomeLike_90 (Nat.le_of_ble_eq_true rfl) ⟨Nat.le_of_ble_eq_true rfl, Nat.le_of_ble_eq_true rfl⟩ ⟨rfl, rfl⟩ ?_
      refine p_astore3 B dX0_becomeLike_93 (by decide) (k := ?_)
      refine a_aload_n B dX0_becomeLike_94 rfl ?_
      refine a_iload_n B dX0_becomeLike_95 rfl ?_
      refine a_callV1r B rfl cf_X0_at lk_X0_50 in_X0_at se_X0_at (wl_rc (by omega) (tcM i hi) rfl rfl) (k_X0_at i k hi hk _ hlti) dX0_becomeLike_96 (Nat.le_of_ble_eq_true rfl) ⟨Nat.le_of_ble_eq_true rfl, Nat.le_of_ble_eq_true rfl⟩ ⟨rfl, rfl⟩ ?_
      refine p_astore4 B dX0_becomeLike_99 (by decide) (k := ?_)
      refine a_aload_n B dX0_becomeLike_101 rfl ?_
      refine a_ifnull B dX0_becomeLike_102 ?_
      refine a_aload B dX0_becomeLike_105 rfl ?_
      refine a_ifnull B dX0_becomeLike_107 ?_
      refine a_aload B dX0_becomeLike_110 rfl ?_
      refine a_aload_n B dX0_becomeLike_112 rfl ?_
      refine a_callV1v B rfl cf_X1_becomeLike lk_X0_54 in_X1_becomeLike se_X1_becomeLike (wl_rc (by omega) (tcP i hi k hk) rfl rfl) (k_X1_becomeLike i k hi hk j k hj hk hij _) dX0_becomeLike_113 (Nat.le_of_ble_eq_true rfl) ⟨Nat.le_of_ble_eq_true rfl, Nat.le_of_ble_eq_true rfl⟩ ⟨rfl, rfl⟩ ?_
      refine p_iinc2 1 B dX0_becomeLike_116 (by decide) (by decide) (k := ?_)
      refine a_goto 80 B dX0_becomeLike_119 (by decide) ?_
      rw [nI_1]
      refine a_mem ?_ (ih (k + 1) (by omega) (by omega) _ _)
      rw [hMi, hMj, hst, likeK_s hk]
  refine a_aload_n B dX0_becomeLike_0 rfl ?_
  refine a_aload_n B dX0_becomeLike_1 rfl ?_
  refine a_getI B fl_X0_9 (by omega) (tcM j hj) rfl dX0_becomeLike_2 ?_
  refine a_putI B twC fl_X0_9 fp_0_0 (by omega) (tcM i hi) rfl dX0_becomeLike_5 ?_
  refine a_aload_n B dX0_becomeLike_8 rfl ?_
  refine a_aload_n B dX0_becomeLike_9 rfl ?_
  refine a_getI B fl_X0_15 (by omega) (tcM j hj) rfl dX0_becomeLike_10 ?_
  refine a_putI B twC fl_X0_15 fp_0_1 (by omega) (tcM i hi) rfl dX0_becomeLike_13 ?_
  refine a_aload_n B dX0_becomeLike_16 rfl ?_
  refine a_aload_n B dX0_becomeLike_17 rfl ?_
  refine a_getI B fl_X0_18 (by omega) (tcM j hj) rfl dX0_becomeLike_18 ?_
  refine a_putI B twC fl_X0_18 fp_0_2 (by omega) (tcM i hi) rfl dX0_becomeLike_21 ?_
  refine a_aload_n B dX0_becomeLike_24 rfl ?_
  refine a_aload_n B dX0_becomeLike_25 rfl ?_
  refine a_getI B fl_X0_21 (by omega) (tcM j hj) rfl dX0_becomeLike_26 ?_
  refine a_putI B twC fl_X0_21 fp_0_3 (by omega) (tcM i hi) rfl dX0_becomeLike_29 ?_
  refine a_aload_n B dX0_becomeLike_32 rfl ?_
  refine a_aload_n B dX0_becomeLike_33 rfl ?_
  refine a_getI B fl_X0_24 (by omega) (tcM j hj) rfl dX0_becomeLike_34 ?_
  refine a_putI B twC fl_X0_24 fp_0_4 (by omega) (tcM i hi) rfl dX0_becomeLike_37 ?_
  refine a_aload_n B dX0_becomeLike_40 rfl ?_
  refine a_aload_n B dX0_becomeLike_41 rfl ?_
  refine a_getI B fl_X0_27 (by omega) (tcM j hj) rfl dX0_becomeLike_42 ?_
  refine a_putI B twC fl_X0_27 fp_0_5 (by omega) (tcM i hi) rfl dX0_becomeLike_45 ?_
  refine a_aload_n B dX0_becomeLike_48 rfl ?_
  refine a_getR B fl_X0_30 (by omega) (tcM j hj) rfl dX0_becomeLike_49 ?_
  refine a_iconst (v := 0) B dX0_becomeLike_52 (by decide) ?_
  refine a_aload_n B dX0_becomeLike_53 rfl ?_
  refine a_getR B fl_X0_30 (by omega) (tcM i hi) rfl dX0_becomeLike_54 ?_
  refine a_iconst (v := 0) B dX0_becomeLike_57 (by decide) ?_
  refine a_bipush (v := 6) B dX0_becomeLike_58 (by decide) ?_
  refine a_acopy 0 0 6 B twC (by omega) (tcL j hj) (by omega) (tcL i hi) rfl rfl rfl (by omega) (by omega) (by decide) (by decide) lk_X0_44 ac_nat ac_st ii_J10 (by decide) (by decide) dX0_becomeLike_60 ?_
  refine a_aload_n B dX0_becomeLike_63 rfl ?_
  refine a_getR B fl_X0_34 (by omega) (tcM j hj) rfl dX0_becomeLike_64 ?_
  refine a_iconst (v := 0) B dX0_becomeLike_67 (by decide) ?_
  refine a_aload_n B dX0_becomeLike_68 rfl ?_
  refine a_getR B fl_X0_34 (by omega) (tcM i hi) rfl dX0_becomeLike_69 ?_
  refine a_iconst (v := 0) B dX0_becomeLike_72 (by decide) ?_
  refine a_bipush (v := 10) B dX0_becomeLike_73 (by decide) ?_
  refine a_acopy 0 0 10 B twC (by omega) (tcS j hj) (by omega) (tcS i hi) rfl rfl rfl (by omega) (by omega) (by decide) (by decide) lk_X0_44 ac_nat ac_st ii_J10 (by decide) (by decide) dX0_becomeLike_75 ?_
  refine a_iconst (v := 0) B dX0_becomeLike_78 (by decide) ?_
  refine p_istore2 B dX0_becomeLike_79 (by decide) (k := ?_)
  refine a_mem ?_ (loop (N + 1) 0 (by omega) (by omega) _ _)
  have hu : ∀ (M' : Mem) (b n n2 : Nat) (v : Int32), b ≠ j → upB M' b n v j n2 = M' j n2 := fun M' b n n2 v h => by rw [upB_st, stB_ne (Ne.symm h)]
  simp only [hu _ _ _ _ _ hij]
  exact like0 hij
end C4
