
section C8
abbrev Oc : Type := Int32 ⊕ Nat
def fnd (k : Nat) : Int32 := -1000001 - nI k
theorem fnd_pl : ∀ k, k < 7 → -1000001 - fnd k = nI k := by decide +kernel
def tellB (M : Mem) (k : Nat) : Mem := stB M 6 (upd (M 6) k (M 6 k + 1))
abbrev rQ (x : Oc) (M1 M : Mem) : Option Value → Mem → Prop := fun v M' => match x with
  | .inl r => v = some (.int r) ∧ ∃ d', Inv d' ∧ M' = stB M1 2 d'
  | .inr k => v = some (.int (fnd k)) ∧ ∃ d', Inv d' ∧ M' = stB (tellB M k) 2 d'
theorem rQl {x : Oc} {M1 M M' : Mem} {r : Int32} {d' : Dm} (hx : x = .inl r) (hd : Inv d') (hM : M' = stB M1 2 d') : rQ x M1 M (some (.int r)) M' := by subst hx; exact ⟨rfl, d', hd, hM⟩
theorem rQl0 {x : Oc} {M1 M M' : Mem} {r : Int32} (hx : x = .inl r) (hd : Inv (M1 2)) (hM : M' = M1) : rQ x M1 M (some (.int r)) M' := rQl hx hd (by rw [hM, stB_id])
theorem rQr {x : Oc} {M1 M M' : Mem} {f : Int32} {k : Nat} {d' : Dm} (hx : x = .inr k) (hf : f = fnd k) (hd : Inv d') (hM : M' = stB (tellB M k) 2 d') : rQ x M1 M (some (.int f)) M' := by subst hx; subst hf; exact ⟨rfl, d', hd, hM⟩
theorem rQr0 {x : Oc} {M1 M M' : Mem} {f : Int32} {k : Nat} (hx : x = .inr k) (hf : f = fnd k) (hd : Inv (M 2)) (hM : M' = tellB M k) : rQ x M1 M (some (.int f)) M' := rQr hx hf hd (by rw [hM]; unfold tellB; rw [stB_comm (by decide), stB_id])
theorem tell_2 {M : Mem} {k : Nat} {d' : Dm} : tellB (stB M 2 d') k = stB (tellB M k) 2 d' := by
  unfold tellB
  rw [stB_ne (show (6 : Nat) ≠ 2 by decide), stB_comm (by decide)]
def CI (M : Mem) : Prop := Inv (M 0) ∧ Inv (M 1) ∧ Inv (M 2) ∧ (∃ L, L ≤ 120 ∧ M 4 5 = nI L) ∧ ∀ t, t < 4 → szOk M t
def isP (d : Dm) (v : Int32) : Bool := !decide (v < 0) && !decide (d 0 ≤ v)
theorem at_cases {d : Dm} (hI : Inv d) (v : Int32) : (∃ q, q < nOf d ∧ q < 8 ∧ v = nI q ∧ isP d v = true ∧ nI q < d 0) ∨ ((v < 0 ∨ d 0 ≤ v ∨ 8 ≤ v) ∧ isP d v = false) := by
  obtain ⟨N, hN, eN, eNo⟩ := hI.n
  unfold isP
  by_cases h1 : v < 0
  · right; exact ⟨Or.inl h1, by rw [decide_eq_true h1]; rfl⟩
  by_cases h2 : d 0 ≤ v
  · right; exact ⟨Or.inr (Or.inl h2), by rw [decide_eq_true h2]; exact Bool.and_false _⟩
  left
  obtain ⟨q, hq1, hq2⟩ := nI_of h1
  have h3 : q < N := by
    rw [hq2, eN] at h2
    exact Nat.lt_of_not_le (fun h => h2 (nI_le h hq1))
  exact ⟨q, by omega, by omega, hq2, by rw [decide_eq_false h1, decide_eq_false h2]; rfl, by rw [eN]; exact nI_lt h3 (by omega)⟩
theorem wi_cases {t : Nat} (v : Int32) (ht : t < 2 ^ 31) : (∃ q, q ≤ t ∧ v = nI q ∧ wi v (nI t) = true) ∨ wi v (nI t) = false := by
  cases h : wi v (nI t) with
  | false => exact Or.inr rfl
  | true =>
    left
    unfold wi at h
    simp only [Bool.and_eq_true, Bool.not_eq_true', decide_eq_false_iff_not] at h
    obtain ⟨q, hq1, hq2⟩ := nI_of h.1
    refine ⟨q, ?_, hq2, rfl⟩
    rw [hq2] at h
    exact Nat.le_of_not_lt (fun h3 => h.2 (nI_lt h3 hq1))

variable {l : Launch} {sk : (Nat → Nat) × (Nat → Nat)} {D : va_G} {cy : Nat → ClassId} {A : Nat → Nat} {X : va_W}
set_option maxRecDepth 20000 in
theorem k_X6_tell (k : Nat) (hk : k < 7) (f : Int32) (hf : f = fnd k) (M : Mem) : CC l sk D cy A X mX6_tell 1 [.ref (A 0), .int f] M (rI f (tellB M k)) := by
  refine Con.of (lo := [some (.ref (A 0)), some (.int f), none]) cf_X6_tell (fun _ _ => wl_fst) 1 rfl (Nat.le_of_ble_eq_true rfl) (fun Pp Ee Ss Mm Aa Bb Me Cc A0 B hr hlk => ?_)
  have B : BS sk D cy (wl A cy 51 TC X) A0 Pp Ss Mm Aa Cc RX6 cX6_tell 3 := B
  refine a_ldc B dX6_tell_0 kc_X6_59 ?_
  refine a_iload_n B dX6_tell_2 rfl ?_
  refine a_isub B dX6_tell_3 ?_
  rw [hf, fnd_pl k hk, ← hf]
  refine p_istore2 B dX6_tell_4 (by decide) (k := ?_)
  refine a_iload_n B dX6_tell_5 rfl ?_
  refine a_bipush (v := 6) B dX6_tell_6 (by decide) ?_
  refine a_callS2r B rfl cf_X6_within lk_X6_48 st_X6_within (k_X6_within _ _ _) dX6_tell_8 (Nat.le_of_ble_eq_true rfl) ⟨Nat.le_of_ble_eq_true rfl, Nat.le_of_ble_eq_true rfl⟩ ⟨rfl, rfl⟩ ?_
  refine a_if_eq 24 B dX6_tell_11 (by decide) (fun c11 => ?_) (fun c11 => ?_)
  · exact absurd (bI_eq0.mp c11) (by rw [show (6 : Int32) = nI 6 from rfl, wi_in (by omega) (by omega)]; decide)
  refine a_aload_n B dX6_tell_14 rfl ?_
  refine a_getR B fl_X6_43 (by decide) rfl rfl dX6_tell_15 ?_
  refine a_iload_n B dX6_tell_18 rfl ?_
  refine a_dup2 B dX6_tell_19 rfl rfl ?_
  refine a_iald k B (by decide) rfl rfl hk (by decide) dX6_tell_20 ?_
  refine a_iconst (v := 1) B dX6_tell_21 (by decide) ?_
  refine a_iadd B dX6_tell_22 ?_
  refine a_iast k B twC (by decide) rfl rfl hk (by decide) dX6_tell_23 ?_
  refine a_iload_n B dX6_tell_24 rfl ?_
  exact a_iret B hr hlk dX6_tell_25 ⟨congrArg (fun z => some (Value.int z)) (rfl), by rw [Nat.zero_add]; exact upB_st⟩
set_option maxRecDepth 20000 in
theorem k_X6_orNone (v : Int32) (M : Mem) : CC l sk D cy A X mX6_orNone 2 [.ref (A 0), .int v] M (rI (if v < 0 then fnd 3 else v) (if v < 0 then tellB M 3 else M)) := by
  refine Con.of (lo := [some (.ref (A 0)), some (.int v)]) cf_X6_orNone (fun _ _ => wl_fst) 0 rfl (Nat.le_of_ble_eq_true rfl) (fun Pp Ee Ss Mm Aa Bb Me Cc A0 B hr hlk => ?_)
  have B : BS sk D cy (wl A cy 51 TC X) A0 Pp Ss Mm Aa Cc RX6 cX6_orNone 2 := B
  refine a_iload_n B dX6_orNone_0 rfl ?_
  refine a_if_ge 13 B dX6_orNone_1 (by decide) (fun c1 => ?_) (fun c1 => ?_)
  · refine a_iload_n B dX6_orNone_13 rfl ?_
    exact a_iret B hr hlk dX6_orNone_14 ⟨by rw [if_neg (Int32.not_lt.mpr c1)], by rw [if_neg (Int32.not_lt.mpr c1)]⟩
  refine a_aload_n B dX6_orNone_4 rfl ?_
  refine a_ldc B dX6_orNone_5 kc_X6_198 ?_
  refine a_callV1r B rfl cf_X6_tell lk_X6_60 in_X6_tell se_X6_tell (wl_rc (p0 := 0) (by decide) rfl rfl rfl) (k_X6_tell 3 (by decide) _ (by decide) _) dX6_orNone_7 (Nat.le_of_ble_eq_true rfl) ⟨Nat.le_of_ble_eq_true rfl, Nat.le_of_ble_eq_true rfl⟩ ⟨rfl, rfl⟩ ?_
  refine a_goto 14 B dX6_orNone_10 (by decide) ?_
  exact a_iret B hr hlk dX6_orNone_14 ⟨by rw [if_pos (Int32.not_le.mp c1)]; rfl, by rw [if_pos (Int32.not_le.mp c1)]⟩
theorem shk : ∀ t, t < 4 → [43, 45, 47, 49][t]? = some (43 + 2 * t) := by
  intro t ht
  rcases (show t = 0 ∨ t = 1 ∨ t = 2 ∨ t = 3 by omega) with rfl | rfl | rfl | rfl <;> rfl
set_option maxRecDepth 20000 in
theorem k_X6_sheetAt (t : Nat) (ht : t < 4) (M : Mem) : CC l sk D cy A X mX6_sheetAt 1 [.ref (A 0), .int (nI t)] M (rA (A (43 + 2 * t)) M) := by
  refine Con.of (lo := [some (.ref (A 0)), some (.int (nI t))]) cf_X6_sheetAt (fun _ _ => wl_fst) 0 rfl (Nat.le_of_ble_eq_true rfl) (fun Pp Ee Ss Mm Aa Bb Me Cc A0 B hr hlk => ?_)
  have B : BS sk D cy (wl A cy 51 TC X) A0 Pp Ss Mm Aa Cc RX6 cX6_sheetAt 2 := B
  refine a_iload_n B dX6_sheetAt_0 rfl ?_
  refine a_iconst (v := 3) B dX6_sheetAt_1 (by decide) ?_
  refine a_callS2r B rfl cf_X6_within lk_X6_48 st_X6_within (k_X6_within _ _ _) dX6_sheetAt_2 (Nat.le_of_ble_eq_true rfl) ⟨Nat.le_of_ble_eq_true rfl, Nat.le_of_ble_eq_true rfl⟩ ⟨rfl, rfl⟩ ?_
  refine a_if_eq 17 B dX6_sheetAt_5 (by decide) (fun c5 => ?_) (fun c5 => ?_)
  · exact absurd (bI_eq0.mp c5) (by rw [show (3 : Int32) = nI 3 from rfl, wi_in (by omega) (by omega)]; decide)
  refine a_aload_n B dX6_sheetAt_8 rfl ?_
  refine a_getR B fl_X6_39 (by decide) rfl rfl dX6_sheetAt_9 ?_
  refine a_iload_n B dX6_sheetAt_12 rfl ?_
  refine a_aald t 3 B (by decide) rfl rfl rfl (shk t ht) (Nat.le_of_ble_eq_true rfl) dX6_sheetAt_13 ?_
  refine a_goto 18 B dX6_sheetAt_14 (by decide) ?_
  exact a_aret B hr hlk (Or.inl ⟨_, rfl⟩) (Or.inr ⟨_, rfl⟩) dX6_sheetAt_18 ⟨rfl, rfl⟩
set_option maxRecDepth 20000 in
theorem k_X6_sheetAtN (v : Int32) (hv : wi v 3 = false) (M : Mem) : CC l sk D cy A X mX6_sheetAt 1 [.ref (A 0), .int v] M (rt1 (some .null) M) := by
  refine Con.of (lo := [some (.ref (A 0)), some (.int v)]) cf_X6_sheetAt (fun _ _ => wl_fst) 0 rfl (Nat.le_of_ble_eq_true rfl) (fun Pp Ee Ss Mm Aa Bb Me Cc A0 B hr hlk => ?_)
  have B : BS sk D cy (wl A cy 51 TC X) A0 Pp Ss Mm Aa Cc RX6 cX6_sheetAt 2 := B
  refine a_iload_n B dX6_sheetAt_0 rfl ?_
  refine a_iconst (v := 3) B dX6_sheetAt_1 (by decide) ?_
  refine a_callS2r B rfl cf_X6_within lk_X6_48 st_X6_within (k_X6_within _ _ _) dX6_sheetAt_2 (Nat.le_of_ble_eq_true rfl) ⟨Nat.le_of_ble_eq_true rfl, Nat.le_of_ble_eq_true rfl⟩ ⟨rfl, rfl⟩ ?_
  refine a_if_eq 17 B dX6_sheetAt_5 (by decide) (fun c5 => ?_) (fun c5 => ?_)
  · refine a_null B dX6_sheetAt_17 ?_
    exact a_aret B hr hlk (Or.inl ⟨_, rfl⟩) (Or.inl rfl) dX6_sheetAt_18 ⟨rfl, rfl⟩
  exact absurd (by rw [hv]; rfl) c5
set_option maxRecDepth 20000 in
theorem k_X4_mayHaveBits (b : Int32) (M : Mem) : CC l sk D cy A X mX4_mayHaveBits 0 [.int b] M (rI (bI (decide (b = 0) || decide (b = 8) || decide (b = 16) || decide (b = 32))) M) := by
  refine Con.of (lo := [some (.int b)]) cf_X4_mayHaveBits (fun _ _ => wl_fst) 0 rfl (Nat.le_of_ble_eq_true rfl) (fun Pp Ee Ss Mm Aa Bb Me Cc A0 B hr hlk => ?_)
  have B : BS sk D cy (wl A cy 51 TC X) A0 Pp Ss Mm Aa Cc RX4 cX4_mayHaveBits 1 := B
  refine a_iload_n B dX4_mayHaveBits_0 rfl ?_
  refine a_if_eq 22 B dX4_mayHaveBits_1 (by decide) (fun c1 => ?_) (fun c1 => ?_)
  · refine a_iconst (v := 1) B dX4_mayHaveBits_22 (by decide) ?_
    refine a_goto 27 B dX4_mayHaveBits_23 (by decide) ?_
    exact a_zret B hr hlk (rfl) dX4_mayHaveBits_27 ⟨congrArg (fun z => some (Value.int z)) (by simp [bI, c1]), rfl⟩
  refine a_iload_n B dX4_mayHaveBits_4 rfl ?_
  refine a_bipush (v := 8) B dX4_mayHaveBits_5 (by decide) ?_
  refine a_icmp_eq 22 B dX4_mayHaveBits_7 (by decide) (fun c7 => ?_) (fun c7 => ?_)
  · refine a_iconst (v := 1) B dX4_mayHaveBits_22 (by decide) ?_
    refine a_goto 27 B dX4_mayHaveBits_23 (by decide) ?_
    exact a_zret B hr hlk (rfl) dX4_mayHaveBits_27 ⟨congrArg (fun z => some (Value.int z)) (by simp [bI, c1, c7]), rfl⟩
  refine a_iload_n B dX4_mayHaveBits_10 rfl ?_
  refine a_bipush (v := 16) B dX4_mayHaveBits_11 (by decide) ?_
  refine a_icmp_eq 22 B dX4_mayHaveBits_13 (by decide) (fun c13 => ?_) (fun c13 => ?_)
  · refine a_iconst (v := 1) B dX4_mayHaveBits_22 (by decide) ?_
    refine a_goto 27 B dX4_mayHaveBits_23 (by decide) ?_
    exact a_zret B hr hlk (rfl) dX4_mayHaveBits_27 ⟨congrArg (fun z => some (Value.int z)) (by simp [bI, c1, c7, c13]), rfl⟩
  refine a_iload_n B dX4_mayHaveBits_16 rfl ?_
  refine a_bipush (v := 32) B dX4_mayHaveBits_17 (by decide) ?_
  refine a_icmp_ne 26 B dX4_mayHaveBits_19 (by decide) (fun c19 => ?_) (fun c19 => ?_)
  · refine a_iconst (v := 0) B dX4_mayHaveBits_26 (by decide) ?_
    exact a_zret B hr hlk (rfl) dX4_mayHaveBits_27 ⟨congrArg (fun z => some (Value.int z)) (by simp [bI, c1, c7, c13, c19]), rfl⟩
  refine a_iconst (v := 1) B dX4_mayHaveBits_22 (by decide) ?_
  refine a_goto 27 B dX4_mayHaveBits_23 (by decide) ?_
  exact a_zret B hr hlk (rfl) dX4_mayHaveBits_27 ⟨congrArg (fun z => some (Value.int z)) (by simp [bI, c1, c7, c13, c19]), rfl⟩
set_option maxRecDepth 20000 in
theorem k_X4_isMissing (t : Nat) (ht : t < 4) (M : Mem) : CC l sk D cy A X mX4_isMissing 0 [.ref (A (43 + 2 * t))] M (rI (bI (decide (M (7 + t) 0 = 0))) M) := by
  refine Con.of (lo := [some (.ref (A (43 + 2 * t)))]) cf_X4_isMissing (fun _ _ => wl_fst) 0 rfl (Nat.le_of_ble_eq_true rfl) (fun Pp Ee Ss Mm Aa Bb Me Cc A0 B hr hlk => ?_)
  have B : BS sk D cy (wl A cy 51 TC X) A0 Pp Ss Mm Aa Cc RX4 cX4_isMissing 1 := B
  refine a_aload_n B dX4_isMissing_0 rfl ?_
  refine a_getI B fl_X4_9 (by omega) (tcT t ht) rfl dX4_isMissing_1 ?_
  refine a_if_ne 11 B dX4_isMissing_4 (by decide) (fun c4 => ?_) (fun c4 => ?_)
  · refine a_iconst (v := 0) B dX4_isMissing_11 (by decide) ?_
    exact a_zret B hr hlk (rfl) dX4_isMissing_12 ⟨congrArg (fun z => some (Value.int z)) (by simp [bI, c4]), rfl⟩
  refine a_iconst (v := 1) B dX4_isMissing_7 (by decide) ?_
  refine a_goto 12 B dX4_isMissing_8 (by decide) ?_
  exact a_zret B hr hlk (rfl) dX4_isMissing_12 ⟨congrArg (fun z => some (Value.int z)) (by simp [bI, c4]), rfl⟩
def cutV (b v : Int32) : Int32 := if b = 8 then v.toInt8.toInt32 else if b = 16 then v.toInt16.toInt32 else v
set_option maxRecDepth 20000 in
theorem k_X4_cut (t : Nat) (ht : t < 4) (v : Int32) (M : Mem) : CC l sk D cy A X mX4_cut 0 [.ref (A (43 + 2 * t)), .int v] M (rI (cutV (M (7 + t) 0) v) M) := by
  refine Con.of (lo := [some (.ref (A (43 + 2 * t))), some (.int v)]) cf_X4_cut (fun _ _ => wl_fst) 0 rfl (Nat.le_of_ble_eq_true rfl) (fun Pp Ee Ss Mm Aa Bb Me Cc A0 B hr hlk => ?_)
  have B : BS sk D cy (wl A cy 51 TC X) A0 Pp Ss Mm Aa Cc RX4 cX4_cut 2 := B
  refine a_aload_n B dX4_cut_0 rfl ?_
  refine a_getI B fl_X4_9 (by omega) (tcT t ht) rfl dX4_cut_1 ?_
  by_cases s4_0 : M (7 + t) 0 = 8
  · refine a_lookup (off := 28) 32 B dX4_cut_4 (by decide) (by rw [s4_0] <;> rfl) (by decide) ?_
    refine a_iload_n B dX4_cut_32 rfl ?_
    refine a_i2b B dX4_cut_33 ?_
    exact a_iret B hr hlk dX4_cut_34 ⟨congrArg (fun z => some (Value.int z)) (by simp [cutV, s4_0]), rfl⟩
  by_cases s4_1 : M (7 + t) 0 = 16
  · refine a_lookup (off := 31) 35 B dX4_cut_4 (by decide) (by rw [s4_1] <;> rfl) (by decide) ?_
    refine a_iload_n B dX4_cut_35 rfl ?_
    refine a_i2s B dX4_cut_36 ?_
    exact a_iret B hr hlk dX4_cut_37 ⟨congrArg (fun z => some (Value.int z)) (by simp [cutV, s4_0, s4_1]), rfl⟩
  refine a_lookup (off := 34) 38 B dX4_cut_4 (by decide) (by show Op.lookupswitch.offset [(8, 28), (16, 31)] (34) _ = _; rw [lv_osw s4_0 (show (8 : Int32).toInt = 8 by decide), lv_osw s4_1 (show (16 : Int32).toInt = 16 by decide)] <;> rfl) (by decide) ?_
  refine a_iload_n B dX4_cut_38 rfl ?_
  exact a_iret B hr hlk dX4_cut_39 ⟨congrArg (fun z => some (Value.int z)) (by simp [cutV, s4_0, s4_1]), rfl⟩
def hasV (sz fr n : Int32) : Bool := !decide (fr < 0) && !decide (n < 0) && !decide (sz < n) && !decide (sz - n < fr)
set_option maxRecDepth 20000 in
theorem k_X4_has (t : Nat) (ht : t < 4) (fr n : Int32) (M : Mem) : CC l sk D cy A X mX4_has 0 [.ref (A (43 + 2 * t)), .int fr, .int n] M (rI (bI (hasV (M (7 + t) 1) fr n)) M) := by
  refine Con.of (lo := [some (.ref (A (43 + 2 * t))), some (.int fr), some (.int n)]) cf_X4_has (fun _ _ => wl_fst) 0 rfl (Nat.le_of_ble_eq_true rfl) (fun Pp Ee Ss Mm Aa Bb Me Cc A0 B hr hlk => ?_)
  have B : BS sk D cy (wl A cy 51 TC X) A0 Pp Ss Mm Aa Cc RX4 cX4_has 3 := B
  refine a_iload_n B dX4_has_0 rfl ?_
  refine a_if_lt 30 B dX4_has_1 (by decide) (fun c1 => ?_) (fun c1 => ?_)
  · refine a_iconst (v := 0) B dX4_has_30 (by decide) ?_
    exact a_zret B hr hlk (rfl) dX4_has_31 ⟨congrArg (fun z => some (Value.int z)) (by simp [hasV, bI, c1]), rfl⟩
  refine a_iload_n B dX4_has_4 rfl ?_
  refine a_if_lt 30 B dX4_has_5 (by decide) (fun c5 => ?_) (fun c5 => ?_)
  · refine a_iconst (v := 0) B dX4_has_30 (by decide) ?_
    exact a_zret B hr hlk (rfl) dX4_has_31 ⟨congrArg (fun z => some (Value.int z)) (by simp [hasV, bI, c1, c5]), rfl⟩
  refine a_iload_n B dX4_has_8 rfl ?_
  refine a_aload_n B dX4_has_9 rfl ?_
  refine a_getI B fl_X4_15 (by omega) (tcT t ht) rfl dX4_has_10 ?_
  refine a_icmp_gt 30 B dX4_has_13 (by decide) (fun c13 => ?_) (fun c13 => ?_)
  · refine a_iconst (v := 0) B dX4_has_30 (by decide) ?_
    exact a_zret B hr hlk (rfl) dX4_has_31 ⟨congrArg (fun z => some (Value.int z)) (by simp [hasV, bI, c1, c5, c13]), rfl⟩
  refine a_iload_n B dX4_has_16 rfl ?_
  refine a_aload_n B dX4_has_17 rfl ?_
  refine a_getI B fl_X4_15 (by omega) (tcT t ht) rfl dX4_has_18 ?_
  refine a_iload_n B dX4_has_21 rfl ?_
  refine a_isub B dX4_has_22 ?_
  refine a_icmp_gt 30 B dX4_has_23 (by decide) (fun c23 => ?_) (fun c23 => ?_)
  · refine a_iconst (v := 0) B dX4_has_30 (by decide) ?_
    exact a_zret B hr hlk (rfl) dX4_has_31 ⟨congrArg (fun z => some (Value.int z)) (by simp [hasV, bI, c1, c5, c13, c23]), rfl⟩
  refine a_iconst (v := 1) B dX4_has_26 (by decide) ?_
  refine a_goto 31 B dX4_has_27 (by decide) ?_
  exact a_zret B hr hlk (rfl) dX4_has_31 ⟨congrArg (fun z => some (Value.int z)) (by simp [hasV, bI, c1, c5, c13, c23]), rfl⟩
def putM (M : Mem) (t : Nat) (j v : Int32) : Mem := if j < 0 ∨ M (7 + t) 1 ≤ j then M else stB M (7 + t) (upd (M (7 + t)) (2 + j.toNatClampNeg) (cutV (M (7 + t) 0) v))
set_option maxRecDepth 20000 in
theorem k_X4_put (t : Nat) (ht : t < 4) (j v : Int32) (M : Mem) (hz : szOk M t) : CC l sk D cy A X mX4_put 1 [.ref (A (43 + 2 * t)), .int j, .int v] M (rI (bI (!decide (j < 0) && !decide (M (7 + t) 1 ≤ j))) (putM M t j v)) := by
  refine Con.of (lo := [some (.ref (A (43 + 2 * t))), some (.int j), some (.int v)]) cf_X4_put (fun _ _ => wl_fst) 0 rfl (Nat.le_of_ble_eq_true rfl) (fun Pp Ee Ss Mm Aa Bb Me Cc A0 B hr hlk => ?_)
  have B : BS sk D cy (wl A cy 51 TC X) A0 Pp Ss Mm Aa Cc RX4 cX4_put 3 := B
  obtain ⟨hz1, hz2⟩ := hz.e
  refine a_iload_n B dX4_put_0 rfl ?_
  refine a_if_lt 12 B dX4_put_1 (by decide) (fun c1 => ?_) (fun c1 => ?_)
  · refine a_iconst (v := 0) B dX4_put_12 (by decide) ?_
    exact a_zret B hr hlk rfl dX4_put_13 ⟨by rw [decide_eq_true c1]; rfl, by unfold putM; rw [if_pos (Or.inl c1)]⟩
  refine a_iload_n B dX4_put_4 rfl ?_
  refine a_aload_n B dX4_put_5 rfl ?_
  refine a_getI B fl_X4_15 (by omega) (tcT t ht) rfl dX4_put_6 ?_
  refine a_icmp_lt 14 B dX4_put_9 (by decide) (fun c9 => ?_) (fun c9 => ?_)
  · refine a_aload_n B dX4_put_14 rfl ?_
    refine a_getR B fl_X4_18 (by omega) (tcT t ht) rfl dX4_put_15 ?_
    refine a_iload_n B dX4_put_18 rfl ?_
    refine a_aload_n B dX4_put_19 rfl ?_
    refine a_iload_n B dX4_put_20 rfl ?_
    refine a_callV1r B rfl cf_X4_cut lk_X4_31 in_X4_cut se_X4_cut (wl_rc (p0 := 43 + 2 * t) (by omega) (tcT t ht) rfl rfl) (k_X4_cut t ht _ _) dX4_put_21 (Nat.le_of_ble_eq_true rfl) ⟨Nat.le_of_ble_eq_true rfl, Nat.le_of_ble_eq_true rfl⟩ ⟨rfl, rfl⟩ ?_
    obtain ⟨jn, hj1, hj2⟩ := nI_of c1
    have hj3 : jn < szN M t := by rw [hj2, hz2] at c9; exact (nI_ltI (by omega) (by omega)).mp c9
    refine a_iast jn B twC (by omega) (tcN t ht) hj2 (by omega) (by decide) dX4_put_24 ?_
    refine a_iconst (v := 1) B dX4_put_25 (by decide) ?_
    exact a_zret B hr hlk rfl dX4_put_26 ⟨by rw [decide_eq_false c1, decide_eq_false (Int32.not_le.mpr c9)]; rfl, by unfold putM; rw [if_neg (fun q => q.elim c1 (Int32.not_le.mpr c9)), hj2, nI_clamp hj1]; exact upB_st⟩
  refine a_iconst (v := 0) B dX4_put_12 (by decide) ?_
  exact a_zret B hr hlk rfl dX4_put_13 ⟨by rw [decide_eq_true (Int32.not_lt.mp c9), Bool.not_true, Bool.and_false]; rfl, by unfold putM; rw [if_pos (Or.inr (Int32.not_lt.mp c9))]⟩

def begN (b n : Int32) : Int32 := if b = 0 then 0 else mnI (mxI n 0) 40
def begS (q : Dm) (b n : Int32) (k : Nat) : Dm := fun j => if 2 ≤ j ∧ j < 2 + k then 0 else if j = 0 then b else if j = 1 then begN b n else q j
theorem begS_s (q : Dm) (b n : Int32) (k : Nat) : upd (begS q b n k) (2 + k) 0 = begS q b n (k + 1) := by
  funext j
  unfold upd begS
  by_cases h : j = 2 + k
  · rw [if_pos h, if_pos (by omega)]
  · rw [if_neg h]
    by_cases h2 : 2 ≤ j ∧ j < 2 + k
    · rw [if_pos h2, if_pos (by omega)]
    · rw [if_neg h2, if_neg (show ¬ (2 ≤ j ∧ j < 2 + (k + 1)) by omega)]
theorem begS_0 (q : Dm) (b n : Int32) : upd (upd q 0 b) 1 (begN b n) = begS q b n 0 := by
  funext j
  unfold upd begS
  rw [if_neg (show ¬ (2 ≤ j ∧ j < 2 + 0) by omega)]
  by_cases h : j = 1
  · rw [if_pos h, if_neg (by omega), if_pos h]
  · rw [if_neg h]
    by_cases h0 : j = 0
    · rw [if_pos h0, if_pos h0]
    · rw [if_neg h0, if_neg h0, if_neg h]

set_option maxRecDepth 20000 in
set_option maxHeartbeats 4000000 in
theorem k_X4_begin (t : Nat) (ht : t < 4) (b n1 : Int32) (M : Mem) : CC l sk D cy A X mX4_begin 1 [.ref (A (43 + 2 * t)), .int b, .int n1] M (rV (stB M (7 + t) (begS (M (7 + t)) b n1 40))) := by
  refine Con.of (lo := [some (.ref (A (43 + 2 * t))), some (.int b), some (.int n1), none]) cf_X4_begin (fun _ _ => wl_fst) 1 rfl (Nat.le_of_ble_eq_true rfl) (fun Pp Ee Ss Mm Aa Bb Me Cc A0 B hr hlk => ?_)
  have B : BS sk D cy (wl A cy 51 TC X) A0 Pp Ss Mm Aa Cc RX4 cX4_begin 4 := B
  have loop : ∀ n k, 40 + 1 ≤ k + n → k ≤ 40 → AW Pp l Ee (rmK 1 (34 * 1)) Ss Mm Aa Bb Me Cc D (wl A cy 51 TC X) A0 4 0 0 (MQ Bb (QG D (wl A cy 51 TC X) A0 (rV (stB M (7 + t) (begS (M (7 + t)) b n1 40)))) Aa Ss 0 0 A0) 29 [some (.ref (A (43 + 2 * t))), some (.int b), some (.int n1), some (.int (nI k))] [] (stB M (7 + t) (begS (M (7 + t)) b n1 k)) := by
    intro n
    induction n with
    | zero => intro k h1 h2; omega
    | succ n ih =>
      intro k h1 h2 
      refine a_iload_n B dX4_begin_29 rfl ?_
      refine a_bipush (v := 40) B dX4_begin_30 (by decide) ?_
      refine a_icmp_ge 48 B dX4_begin_32 (by decide) (fun c32 => ?_) (fun c32 => ?_)
      · have e1 : k = 40 := by have := ge_n (b := 40) c32 rfl rfl (by omega) (by omega); omega
        subst e1
        exact a_vret B hr hlk dX4_begin_48 ⟨rfl, rfl⟩
      have hlt0 := lt_n (b := 40) c32 rfl rfl (by omega) (by omega)
      refine a_aload_n B dX4_begin_35 rfl ?_
      refine a_getR B fl_X4_18 (by omega) (tcT t ht) rfl dX4_begin_36 ?_
      refine a_iload_n B dX4_begin_39 rfl ?_
      refine a_iconst (v := 0) B dX4_begin_40 (by decide) ?_
      refine a_iast k B twC (by omega) (tcN t ht) rfl (by omega) (by decide) dX4_begin_41 ?_
      refine p_iinc3 1 B dX4_begin_42 (by decide) (by decide) (k := ?_)
      refine a_goto 29 B dX4_begin_45 (by decide) ?_
      rw [nI_1]
      rw [upB_stB, begS_s]
      exact ih (k + 1) (by omega) (by omega)
  refine a_aload_n B dX4_begin_0 rfl ?_
  refine a_iload_n B dX4_begin_1 rfl ?_
  refine a_putI B twC fl_X4_9 fp_4_0 (by omega) (tcT t ht) rfl dX4_begin_2 ?_
  refine a_aload_n B dX4_begin_5 rfl ?_
  refine a_iload_n B dX4_begin_6 rfl ?_
  refine a_if_ne 14 B dX4_begin_7 (by decide) (fun c7 => ?_) (fun c7 => ?_)
  · refine a_iload_n B dX4_begin_14 rfl ?_
    refine a_iconst (v := 0) B dX4_begin_15 (by decide) ?_
    refine a_mmax B lk_X4_22 dX4_begin_16 (by rfl) (by rfl) ⟨by decide, trivial⟩ ⟨rfl, rfl⟩ ?_
    refine a_bipush (v := 40) B dX4_begin_19 (by decide) ?_
    refine a_mmin B lk_X4_28 dX4_begin_21 (by rfl) (by rfl) ⟨by decide, trivial⟩ ⟨rfl, rfl⟩ ?_
    refine a_putI B twC fl_X4_15 fp_4_1 (by omega) (tcT t ht) rfl dX4_begin_24 ?_
    refine a_iconst (v := 0) B dX4_begin_27 (by decide) ?_
    refine p_istore3 B dX4_begin_28 (by decide) (k := ?_)
    refine a_mem ?_ (loop 41 0 (by omega) (by omega))
    rw [upB_st (M := M), upB_stB, ← begS_0]
    unfold begN
    rw [if_neg c7]
  refine a_iconst (v := 0) B dX4_begin_10 (by decide) ?_
  refine a_goto 24 B dX4_begin_11 (by decide) ?_
  refine a_putI B twC fl_X4_15 fp_4_1 (by omega) (tcT t ht) rfl dX4_begin_24 ?_
  refine a_iconst (v := 0) B dX4_begin_27 (by decide) ?_
  refine p_istore3 B dX4_begin_28 (by decide) (k := ?_)
  refine a_mem ?_ (loop 41 0 (by omega) (by omega))
  rw [upB_st (M := M), upB_stB, ← begS_0]
  unfold begN
  rw [if_pos c7]
set_option maxRecDepth 20000 in
theorem k_X6_wrongSheet (t : Nat) (ht : t < 4) (M : Mem) : CC l sk D cy A X mX6_wrongSheet 1 [.ref (A (43 + 2 * t))] M (rI (if M (7 + t) 0 = 0 then fnd 5 else 0) M) := by
  refine Con.of (lo := [some (.ref (A (43 + 2 * t)))]) cf_X6_wrongSheet (fun _ _ => wl_fst) 0 rfl (Nat.le_of_ble_eq_true rfl) (fun Pp Ee Ss Mm Aa Bb Me Cc A0 B hr hlk => ?_)
  have B : BS sk D cy (wl A cy 51 TC X) A0 Pp Ss Mm Aa Cc RX6 cX6_wrongSheet 1 := B
  refine a_aload_n B dX6_wrongSheet_0 rfl ?_
  refine a_ifnonnull 7 B dX6_wrongSheet_1 (by decide) ?_
  refine a_aload_n B dX6_wrongSheet_7 rfl ?_
  refine a_callV0r B rfl cf_X4_isMissing lk_X6_286 in_X4_isMissing se_X4_isMissing (wl_rc (p0 := 43 + 2 * t) (by omega) (tcT t ht) rfl rfl) (k_X4_isMissing t ht _) dX6_wrongSheet_8 (Nat.le_of_ble_eq_true rfl) ⟨Nat.le_of_ble_eq_true rfl, Nat.le_of_ble_eq_true rfl⟩ ⟨rfl, rfl⟩ ?_
  refine a_if_eq 20 B dX6_wrongSheet_11 (by decide) (fun c11 => ?_) (fun c11 => ?_)
  · refine a_iconst (v := 0) B dX6_wrongSheet_20 (by decide) ?_
    exact a_iret B hr hlk dX6_wrongSheet_21 ⟨by rw [if_neg (of_decide_eq_false (bI_eq0.mp c11))], rfl⟩
  refine a_ldcw B dX6_wrongSheet_14 kc_X6_265 ?_
  refine a_goto 21 B dX6_wrongSheet_17 (by decide) ?_
  exact a_iret B hr hlk dX6_wrongSheet_21 ⟨by rw [if_pos (of_decide_eq_true (by cases hb : decide (M (7 + t) 0 = 0) with | true => rfl | false => exact absurd (by rw [hb]; rfl) c11))]; rfl, rfl⟩
set_option maxRecDepth 20000 in
theorem k_X6_wrongSheetN (M : Mem) : CC l sk D cy A X mX6_wrongSheet 1 [.null] M (rI (fnd 0) M) := by
  refine Con.of (lo := [some (.null)]) cf_X6_wrongSheet (fun _ _ => wl_fst) 0 rfl (Nat.le_of_ble_eq_true rfl) (fun Pp Ee Ss Mm Aa Bb Me Cc A0 B hr hlk => ?_)
  have B : BS sk D cy (wl A cy 51 TC X) A0 Pp Ss Mm Aa Cc RX6 cX6_wrongSheet 1 := B
  refine a_aload_nN B dX6_wrongSheet_0 rfl ?_
  refine a_ifnonnullN B dX6_wrongSheet_1 ?_
  refine a_ldc B dX6_wrongSheet_4 kc_X6_59 ?_
  exact a_iret B hr hlk dX6_wrongSheet_6 ⟨congrArg (fun z => some (Value.int z)) (rfl), rfl⟩
set_option maxRecDepth 20000 in
theorem k_X6_wrongFulness (t : Nat) (ht : t < 4) (v : Int32) (M : Mem) (hI0 : Inv (M 0)) : CC l sk D cy A X mX6_wrongFulness 2 [.ref (A 0), .ref (A (43 + 2 * t)), .int v] M (rI (if M (7 + t) 0 = 0 then fnd 5 else if isP (M 0) v = true then 0 else fnd 0) M) := by
  refine Con.of (lo := [some (.ref (A 0)), some (.ref (A (43 + 2 * t))), some (.int v), none]) cf_X6_wrongFulness (fun _ _ => wl_fst) 1 rfl (Nat.le_of_ble_eq_true rfl) (fun Pp Ee Ss Mm Aa Bb Me Cc A0 B hr hlk => ?_)
  have B : BS sk D cy (wl A cy 51 TC X) A0 Pp Ss Mm Aa Cc RX6 cX6_wrongFulness 4 := B
  refine a_aload_n B dX6_wrongFulness_0 rfl ?_
  refine a_callS1r B rfl cf_X6_wrongSheet lk_X6_280 st_X6_wrongSheet (k_X6_wrongSheet t ht _) dX6_wrongFulness_1 (Nat.le_of_ble_eq_true rfl) ⟨Nat.le_of_ble_eq_true rfl, Nat.le_of_ble_eq_true rfl⟩ ⟨rfl, rfl⟩ ?_
  refine p_istore3 B dX6_wrongFulness_4 (by decide) (k := ?_)
  refine a_iload_n B dX6_wrongFulness_5 rfl ?_
  refine a_if_eq 11 B dX6_wrongFulness_6 (by decide) (fun c6 => ?_) (fun c6 => ?_)
  · refine a_aload_n B dX6_wrongFulness_11 rfl ?_
    refine a_getR B fl_X6_12 (by decide) rfl rfl dX6_wrongFulness_12 ?_
    refine a_iload_n B dX6_wrongFulness_15 rfl ?_
    rcases at_cases hI0 v with ⟨q, hqn, hq8, hvq, hip, hlt⟩ | ⟨hn, hip⟩
    · subst hvq
      refine a_callV1r B rfl cf_X0_at lk_X6_81 in_X0_at se_X0_at (wl_rc (p0 := 1) (by decide) rfl rfl rfl) (k_X0_at 0 q (by decide) hq8 _ hlt) dX6_wrongFulness_16 (Nat.le_of_ble_eq_true rfl) ⟨Nat.le_of_ble_eq_true rfl, Nat.le_of_ble_eq_true rfl⟩ ⟨rfl, rfl⟩ ?_
      refine a_ifnonnull 27 B dX6_wrongFulness_19 (by decide) ?_
      refine a_iconst (v := 0) B dX6_wrongFulness_27 (by decide) ?_
      exact a_iret B hr hlk dX6_wrongFulness_28 ⟨if h0 : M (7 + t) 0 = 0 then by rw [if_pos h0] at c6; exact absurd c6 (by decide) else by rw [if_neg h0, hip]; rfl, rfl⟩
    · refine a_callV1r B rfl cf_X0_at lk_X6_81 in_X0_at se_X0_at (wl_rc (p0 := 1) (by decide) rfl rfl rfl) (k_X0_atN 0 (by decide) _ _ hn) dX6_wrongFulness_16 (Nat.le_of_ble_eq_true rfl) ⟨Nat.le_of_ble_eq_true rfl, Nat.le_of_ble_eq_true rfl⟩ ⟨rfl, rfl⟩ ?_
      refine a_ifnonnullN B dX6_wrongFulness_19 ?_
      refine a_ldc B dX6_wrongFulness_22 kc_X6_59 ?_
      refine a_goto 28 B dX6_wrongFulness_24 (by decide) ?_
      exact a_iret B hr hlk dX6_wrongFulness_28 ⟨if h0 : M (7 + t) 0 = 0 then by rw [if_pos h0] at c6; exact absurd c6 (by decide) else by rw [if_neg h0, hip]; rfl, rfl⟩
  refine a_iload_n B dX6_wrongFulness_9 rfl ?_
  exact a_iret B hr hlk dX6_wrongFulness_10 ⟨if h0 : M (7 + t) 0 = 0 then by rw [if_pos h0, if_pos h0] else by rw [if_neg h0] at c6; exact absurd rfl c6, rfl⟩
set_option maxRecDepth 20000 in
theorem k_X6_wrongFulnessN (v : Int32) (M : Mem) : CC l sk D cy A X mX6_wrongFulness 2 [.ref (A 0), .null, .int v] M (rI (fnd 0) M) := by
  refine Con.of (lo := [some (.ref (A 0)), some (.null), some (.int v), none]) cf_X6_wrongFulness (fun _ _ => wl_fst) 1 rfl (Nat.le_of_ble_eq_true rfl) (fun Pp Ee Ss Mm Aa Bb Me Cc A0 B hr hlk => ?_)
  have B : BS sk D cy (wl A cy 51 TC X) A0 Pp Ss Mm Aa Cc RX6 cX6_wrongFulness 4 := B
  refine a_aload_nN B dX6_wrongFulness_0 rfl ?_
  refine a_callS1r B rfl cf_X6_wrongSheet lk_X6_280 st_X6_wrongSheet (k_X6_wrongSheetN _) dX6_wrongFulness_1 (Nat.le_of_ble_eq_true rfl) ⟨Nat.le_of_ble_eq_true rfl, Nat.le_of_ble_eq_true rfl⟩ ⟨rfl, rfl⟩ ?_
  refine p_istore3 B dX6_wrongFulness_4 (by decide) (k := ?_)
  refine a_iload_n B dX6_wrongFulness_5 rfl ?_
  refine a_if_eq 11 B dX6_wrongFulness_6 (by decide) (fun c6 => ?_) (fun c6 => ?_)
  · exact absurd c6 (by decide)
  refine a_iload_n B dX6_wrongFulness_9 rfl ?_
  exact a_iret B hr hlk dX6_wrongFulness_10 ⟨congrArg (fun z => some (Value.int z)) (rfl), rfl⟩
end C8
