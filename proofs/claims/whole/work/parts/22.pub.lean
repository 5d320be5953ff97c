
section C9
theorem bI_ne0 {b : Bool} : ¬ bI b = 0 ↔ b = true := by cases b <;> decide
def nn (v : Int32) : Nat := v.toNatClampNeg
theorem nn_nI {q : Nat} (h : q < 2 ^ 31) : nn (nI q) = q := nI_clamp h
theorem wi_T {v : Int32} {t : Nat} (h : wi v (nI t) = true) (ht : t < 2 ^ 31) : ∃ q, q ≤ t ∧ v = nI q := by
  rcases wi_cases v ht with ⟨q, h1, h2, -⟩ | h2
  · exact ⟨q, h1, h2⟩
  · rw [h2] at h; cases h
def nS (o : Option Nat) : Oc := match o with
  | none => .inr 3
  | some k => .inl (nI k)
theorem rQ_on {x : Oc} {o : Option Nat} {M : Mem} {d' : Dm} (hx : x = nS o) (ho : ∀ k, o = some k → k < 2 ^ 31) (hd : Inv d') : rQ x M M (some (.int (if oI o < 0 then fnd 3 else oI o))) (if oI o < 0 then tellB (stB M 2 d') 3 else stB M 2 d') := by
  subst hx
  cases o with
  | none =>
    rw [if_pos (show oI none < 0 by decide), if_pos (show oI none < 0 by decide)]
    exact rQr rfl rfl hd tell_2
  | some k =>
    have h1 : ¬ oI (some k) < 0 := nI_pos (ho k rfl)
    rw [if_neg h1, if_neg h1]
    exact rQl rfl hd rfl
theorem rQ_on0 {x : Oc} {o : Option Nat} {M : Mem} (hx : x = nS o) (ho : ∀ k, o = some k → k < 2 ^ 31) (hd : Inv (M 2)) : rQ x M M (some (.int (if oI o < 0 then fnd 3 else oI o))) (if oI o < 0 then tellB M 3 else M) := by
  have h := rQ_on (M := M) (d' := M 2) hx ho hd
  rw [stB_id] at h
  exact h
theorem fst_lt {P : Nat → Bool} : ∀ n k, fstN P n = some k → k < n := by
  intro n
  induction n with
  | zero => intro k h; simp [fstN] at h
  | succ n ih =>
    intro k h
    rw [fstN] at h
    cases hb : fstN P n with
    | none => rw [hb] at h; simp only at h; split at h <;> simp at h; omega
    | some c => rw [hb] at h; simp at h; have := ih c hb; omega
theorem fst2_lt {Q : Nat → Nat → Bool} {w : Nat} : ∀ n k, fst2 Q w n = some k → k < w := by
  intro n
  induction n with
  | zero => intro k h; simp [fst2] at h
  | succ n ih =>
    intro k h
    rw [fst2] at h
    cases hb : fst2 Q w n with
    | none => rw [hb] at h; exact fst_lt _ _ h
    | some c => rw [hb] at h; simp at h; have := ih c hb; omega
theorem ic_parts {cf : Int32} (h : icB cf = true) : ∃ n, n ≤ 740 ∧ n % 100 ≤ 40 ∧ cf = nI n := by
  unfold icB at h
  simp only [Bool.and_eq_true, Bool.not_eq_true', decide_eq_false_iff_not] at h
  obtain ⟨⟨h1, h2⟩, h3⟩ := h
  obtain ⟨n, hn1, hn2⟩ := nI_of h1
  subst hn2
  rw [show nI n / 100 = nI (n / 100) from pk_div (d := 100) hn1 (by omega) (by omega)] at h2
  rw [show rmI (nI n) 100 = nI (n % 100) from rm_nI (d := 100) hn1 (by omega) (by omega)] at h3
  have h4 : n / 100 < 8 := Nat.lt_of_not_le (fun q => h2 (nI_le (a := 8) q (by omega)))
  have h5 : n % 100 ≤ 40 := Nat.le_of_not_lt (fun q => h3 (nI_lt (a := 40) q (by omega)))
  exact ⟨n, by omega, h5, rfl⟩
theorem sw_ok {d : Dm} (hI : Inv d) {cf : Int32} (h : icB cf = true) : hld (rmI cf 100 - d 3) 0 40 = mxI (rmI cf 100 - d 3) 0 := by
  obtain ⟨n, h1, h2, h3⟩ := ic_parts h
  obtain ⟨e1, e2⟩ := cf_parts h3 h1
  obtain ⟨b, hb, eb⟩ := hI.wa
  exact wa_nn e2 eb h2 hb
def lsdX (d : Dm) (i : Int32) : Oc := if wi i 5 then .inl (d (6 + nn i)) else .inr 0
def ofX (d : Dm) (p what : Int32) : Oc := if isP d p && wi what 9 then .inl (tellV d (nn p) what) else .inr 0
def sweX (d : Dm) (p cf : Int32) : Oc := if isP d p && icB cf then .inl (swellF d (nn p) (cf / 100) (rmI cf 100)) else .inr 0
def goeX (d : Dm) (sin : Int32) : Oc := if wi sin 7 then nS (bestF d (takB d sin) (nOf d)) else .inr 0
def nowX (d : Dm) (what : Int32) : Oc := if what = 0 then .inl (d 1) else if what = 1 then .inl (d 4) else if what = 2 then .inl (d 5) else if what = 3 then .inl (togT d 3 (nOf d)) else if what = 4 then .inl (sumT d 1 (nOf d)) else if what = 5 then .inl (oI (fullO d (nOf d))) else if what = 6 then .inl (sumT d 5 (nOf d)) else if what = 7 then .inl (255 &&& (togT d 2 (nOf d) ^^^ (-1))) else .inr 0
def chB (what : Int32) : Bool := decide (what = 1) || decide (what = 3) || decide (what = 4) || decide (what = 5) || decide (what = 6)
def aheX (d : Dm) (p what n : Int32) : Oc := if isP d p && chB what && wi n 100 then .inl (tellV (daysF d (nn n)) (nn p) what) else .inr 0
def illX (d : Dm) (p : Int32) : Oc := if isP d p then nS (fstN (illQ d (nn p)) 201) else .inr 0
def outX (d : Dm) (sin : Int32) : Oc := if wi sin 7 then nS (fstN (outQ d sin) 201) else .inr 0
def wisX (d : Dm) (p v : Int32) : Oc := if isP d p && wi v 8 then nS (fstN (wisQ d (nn p) v) 201) else .inr 0
def whnX (d : Dm) (p v : Int32) : Oc := if isP d p && wi v 999 then nS (fstN (whnQ d (nn p) v) 201) else .inr 0
def wS (o : Option Nat) : Oc := match o with
  | none => .inr 3
  | some k => .inl (nI (40 - k))
def worX (d : Dm) (i n : Int32) : Oc := if wi i 5 && wi n 60 then wS (fstN (worQ d (nn i) (nn n)) 41) else .inr 0
def watX (d : Dm) (n : Int32) : Oc := if wi n 60 then nS (fstN (watQ d (nn n)) 10) else .inr 0
def spaX (d : Dm) (p n : Int32) : Oc := if isP d p && wi n 60 then .inl (amin (spaV d (nn p) (nn n)) 1000 8).1 else .inr 0
def kinX (d : Dm) (p n : Int32) : Oc := if isP d p && wi n 60 then .inl (amin (kinV d (nn p) (nn n)) 79993 7).1 else .inr 0
def fasX (d : Dm) (n : Int32) : Oc := if wi n 20 then nS (fasO d (nn n)) else .inr 0
def covX (d : Dm) (sins : Int32) : Oc := if wi sins 255 then nS (fewO d sins) else .inr 0

variable {l : Launch} {sk : (Nat → Nat) × (Nat → Nat)} {D : va_G} {cy : Nat → ClassId} {A : Nat → Nat} {X : va_W}
set_option maxRecDepth 20000 in
theorem k_X6_changesByDays (what : Int32) (M : Mem) : CC l sk D cy A X mX6_changesByDays 0 [.int what] M (rI (bI (chB what)) M) := by
  refine Con.of (lo := [some (.int what)]) cf_X6_changesByDays (fun _ _ => wl_fst) 0 rfl (Nat.le_of_ble_eq_true rfl) (fun Pp Ee Ss Mm Aa Bb Me Cc A0 B hr hlk => ?_)
  have B : BS sk D cy (wl A cy 51 TC X) A0 Pp Ss Mm Aa Cc RX6 cX6_changesByDays 1 := B
  refine a_iload_n B dX6_changesByDays_0 rfl ?_
  refine a_iconst (v := 1) B dX6_changesByDays_1 (by decide) ?_
  refine a_icmp_eq 26 B dX6_changesByDays_2 (by decide) (fun c2 => ?_) (fun c2 => ?_)
  · refine a_iconst (v := 1) B dX6_changesByDays_26 (by decide) ?_
    refine a_goto 31 B dX6_changesByDays_27 (by decide) ?_
    exact a_zret B hr hlk (rfl) dX6_changesByDays_31 ⟨congrArg (fun z => some (Value.int z)) (by simp [chB, bI, c2]), rfl⟩
  refine a_iload_n B dX6_changesByDays_5 rfl ?_
  refine a_iconst (v := 3) B dX6_changesByDays_6 (by decide) ?_
  refine a_icmp_eq 26 B dX6_changesByDays_7 (by decide) (fun c7 => ?_) (fun c7 => ?_)
  · refine a_iconst (v := 1) B dX6_changesByDays_26 (by decide) ?_
    refine a_goto 31 B dX6_changesByDays_27 (by decide) ?_
    exact a_zret B hr hlk (rfl) dX6_changesByDays_31 ⟨congrArg (fun z => some (Value.int z)) (by simp [chB, bI, c2, c7]), rfl⟩
  refine a_iload_n B dX6_changesByDays_10 rfl ?_
  refine a_iconst (v := 4) B dX6_changesByDays_11 (by decide) ?_
  refine a_icmp_eq 26 B dX6_changesByDays_12 (by decide) (fun c12 => ?_) (fun c12 => ?_)
  · refine a_iconst (v := 1) B dX6_changesByDays_26 (by decide) ?_
    refine a_goto 31 B dX6_changesByDays_27 (by decide) ?_
    exact a_zret B hr hlk (rfl) dX6_changesByDays_31 ⟨congrArg (fun z => some (Value.int z)) (by simp [chB, bI, c2, c7, c12]), rfl⟩
  refine a_iload_n B dX6_changesByDays_15 rfl ?_
  refine a_iconst (v := 5) B dX6_changesByDays_16 (by decide) ?_
  refine a_icmp_eq 26 B dX6_changesByDays_17 (by decide) (fun c17 => ?_) (fun c17 => ?_)
  · refine a_iconst (v := 1) B dX6_changesByDays_26 (by decide) ?_
    refine a_goto 31 B dX6_changesByDays_27 (by decide) ?_
    exact a_zret B hr hlk (rfl) dX6_changesByDays_31 ⟨congrArg (fun z => some (Value.int z)) (by simp [chB, bI, c2, c7, c12, c17]), rfl⟩
  refine a_iload_n B dX6_changesByDays_20 rfl ?_
  refine a_bipush (v := 6) B dX6_changesByDays_21 (by decide) ?_
  refine a_icmp_ne 30 B dX6_changesByDays_23 (by decide) (fun c23 => ?_) (fun c23 => ?_)
  · refine a_iconst (v := 0) B dX6_changesByDays_30 (by decide) ?_
    exact a_zret B hr hlk (rfl) dX6_changesByDays_31 ⟨congrArg (fun z => some (Value.int z)) (by simp [chB, bI, c2, c7, c12, c17, c23]), rfl⟩
  refine a_iconst (v := 1) B dX6_changesByDays_26 (by decide) ?_
  refine a_goto 31 B dX6_changesByDays_27 (by decide) ?_
  exact a_zret B hr hlk (rfl) dX6_changesByDays_31 ⟨congrArg (fun z => some (Value.int z)) (by simp [chB, bI, c2, c7, c12, c17, c23]), rfl⟩
set_option maxRecDepth 20000 in
theorem k_X6_listed (i : Int32) (M : Mem) (hJ : CI M) : CC l sk D cy A X mX6_listed 2 [.ref (A 0), .int i] M (rQ (lsdX (M 0) i) M M) := by
  refine Con.of (lo := [some (.ref (A 0)), some (.int i)]) cf_X6_listed (fun _ _ => wl_fst) 0 rfl (Nat.le_of_ble_eq_true rfl) (fun Pp Ee Ss Mm Aa Bb Me Cc A0 B hr hlk => ?_)
  have B : BS sk D cy (wl A cy 51 TC X) A0 Pp Ss Mm Aa Cc RX6 cX6_listed 2 := B
  obtain ⟨hI0, hI1, hI2, hT, hZ⟩ := hJ
  refine a_iload_n B dX6_listed_0 rfl ?_
  refine a_iconst (v := 5) B dX6_listed_1 (by decide) ?_
  refine a_callS2r B rfl cf_X6_within lk_X6_48 st_X6_within (k_X6_within _ _ _) dX6_listed_2 (Nat.le_of_ble_eq_true rfl) ⟨Nat.le_of_ble_eq_true rfl, Nat.le_of_ble_eq_true rfl⟩ ⟨rfl, rfl⟩ ?_
  refine a_if_eq 20 B dX6_listed_5 (by decide) (fun c5 => ?_) (fun c5 => ?_)
  · have c5 := bI_eq0.mp c5
    refine a_aload_n B dX6_listed_20 rfl ?_
    refine a_ldc B dX6_listed_21 kc_X6_59 ?_
    refine a_callV1r B rfl cf_X6_tell lk_X6_60 in_X6_tell se_X6_tell (wl_rc (p0 := 0) (by decide) rfl rfl rfl) (k_X6_tell 0 (by decide) _ (by decide) _) dX6_listed_23 (Nat.le_of_ble_eq_true rfl) ⟨Nat.le_of_ble_eq_true rfl, Nat.le_of_ble_eq_true rfl⟩ ⟨rfl, rfl⟩ ?_
    exact a_iret B hr hlk dX6_listed_26 (rQr0 (k := 0) (by simp [lsdX, c5]) (by decide) hI2 rfl)
  have c5 := bI_ne0.mp c5
  obtain ⟨q, hqt, hqe⟩ := wi_T (t := 5) c5 (by omega)
  subst hqe
  refine a_aload_n B dX6_listed_8 rfl ?_
  refine a_getR B fl_X6_12 (by decide) rfl rfl dX6_listed_9 ?_
  refine a_getR B fl_X6_68 (by decide) rfl rfl dX6_listed_12 ?_
  refine a_iload_n B dX6_listed_15 rfl ?_
  refine a_iald q B (by decide) rfl rfl (by omega) (by decide) dX6_listed_16 ?_
  refine a_goto 26 B dX6_listed_17 (by decide) ?_
  exact a_iret B hr hlk dX6_listed_26 (rQl0 (by simp [lsdX, nn_nI (show q < 2 ^ 31 by omega), c5]) (hI2) (rfl))
set_option maxRecDepth 20000 in
set_option maxHeartbeats 4000000 in
theorem k_X6_of (v what : Int32) (M : Mem) (hJ : CI M) : CC l sk D cy A X mX6_of 3 [.ref (A 0), .int v, .int what] M (rQ (ofX (M 0) v what) (M) M) := by
  refine Con.of (lo := [some (.ref (A 0)), some (.int v), some (.int what), none]) cf_X6_of (fun _ _ => wl_fst) 1 rfl (Nat.le_of_ble_eq_true rfl) (fun Pp Ee Ss Mm Aa Bb Me Cc A0 B hr hlk => ?_)
  have B : BS sk D cy (wl A cy 51 TC X) A0 Pp Ss Mm Aa Cc RX6 cX6_of 4 := B
  obtain ⟨hI0, hI1, hI2, hT, hZ⟩ := hJ
  rcases at_cases hI0 v with ⟨q, hqn, hq8, hvq, hip, hlt⟩ | ⟨hn, hip⟩
  · subst hvq
    refine a_aload_n B dX6_of_0 rfl ?_
    refine a_getR B fl_X6_12 (by decide) rfl rfl dX6_of_1 ?_
    refine a_iload_n B dX6_of_4 rfl ?_
    refine a_callV1r B rfl cf_X0_at lk_X6_81 in_X0_at se_X0_at (wl_rc (p0 := 1) (by decide) rfl rfl rfl) (k_X0_at 0 q (by decide) hq8 _ hlt) dX6_of_5 (Nat.le_of_ble_eq_true rfl) ⟨Nat.le_of_ble_eq_true rfl, Nat.le_of_ble_eq_true rfl⟩ ⟨rfl, rfl⟩ ?_
    refine p_astore3 B dX6_of_8 (by decide) (k := ?_)
    refine a_aload_n B dX6_of_9 rfl ?_
    refine a_ifnull B dX6_of_10 ?_
    refine a_iload_n B dX6_of_13 rfl ?_
    refine a_bipush (v := 9) B dX6_of_14 (by decide) ?_
    refine a_callS2r B rfl cf_X6_within lk_X6_48 st_X6_within (k_X6_within _ _ _) dX6_of_16 (Nat.le_of_ble_eq_true rfl) ⟨Nat.le_of_ble_eq_true rfl, Nat.le_of_ble_eq_true rfl⟩ ⟨rfl, rfl⟩ ?_
    refine a_if_eq 34 B dX6_of_19 (by decide) (fun c19 => ?_) (fun c19 => ?_)
    · have c19 := bI_eq0.mp c19
      refine a_aload_n B dX6_of_34 rfl ?_
      refine a_ldc B dX6_of_35 kc_X6_59 ?_
      refine a_callV1r B rfl cf_X6_tell lk_X6_60 in_X6_tell se_X6_tell (wl_rc (p0 := 0) (by decide) rfl rfl rfl) (k_X6_tell 0 (by decide) _ (by decide) _) dX6_of_37 (Nat.le_of_ble_eq_true rfl) ⟨Nat.le_of_ble_eq_true rfl, Nat.le_of_ble_eq_true rfl⟩ ⟨rfl, rfl⟩ ?_
      exact a_iret B hr hlk dX6_of_40 (rQr0 (k := 0) (by simp [ofX, hip, c19]) (by decide) hI2 rfl)
    have c19 := bI_ne0.mp c19
    refine a_aload_n B dX6_of_22 rfl ?_
    refine a_getR B fl_X6_12 (by decide) rfl rfl dX6_of_23 ?_
    refine a_aload_n B dX6_of_26 rfl ?_
    refine a_iload_n B dX6_of_27 rfl ?_
    refine a_callV2r B rfl cf_X0_tellOf lk_X6_85 in_X0_tellOf se_X0_tellOf (wl_rc (p0 := 1) (by decide) rfl rfl rfl) (k_X0_tellOf 0 q (by decide) hq8 _ _ hI0) dX6_of_28 (Nat.le_of_ble_eq_true rfl) ⟨Nat.le_of_ble_eq_true rfl, Nat.le_of_ble_eq_true rfl⟩ ⟨rfl, rfl⟩ ?_
    refine a_goto 40 B dX6_of_31 (by decide) ?_
    exact a_iret B hr hlk dX6_of_40 (rQl0 (by simp [ofX, hip, nn_nI (show q < 2 ^ 31 by omega), c19]) (hI2) (rfl))
  · refine a_aload_n B dX6_of_0 rfl ?_
    refine a_getR B fl_X6_12 (by decide) rfl rfl dX6_of_1 ?_
    refine a_iload_n B dX6_of_4 rfl ?_
    refine a_callV1r B rfl cf_X0_at lk_X6_81 in_X0_at se_X0_at (wl_rc (p0 := 1) (by decide) rfl rfl rfl) (k_X0_atN 0 (by decide) _ _ hn) dX6_of_5 (Nat.le_of_ble_eq_true rfl) ⟨Nat.le_of_ble_eq_true rfl, Nat.le_of_ble_eq_true rfl⟩ ⟨rfl, rfl⟩ ?_
    refine p_astoreN3 B dX6_of_8 (by decide) (k := ?_)
    refine a_aload_nN B dX6_of_9 rfl ?_
    refine a_ifnullN 34 B dX6_of_10 (by decide) ?_
    refine a_aload_n B dX6_of_34 rfl ?_
    refine a_ldc B dX6_of_35 kc_X6_59 ?_
    refine a_callV1r B rfl cf_X6_tell lk_X6_60 in_X6_tell se_X6_tell (wl_rc (p0 := 0) (by decide) rfl rfl rfl) (k_X6_tell 0 (by decide) _ (by decide) _) dX6_of_37 (Nat.le_of_ble_eq_true rfl) ⟨Nat.le_of_ble_eq_true rfl, Nat.le_of_ble_eq_true rfl⟩ ⟨rfl, rfl⟩ ?_
    exact a_iret B hr hlk dX6_of_40 (rQr0 (k := 0) (by simp [ofX, hip]) (by decide) hI2 rfl)
set_option maxRecDepth 20000 in
set_option maxHeartbeats 4000000 in
theorem k_X6_swells (v cf : Int32) (M : Mem) (hJ : CI M) : CC l sk D cy A X mX6_swells 2 [.ref (A 0), .int v, .int cf] M (rQ (sweX (M 0) v cf) (M) M) := by
  refine Con.of (lo := [some (.ref (A 0)), some (.int v), some (.int cf), none]) cf_X6_swells (fun _ _ => wl_fst) 1 rfl (Nat.le_of_ble_eq_true rfl) (fun Pp Ee Ss Mm Aa Bb Me Cc A0 B hr hlk => ?_)
  have B : BS sk D cy (wl A cy 51 TC X) A0 Pp Ss Mm Aa Cc RX6 cX6_swells 4 := B
  obtain ⟨hI0, hI1, hI2, hT, hZ⟩ := hJ
  rcases at_cases hI0 v with ⟨q, hqn, hq8, hvq, hip, hlt⟩ | ⟨hn, hip⟩
  · subst hvq
    refine a_aload_n B dX6_swells_0 rfl ?_
    refine a_getR B fl_X6_12 (by decide) rfl rfl dX6_swells_1 ?_
    refine a_iload_n B dX6_swells_4 rfl ?_
    refine a_callV1r B rfl cf_X0_at lk_X6_81 in_X0_at se_X0_at (wl_rc (p0 := 1) (by decide) rfl rfl rfl) (k_X0_at 0 q (by decide) hq8 _ hlt) dX6_swells_5 (Nat.le_of_ble_eq_true rfl) ⟨Nat.le_of_ble_eq_true rfl, Nat.le_of_ble_eq_true rfl⟩ ⟨rfl, rfl⟩ ?_
    refine p_astore3 B dX6_swells_8 (by decide) (k := ?_)
    refine a_aload_n B dX6_swells_9 rfl ?_
    refine a_ifnull B dX6_swells_10 ?_
    refine a_iload_n B dX6_swells_13 rfl ?_
    refine a_callS1r B rfl cf_X6_isConfession lk_X6_64 st_X6_isConfession (k_X6_isConfession _ _) dX6_swells_14 (Nat.le_of_ble_eq_true rfl) ⟨Nat.le_of_ble_eq_true rfl, Nat.le_of_ble_eq_true rfl⟩ ⟨rfl, rfl⟩ ?_
    refine a_if_ne 27 B dX6_swells_17 (by decide) (fun c17 => ?_) (fun c17 => ?_)
    · have c17 := bI_ne0.mp c17
      refine a_aload_n B dX6_swells_27 rfl ?_
      refine a_iload_n B dX6_swells_28 rfl ?_
      refine a_callS1r B rfl cf_X6_sinOf lk_X6_96 st_X6_sinOf (k_X6_sinOf _ _) dX6_swells_29 (Nat.le_of_ble_eq_true rfl) ⟨Nat.le_of_ble_eq_true rfl, Nat.le_of_ble_eq_true rfl⟩ ⟨rfl, rfl⟩ ?_
      refine a_iload_n B dX6_swells_32 rfl ?_
      refine a_callS1r B rfl cf_X6_wordsOf lk_X6_99 st_X6_wordsOf (k_X6_wordsOf _ _) dX6_swells_33 (Nat.le_of_ble_eq_true rfl) ⟨Nat.le_of_ble_eq_true rfl, Nat.le_of_ble_eq_true rfl⟩ ⟨rfl, rfl⟩ ?_
      refine a_aload_n B dX6_swells_36 rfl ?_
      refine a_getR B fl_X6_12 (by decide) rfl rfl dX6_swells_37 ?_
      refine a_getI B fl_X6_52 (by decide) rfl rfl dX6_swells_40 ?_
      refine a_callV3r B rfl cf_X1_swelling lk_X6_102 in_X1_swelling se_X1_swelling (wl_rc (p0 := 5 + 12 * 0 + q) (by omega) (tcP 0 (by decide) q hq8) rfl rfl) (k_X1_swelling 0 q (by decide) hq8 _ _ _ _ (sw_ok hI0 c17)) dX6_swells_43 (Nat.le_of_ble_eq_true rfl) ⟨Nat.le_of_ble_eq_true rfl, Nat.le_of_ble_eq_true rfl⟩ ⟨rfl, rfl⟩ ?_
      exact a_iret B hr hlk dX6_swells_46 (rQl0 (by simp [sweX, hip, swellF, nn_nI (show q < 2 ^ 31 by omega), c17]) (hI2) (rfl))
    have c17 := bI_eq0.mp c17
    refine a_aload_n B dX6_swells_20 rfl ?_
    refine a_ldc B dX6_swells_21 kc_X6_59 ?_
    refine a_callV1r B rfl cf_X6_tell lk_X6_60 in_X6_tell se_X6_tell (wl_rc (p0 := 0) (by decide) rfl rfl rfl) (k_X6_tell 0 (by decide) _ (by decide) _) dX6_swells_23 (Nat.le_of_ble_eq_true rfl) ⟨Nat.le_of_ble_eq_true rfl, Nat.le_of_ble_eq_true rfl⟩ ⟨rfl, rfl⟩ ?_
    exact a_iret B hr hlk dX6_swells_26 (rQr0 (k := 0) (by simp [sweX, hip, c17]) (by decide) hI2 rfl)
  · refine a_aload_n B dX6_swells_0 rfl ?_
    refine a_getR B fl_X6_12 (by decide) rfl rfl dX6_swells_1 ?_
    refine a_iload_n B dX6_swells_4 rfl ?_
    refine a_callV1r B rfl cf_X0_at lk_X6_81 in_X0_at se_X0_at (wl_rc (p0 := 1) (by decide) rfl rfl rfl) (k_X0_atN 0 (by decide) _ _ hn) dX6_swells_5 (Nat.le_of_ble_eq_true rfl) ⟨Nat.le_of_ble_eq_true rfl, Nat.le_of_ble_eq_true rfl⟩ ⟨rfl, rfl⟩ ?_
    refine p_astoreN3 B dX6_swells_8 (by decide) (k := ?_)
    refine a_aload_nN B dX6_swells_9 rfl ?_
    refine a_ifnullN 20 B dX6_swells_10 (by decide) ?_
    refine a_aload_n B dX6_swells_20 rfl ?_
    refine a_ldc B dX6_swells_21 kc_X6_59 ?_
    refine a_callV1r B rfl cf_X6_tell lk_X6_60 in_X6_tell se_X6_tell (wl_rc (p0 := 0) (by decide) rfl rfl rfl) (k_X6_tell 0 (by decide) _ (by decide) _) dX6_swells_23 (Nat.le_of_ble_eq_true rfl) ⟨Nat.le_of_ble_eq_true rfl, Nat.le_of_ble_eq_true rfl⟩ ⟨rfl, rfl⟩ ?_
    exact a_iret B hr hlk dX6_swells_26 (rQr0 (k := 0) (by simp [sweX, hip]) (by decide) hI2 rfl)
set_option maxRecDepth 20000 in
theorem k_X6_goes (sin : Int32) (M : Mem) (hJ : CI M) : CC l sk D cy A X mX6_goes 3 [.ref (A 0), .int sin] M (rQ (goeX (M 0) sin) M M) := by
  refine Con.of (lo := [some (.ref (A 0)), some (.int sin)]) cf_X6_goes (fun _ _ => wl_fst) 0 rfl (Nat.le_of_ble_eq_true rfl) (fun Pp Ee Ss Mm Aa Bb Me Cc A0 B hr hlk => ?_)
  have B : BS sk D cy (wl A cy 51 TC X) A0 Pp Ss Mm Aa Cc RX6 cX6_goes 2 := B
  obtain ⟨hI0, hI1, hI2, hT, hZ⟩ := hJ
  refine a_iload_n B dX6_goes_0 rfl ?_
  refine a_bipush (v := 7) B dX6_goes_1 (by decide) ?_
  refine a_callS2r B rfl cf_X6_within lk_X6_48 st_X6_within (k_X6_within _ _ _) dX6_goes_3 (Nat.le_of_ble_eq_true rfl) ⟨Nat.le_of_ble_eq_true rfl, Nat.le_of_ble_eq_true rfl⟩ ⟨rfl, rfl⟩ ?_
  refine a_if_eq 31 B dX6_goes_6 (by decide) (fun c6 => ?_) (fun c6 => ?_)
  · have c6 := bI_eq0.mp c6
    refine a_aload_n B dX6_goes_31 rfl ?_
    refine a_ldc B dX6_goes_32 kc_X6_59 ?_
    refine a_callV1r B rfl cf_X6_tell lk_X6_60 in_X6_tell se_X6_tell (wl_rc (p0 := 0) (by decide) rfl rfl rfl) (k_X6_tell 0 (by decide) _ (by decide) _) dX6_goes_34 (Nat.le_of_ble_eq_true rfl) ⟨Nat.le_of_ble_eq_true rfl, Nat.le_of_ble_eq_true rfl⟩ ⟨rfl, rfl⟩ ?_
    exact a_iret B hr hlk dX6_goes_37 (rQr0 (k := 0) (by simp [goeX, c6]) (by decide) hI2 rfl)
  have c6 := bI_ne0.mp c6
  refine a_aload_n B dX6_goes_9 rfl ?_
  refine a_aload_n B dX6_goes_10 rfl ?_
  refine a_getR B fl_X6_12 (by decide) rfl rfl dX6_goes_11 ?_
  refine a_aload_n B dX6_goes_14 rfl ?_
  refine a_getR B fl_X6_12 (by decide) rfl rfl dX6_goes_15 ?_
  refine a_iload_n B dX6_goes_18 rfl ?_
  refine a_callV1r B rfl cf_X0_takersOf lk_X6_106 in_X0_takersOf se_X0_takersOf (wl_rc (p0 := 1) (by decide) rfl rfl rfl) (k_X0_takersOf 0 (by decide) _ _ hI0) dX6_goes_19 (Nat.le_of_ble_eq_true rfl) ⟨Nat.le_of_ble_eq_true rfl, Nat.le_of_ble_eq_true rfl⟩ ⟨rfl, rfl⟩ ?_
  refine a_callV1r B rfl cf_X0_hungriestOf lk_X6_109 in_X0_hungriestOf se_X0_hungriestOf (wl_rc (p0 := 1) (by decide) rfl rfl rfl) (k_X0_hungriestOf 0 (by decide) _ _ hI0) dX6_goes_22 (Nat.le_of_ble_eq_true rfl) ⟨Nat.le_of_ble_eq_true rfl, Nat.le_of_ble_eq_true rfl⟩ ⟨rfl, rfl⟩ ?_
  obtain ⟨N, hN, eN, eNo⟩ := hI0.n
  rw [best_tk (by omega)]
  refine a_callV1r B rfl cf_X6_orNone lk_X6_112 in_X6_orNone se_X6_orNone (wl_rc (p0 := 0) (by decide) rfl rfl rfl) (k_X6_orNone _ _) dX6_goes_25 (Nat.le_of_ble_eq_true rfl) ⟨Nat.le_of_ble_eq_true rfl, Nat.le_of_ble_eq_true rfl⟩ ⟨rfl, rfl⟩ ?_
  refine a_goto 37 B dX6_goes_28 (by decide) ?_
  exact a_iret B hr hlk dX6_goes_37 (rQ_on0 (o := _) (by simp [goeX, c6]) (fun k hk => by have := best_lt _ _ _ _ hk; omega) hI2)
set_option maxRecDepth 20000 in
theorem k_X6_out (sin : Int32) (M : Mem) (hJ : CI M) : CC l sk D cy A X mX6_out 6 [.ref (A 0), .int sin] M (rQ (outX (M 0) sin) M M) := by
  refine Con.of (lo := [some (.ref (A 0)), some (.int sin)]) cf_X6_out (fun _ _ => wl_fst) 0 rfl (Nat.le_of_ble_eq_true rfl) (fun Pp Ee Ss Mm Aa Bb Me Cc A0 B hr hlk => ?_)
  have B : BS sk D cy (wl A cy 51 TC X) A0 Pp Ss Mm Aa Cc RX6 cX6_out 2 := B
  obtain ⟨hI0, hI1, hI2, hT, hZ⟩ := hJ
  refine a_iload_n B dX6_out_0 rfl ?_
  refine a_bipush (v := 7) B dX6_out_1 (by decide) ?_
  refine a_callS2r B rfl cf_X6_within lk_X6_48 st_X6_within (k_X6_within _ _ _) dX6_out_3 (Nat.le_of_ble_eq_true rfl) ⟨Nat.le_of_ble_eq_true rfl, Nat.le_of_ble_eq_true rfl⟩ ⟨rfl, rfl⟩ ?_
  refine a_if_eq 28 B dX6_out_6 (by decide) (fun c6 => ?_) (fun c6 => ?_)
  · have c6 := bI_eq0.mp c6
    refine a_aload_n B dX6_out_28 rfl ?_
    refine a_ldc B dX6_out_29 kc_X6_59 ?_
    refine a_callV1r B rfl cf_X6_tell lk_X6_60 in_X6_tell se_X6_tell (wl_rc (p0 := 0) (by decide) rfl rfl rfl) (k_X6_tell 0 (by decide) _ (by decide) _) dX6_out_31 (Nat.le_of_ble_eq_true rfl) ⟨Nat.le_of_ble_eq_true rfl, Nat.le_of_ble_eq_true rfl⟩ ⟨rfl, rfl⟩ ?_
    exact a_iret B hr hlk dX6_out_34 (rQr0 (k := 0) (by simp [outX, c6]) (by decide) hI2 rfl)
  have c6 := bI_ne0.mp c6
  refine a_aload_n B dX6_out_9 rfl ?_
  refine a_aload_n B dX6_out_10 rfl ?_
  refine a_getR B fl_X6_26 (by decide) rfl rfl dX6_out_11 ?_
  refine a_aload_n B dX6_out_14 rfl ?_
  refine a_getR B fl_X6_12 (by decide) rfl rfl dX6_out_15 ?_
  refine a_iload_n B dX6_out_18 rfl ?_
  refine a_callV2p B rfl cf_X3_daysTillOut lk_X6_152 in_X3_daysTillOut se_X3_daysTillOut (wl_rc (p0 := 37) (by decide) rfl rfl rfl) (k_X3_daysTillOut _ hI0 hI2 _) dX6_out_19 (Nat.le_of_ble_eq_true rfl) ⟨Nat.le_of_ble_eq_true rfl, Nat.le_of_ble_eq_true rfl⟩ ⟨rfl, rfl⟩ ?_
  rintro _ _ ⟨rfl, dq, hIq, rfl⟩
  show AW Pp l Ee _ Ss Mm Aa Bb Me Cc D _ A0 _ 0 0 _ _ _ (_ :: _) _
  refine a_callV1r B rfl cf_X6_orNone lk_X6_112 in_X6_orNone se_X6_orNone (wl_rc (p0 := 0) (by decide) rfl rfl rfl) (k_X6_orNone _ _) dX6_out_22 (Nat.le_of_ble_eq_true rfl) ⟨Nat.le_of_ble_eq_true rfl, Nat.le_of_ble_eq_true rfl⟩ ⟨rfl, rfl⟩ ?_
  refine a_goto 34 B dX6_out_25 (by decide) ?_
  exact a_iret B hr hlk dX6_out_34 (rQ_on (o := _) (by simp [outX, c6]) (fun k hk => by have := fst_lt _ _ hk; omega) hIq)
set_option maxRecDepth 20000 in
theorem k_X6_cover (sins : Int32) (M : Mem) (hJ : CI M) : CC l sk D cy A X mX6_cover 4 [.ref (A 0), .int sins] M (rQ (covX (M 0) sins) M M) := by
  refine Con.of (lo := [some (.ref (A 0)), some (.int sins)]) cf_X6_cover (fun _ _ => wl_fst) 0 rfl (Nat.le_of_ble_eq_true rfl) (fun Pp Ee Ss Mm Aa Bb Me Cc A0 B hr hlk => ?_)
  have B : BS sk D cy (wl A cy 51 TC X) A0 Pp Ss Mm Aa Cc RX6 cX6_cover 2 := B
  obtain ⟨hI0, hI1, hI2, hT, hZ⟩ := hJ
  refine a_iload_n B dX6_cover_0 rfl ?_
  refine a_sipush (v := 255) B dX6_cover_1 (by decide) ?_
  refine a_callS2r B rfl cf_X6_within lk_X6_48 st_X6_within (k_X6_within _ _ _) dX6_cover_4 (Nat.le_of_ble_eq_true rfl) ⟨Nat.le_of_ble_eq_true rfl, Nat.le_of_ble_eq_true rfl⟩ ⟨rfl, rfl⟩ ?_
  refine a_if_eq 25 B dX6_cover_7 (by decide) (fun c7 => ?_) (fun c7 => ?_)
  · have c7 := bI_eq0.mp c7
    refine a_aload_n B dX6_cover_25 rfl ?_
    refine a_ldc B dX6_cover_26 kc_X6_59 ?_
    refine a_callV1r B rfl cf_X6_tell lk_X6_60 in_X6_tell se_X6_tell (wl_rc (p0 := 0) (by decide) rfl rfl rfl) (k_X6_tell 0 (by decide) _ (by decide) _) dX6_cover_28 (Nat.le_of_ble_eq_true rfl) ⟨Nat.le_of_ble_eq_true rfl, Nat.le_of_ble_eq_true rfl⟩ ⟨rfl, rfl⟩ ?_
    exact a_iret B hr hlk dX6_cover_31 (rQr0 (k := 0) (by simp [covX, c7]) (by decide) hI2 rfl)
  have c7 := bI_ne0.mp c7
  refine a_aload_n B dX6_cover_10 rfl ?_
  refine a_aload_n B dX6_cover_11 rfl ?_
  refine a_getR B fl_X6_12 (by decide) rfl rfl dX6_cover_12 ?_
  refine a_iload_n B dX6_cover_15 rfl ?_
  refine a_callV1r B rfl cf_X0_fewestTaking lk_X6_177 in_X0_fewestTaking se_X0_fewestTaking (wl_rc (p0 := 1) (by decide) rfl rfl rfl) (k_X0_fewestTaking 0 (by decide) _ _ hI0) dX6_cover_16 (Nat.le_of_ble_eq_true rfl) ⟨Nat.le_of_ble_eq_true rfl, Nat.le_of_ble_eq_true rfl⟩ ⟨rfl, rfl⟩ ?_
  refine a_callV1r B rfl cf_X6_orNone lk_X6_112 in_X6_orNone se_X6_orNone (wl_rc (p0 := 0) (by decide) rfl rfl rfl) (k_X6_orNone _ _) dX6_cover_19 (Nat.le_of_ble_eq_true rfl) ⟨Nat.le_of_ble_eq_true rfl, Nat.le_of_ble_eq_true rfl⟩ ⟨rfl, rfl⟩ ?_
  refine a_goto 31 B dX6_cover_22 (by decide) ?_
  exact a_iret B hr hlk dX6_cover_31 (rQ_on0 (o := _) (by simp [covX, c7]) (fun k hk => by have := fst2_lt _ _ hk; obtain ⟨N, hN, eN, eNo⟩ := hI0.n; have := pow9 (s := nOf (M 0)) (by omega); omega) hI2)
set_option maxRecDepth 20000 in
theorem k_X6_fast (n1 : Int32) (M : Mem) (hJ : CI M) : CC l sk D cy A X mX6_fast 6 [.ref (A 0), .int n1] M (rQ (fasX (M 0) n1) M M) := by
  refine Con.of (lo := [some (.ref (A 0)), some (.int n1)]) cf_X6_fast (fun _ _ => wl_fst) 0 rfl (Nat.le_of_ble_eq_true rfl) (fun Pp Ee Ss Mm Aa Bb Me Cc A0 B hr hlk => ?_)
  have B : BS sk D cy (wl A cy 51 TC X) A0 Pp Ss Mm Aa Cc RX6 cX6_fast 2 := B
  obtain ⟨hI0, hI1, hI2, hT, hZ⟩ := hJ
  refine a_iload_n B dX6_fast_0 rfl ?_
  refine a_bipush (v := 20) B dX6_fast_1 (by decide) ?_
  refine a_callS2r B rfl cf_X6_within lk_X6_48 st_X6_within (k_X6_within _ _ _) dX6_fast_3 (Nat.le_of_ble_eq_true rfl) ⟨Nat.le_of_ble_eq_true rfl, Nat.le_of_ble_eq_true rfl⟩ ⟨rfl, rfl⟩ ?_
  refine a_if_eq 28 B dX6_fast_6 (by decide) (fun c6 => ?_) (fun c6 => ?_)
  · have c6 := bI_eq0.mp c6
    refine a_aload_n B dX6_fast_28 rfl ?_
    refine a_ldc B dX6_fast_29 kc_X6_59 ?_
    refine a_callV1r B rfl cf_X6_tell lk_X6_60 in_X6_tell se_X6_tell (wl_rc (p0 := 0) (by decide) rfl rfl rfl) (k_X6_tell 0 (by decide) _ (by decide) _) dX6_fast_31 (Nat.le_of_ble_eq_true rfl) ⟨Nat.le_of_ble_eq_true rfl, Nat.le_of_ble_eq_true rfl⟩ ⟨rfl, rfl⟩ ?_
    exact a_iret B hr hlk dX6_fast_34 (rQr0 (k := 0) (by simp [fasX, c6]) (by decide) hI2 rfl)
  have c6 := bI_ne0.mp c6
  obtain ⟨t, htt, hte⟩ := wi_T (t := 20) c6 (by omega)
  subst hte
  refine a_aload_n B dX6_fast_9 rfl ?_
  refine a_aload_n B dX6_fast_10 rfl ?_
  refine a_getR B fl_X6_26 (by decide) rfl rfl dX6_fast_11 ?_
  refine a_aload_n B dX6_fast_14 rfl ?_
  refine a_getR B fl_X6_12 (by decide) rfl rfl dX6_fast_15 ?_
  refine a_iload_n B dX6_fast_18 rfl ?_
  refine a_callV2p B rfl cf_X3_fewestFasting lk_X6_174 in_X3_fewestFasting se_X3_fewestFasting (wl_rc (p0 := 37) (by decide) rfl rfl rfl) (k_X3_fewestFasting _ hI0 hI2 t (by omega)) dX6_fast_19 (Nat.le_of_ble_eq_true rfl) ⟨Nat.le_of_ble_eq_true rfl, Nat.le_of_ble_eq_true rfl⟩ ⟨rfl, rfl⟩ ?_
  rintro _ _ ⟨rfl, dq, hIq, rfl⟩
  show AW Pp l Ee _ Ss Mm Aa Bb Me Cc D _ A0 _ 0 0 _ _ _ (_ :: _) _
  refine a_callV1r B rfl cf_X6_orNone lk_X6_112 in_X6_orNone se_X6_orNone (wl_rc (p0 := 0) (by decide) rfl rfl rfl) (k_X6_orNone _ _) dX6_fast_22 (Nat.le_of_ble_eq_true rfl) ⟨Nat.le_of_ble_eq_true rfl, Nat.le_of_ble_eq_true rfl⟩ ⟨rfl, rfl⟩ ?_
  refine a_goto 34 B dX6_fast_25 (by decide) ?_
  exact a_iret B hr hlk dX6_fast_34 (rQ_on (o := _) (by simp [fasX, c6, nn_nI (show t < 2 ^ 31 by omega)]) (fun k hk => by have := fst2_lt _ _ hk; obtain ⟨N, hN, eN, eNo⟩ := hI0.n; have := pow9 (s := nOf (M 0)) (by omega); omega) hIq)
set_option maxRecDepth 20000 in
theorem k_X6_waterFor (n1 : Int32) (M : Mem) (hJ : CI M) : CC l sk D cy A X mX6_waterFor 6 [.ref (A 0), .int n1] M (rQ (watX (M 0) n1) M M) := by
  refine Con.of (lo := [some (.ref (A 0)), some (.int n1)]) cf_X6_waterFor (fun _ _ => wl_fst) 0 rfl (Nat.le_of_ble_eq_true rfl) (fun Pp Ee Ss Mm Aa Bb Me Cc A0 B hr hlk => ?_)
  have B : BS sk D cy (wl A cy 51 TC X) A0 Pp Ss Mm Aa Cc RX6 cX6_waterFor 2 := B
  obtain ⟨hI0, hI1, hI2, hT, hZ⟩ := hJ
  refine a_iload_n B dX6_waterFor_0 rfl ?_
  refine a_bipush (v := 60) B dX6_waterFor_1 (by decide) ?_
  refine a_callS2r B rfl cf_X6_within lk_X6_48 st_X6_within (k_X6_within _ _ _) dX6_waterFor_3 (Nat.le_of_ble_eq_true rfl) ⟨Nat.le_of_ble_eq_true rfl, Nat.le_of_ble_eq_true rfl⟩ ⟨rfl, rfl⟩ ?_
  refine a_if_eq 28 B dX6_waterFor_6 (by decide) (fun c6 => ?_) (fun c6 => ?_)
  · have c6 := bI_eq0.mp c6
    refine a_aload_n B dX6_waterFor_28 rfl ?_
    refine a_ldc B dX6_waterFor_29 kc_X6_59 ?_
    refine a_callV1r B rfl cf_X6_tell lk_X6_60 in_X6_tell se_X6_tell (wl_rc (p0 := 0) (by decide) rfl rfl rfl) (k_X6_tell 0 (by decide) _ (by decide) _) dX6_waterFor_31 (Nat.le_of_ble_eq_true rfl) ⟨Nat.le_of_ble_eq_true rfl, Nat.le_of_ble_eq_true rfl⟩ ⟨rfl, rfl⟩ ?_
    exact a_iret B hr hlk dX6_waterFor_34 (rQr0 (k := 0) (by simp [watX, c6]) (by decide) hI2 rfl)
  have c6 := bI_ne0.mp c6
  obtain ⟨t, htt, hte⟩ := wi_T (t := 60) c6 (by omega)
  subst hte
  refine a_aload_n B dX6_waterFor_9 rfl ?_
  refine a_aload_n B dX6_waterFor_10 rfl ?_
  refine a_getR B fl_X6_26 (by decide) rfl rfl dX6_waterFor_11 ?_
  refine a_aload_n B dX6_waterFor_14 rfl ?_
  refine a_getR B fl_X6_12 (by decide) rfl rfl dX6_waterFor_15 ?_
  refine a_iload_n B dX6_waterFor_18 rfl ?_
  refine a_callV2p B rfl cf_X3_leastQuietWater lk_X6_165 in_X3_leastQuietWater se_X3_leastQuietWater (wl_rc (p0 := 37) (by decide) rfl rfl rfl) (k_X3_leastQuietWater _ hI0 hI2 t (by omega)) dX6_waterFor_19 (Nat.le_of_ble_eq_true rfl) ⟨Nat.le_of_ble_eq_true rfl, Nat.le_of_ble_eq_true rfl⟩ ⟨rfl, rfl⟩ ?_
  rintro _ _ ⟨rfl, dq, hIq, rfl⟩
  show AW Pp l Ee _ Ss Mm Aa Bb Me Cc D _ A0 _ 0 0 _ _ _ (_ :: _) _
  refine a_callV1r B rfl cf_X6_orNone lk_X6_112 in_X6_orNone se_X6_orNone (wl_rc (p0 := 0) (by decide) rfl rfl rfl) (k_X6_orNone _ _) dX6_waterFor_22 (Nat.le_of_ble_eq_true rfl) ⟨Nat.le_of_ble_eq_true rfl, Nat.le_of_ble_eq_true rfl⟩ ⟨rfl, rfl⟩ ?_
  refine a_goto 34 B dX6_waterFor_25 (by decide) ?_
  exact a_iret B hr hlk dX6_waterFor_34 (rQ_on (o := _) (by simp [watX, c6, nn_nI (show t < 2 ^ 31 by omega)]) (fun k hk => by have := fst_lt _ _ hk; omega) hIq)
set_option maxRecDepth 20000 in
theorem k_X6_now (what : Int32) (M : Mem) (hJ : CI M) : CC l sk D cy A X mX6_now 4 [.ref (A 0), .int what] M (rQ (nowX (M 0) what) M M) := by
  refine Con.of (lo := [some (.ref (A 0)), some (.int what)]) cf_X6_now (fun _ _ => wl_fst) 0 rfl (Nat.le_of_ble_eq_true rfl) (fun Pp Ee Ss Mm Aa Bb Me Cc A0 B hr hlk => ?_)
  have B : BS sk D cy (wl A cy 51 TC X) A0 Pp Ss Mm Aa Cc RX6 cX6_now 2 := B
  obtain ⟨hI0, hI1, hI2, hT, hZ⟩ := hJ
  refine a_iload_n B dX6_now_0 rfl ?_
  by_cases s1_0 : what = 0
  · refine a_tblIn 48 B dX6_now_1 (by rw [s1_0]; decide) (by rw [s1_0]; decide) (by rw [s1_0]; rfl) (by decide) ?_
    refine a_aload_n B dX6_now_48 rfl ?_
    refine a_getR B fl_X6_12 (by decide) rfl rfl dX6_now_49 ?_
    refine a_getI B fl_X6_119 (by decide) rfl rfl dX6_now_52 ?_
    exact a_iret B hr hlk dX6_now_55 (rQl0 (by simp only [nowX, s1_0]; rfl) (hI2) (rfl))
  by_cases s1_1 : what = 1
  · refine a_tblIn 56 B dX6_now_1 (by rw [s1_1]; decide) (by rw [s1_1]; decide) (by rw [s1_1]; rfl) (by decide) ?_
    refine a_aload_n B dX6_now_56 rfl ?_
    refine a_getR B fl_X6_12 (by decide) rfl rfl dX6_now_57 ?_
    refine a_getI B fl_X6_56 (by decide) rfl rfl dX6_now_60 ?_
    exact a_iret B hr hlk dX6_now_63 (rQl0 (by simp only [nowX, s1_0, s1_1]; rfl) (hI2) (rfl))
  by_cases s1_2 : what = 2
  · refine a_tblIn 64 B dX6_now_1 (by rw [s1_2]; decide) (by rw [s1_2]; decide) (by rw [s1_2]; rfl) (by decide) ?_
    refine a_aload_n B dX6_now_64 rfl ?_
    refine a_getR B fl_X6_12 (by decide) rfl rfl dX6_now_65 ?_
    refine a_getI B fl_X6_128 (by decide) rfl rfl dX6_now_68 ?_
    exact a_iret B hr hlk dX6_now_71 (rQl0 (by simp only [nowX, s1_0, s1_1, s1_2]; rfl) (hI2) (rfl))
  by_cases s1_3 : what = 3
  · refine a_tblIn 72 B dX6_now_1 (by rw [s1_3]; decide) (by rw [s1_3]; decide) (by rw [s1_3]; rfl) (by decide) ?_
    refine a_aload_n B dX6_now_72 rfl ?_
    refine a_getR B fl_X6_12 (by decide) rfl rfl dX6_now_73 ?_
    refine a_iconst (v := 3) B dX6_now_76 (by decide) ?_
    refine a_callV1r B rfl cf_X0_sinsTogether lk_X6_131 in_X0_sinsTogether se_X0_sinsTogether (wl_rc (p0 := 1) (by decide) rfl rfl rfl) (k_X0_sinsTogether 0 (by decide) _ _ hI0) dX6_now_77 (Nat.le_of_ble_eq_true rfl) ⟨Nat.le_of_ble_eq_true rfl, Nat.le_of_ble_eq_true rfl⟩ ⟨rfl, rfl⟩ ?_
    exact a_iret B hr hlk dX6_now_80 (rQl0 (by simp only [nowX, s1_0, s1_1, s1_2, s1_3]; rfl) (hI2) (rfl))
  by_cases s1_4 : what = 4
  · refine a_tblIn 81 B dX6_now_1 (by rw [s1_4]; decide) (by rw [s1_4]; decide) (by rw [s1_4]; rfl) (by decide) ?_
    refine a_aload_n B dX6_now_81 rfl ?_
    refine a_getR B fl_X6_12 (by decide) rfl rfl dX6_now_82 ?_
    refine a_iconst (v := 1) B dX6_now_85 (by decide) ?_
    refine a_callV1r B rfl cf_X0_sumTogether lk_X6_134 in_X0_sumTogether se_X0_sumTogether (wl_rc (p0 := 1) (by decide) rfl rfl rfl) (k_X0_sumTogether 0 (by decide) _ _ hI0) dX6_now_86 (Nat.le_of_ble_eq_true rfl) ⟨Nat.le_of_ble_eq_true rfl, Nat.le_of_ble_eq_true rfl⟩ ⟨rfl, rfl⟩ ?_
    exact a_iret B hr hlk dX6_now_89 (rQl0 (by simp only [nowX, s1_0, s1_1, s1_2, s1_3, s1_4]; rfl) (hI2) (rfl))
  by_cases s1_5 : what = 5
  · refine a_tblIn 90 B dX6_now_1 (by rw [s1_5]; decide) (by rw [s1_5]; decide) (by rw [s1_5]; rfl) (by decide) ?_
    refine a_aload_n B dX6_now_90 rfl ?_
    refine a_getR B fl_X6_12 (by decide) rfl rfl dX6_now_91 ?_
    refine a_callV0r B rfl cf_X0_fullest lk_X6_137 in_X0_fullest se_X0_fullest (wl_rc (p0 := 1) (by decide) rfl rfl rfl) (k_X0_fullest 0 (by decide) _ hI0) dX6_now_94 (Nat.le_of_ble_eq_true rfl) ⟨Nat.le_of_ble_eq_true rfl, Nat.le_of_ble_eq_true rfl⟩ ⟨rfl, rfl⟩ ?_
    exact a_iret B hr hlk dX6_now_97 (rQl0 (by simp only [nowX, s1_0, s1_1, s1_2, s1_3, s1_4, s1_5]; rfl) (hI2) (rfl))
  by_cases s1_6 : what = 6
  · refine a_tblIn 98 B dX6_now_1 (by rw [s1_6]; decide) (by rw [s1_6]; decide) (by rw [s1_6]; rfl) (by decide) ?_
    refine a_aload_n B dX6_now_98 rfl ?_
    refine a_getR B fl_X6_12 (by decide) rfl rfl dX6_now_99 ?_
    refine a_iconst (v := 5) B dX6_now_102 (by decide) ?_
    refine a_callV1r B rfl cf_X0_sumTogether lk_X6_134 in_X0_sumTogether se_X0_sumTogether (wl_rc (p0 := 1) (by decide) rfl rfl rfl) (k_X0_sumTogether 0 (by decide) _ _ hI0) dX6_now_103 (Nat.le_of_ble_eq_true rfl) ⟨Nat.le_of_ble_eq_true rfl, Nat.le_of_ble_eq_true rfl⟩ ⟨rfl, rfl⟩ ?_
    exact a_iret B hr hlk dX6_now_106 (rQl0 (by simp only [nowX, s1_0, s1_1, s1_2, s1_3, s1_4, s1_5, s1_6]; rfl) (hI2) (rfl))
  by_cases s1_7 : what = 7
  · refine a_tblIn 107 B dX6_now_1 (by rw [s1_7]; decide) (by rw [s1_7]; decide) (by rw [s1_7]; rfl) (by decide) ?_
    refine a_sipush (v := 255) B dX6_now_107 (by decide) ?_
    refine a_aload_n B dX6_now_110 rfl ?_
    refine a_getR B fl_X6_12 (by decide) rfl rfl dX6_now_111 ?_
    refine a_iconst (v := 2) B dX6_now_114 (by decide) ?_
    refine a_callV1r B rfl cf_X0_sinsTogether lk_X6_131 in_X0_sinsTogether se_X0_sinsTogether (wl_rc (p0 := 1) (by decide) rfl rfl rfl) (k_X0_sinsTogether 0 (by decide) _ _ hI0) dX6_now_115 (Nat.le_of_ble_eq_true rfl) ⟨Nat.le_of_ble_eq_true rfl, Nat.le_of_ble_eq_true rfl⟩ ⟨rfl, rfl⟩ ?_
    refine a_iconst (v := (-1)) B dX6_now_118 (by decide) ?_
    refine a_ixor B dX6_now_119 ?_
    refine a_iand B dX6_now_120 ?_
    exact a_iret B hr hlk dX6_now_121 (rQl0 (by simp only [nowX, s1_0, s1_1, s1_2, s1_3, s1_4, s1_5, s1_6, s1_7]; rfl) (hI2) (rfl))
  refine a_tblOut 122 B dX6_now_1 (by have h0 := lv_neT s1_0 (show (0 : Int32).toInt = 0 by decide); have h1 := lv_neT s1_1 (show (1 : Int32).toInt = 1 by decide); have h2 := lv_neT s1_2 (show (2 : Int32).toInt = 2 by decide); have h3 := lv_neT s1_3 (show (3 : Int32).toInt = 3 by decide); have h4 := lv_neT s1_4 (show (4 : Int32).toInt = 4 by decide); have h5 := lv_neT s1_5 (show (5 : Int32).toInt = 5 by decide); have h6 := lv_neT s1_6 (show (6 : Int32).toInt = 6 by decide); have h7 := lv_neT s1_7 (show (7 : Int32).toInt = 7 by decide); omega) (by decide) ?_
  refine a_aload_n B dX6_now_122 rfl ?_
  refine a_ldc B dX6_now_123 kc_X6_59 ?_
  refine a_callV1r B rfl cf_X6_tell lk_X6_60 in_X6_tell se_X6_tell (wl_rc (p0 := 0) (by decide) rfl rfl rfl) (k_X6_tell 0 (by decide) _ (by decide) _) dX6_now_125 (Nat.le_of_ble_eq_true rfl) ⟨Nat.le_of_ble_eq_true rfl, Nat.le_of_ble_eq_true rfl⟩ ⟨rfl, rfl⟩ ?_
  exact a_iret B hr hlk dX6_now_128 (rQr0 (k := 0) (by simp [nowX, s1_0, s1_1, s1_2, s1_3, s1_4, s1_5, s1_6, s1_7]) (by decide) hI2 rfl)
end C9
