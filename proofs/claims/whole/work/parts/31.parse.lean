section C18

abbrev PR : Type := (Nat × Dm) ⊕ Nat
def rP (M : Mem) (x : PR) : Option Value → Mem → Prop := fun v M' => match x with
  | .inl y => v = some (.int 1) ∧ ∃ q', AtE (tapB M) q' y.1 ∧ q' 5 = M 4 5 ∧ Inv y.2 ∧ M' = PM M q' y.2
  | .inr s => v = some (.int 0) ∧ s ≤ 120 ∧ ∃ q' d', q' 1 = nI s ∧ Inv d' ∧ M' = PM M q' d'
theorem rP_l {M M' : Mem} {x : PR} {e' : Nat} {d' q' : Dm} (hx : x = .inl (e', d')) (hA : AtE (tapB M) q' e') (h5 : q' 5 = M 4 5) (hd : Inv d') (hM : M' = PM M q' d') : rP M x (some (.int 1)) M' := by subst hx; exact ⟨rfl, q', hA, h5, hd, hM⟩
theorem rP_r {M M' : Mem} {x : PR} {e' : Nat} {d' q' : Dm} (hT : tapOk M) (hx : x = .inr (tokS (tapB M) e')) (hA : AtE (tapB M) q' e') (hd : Inv d') (hM : M' = PM M q' d') : rP M x (some (.int 0)) M' := by
  subst hx
  have h := tok_le (tap_end hT) hA.1
  exact ⟨rfl, by omega, q', d', hA.2.2.1, hd, hM⟩
theorem rP_v {M M' : Mem} {x : PR} {v : Option Value} (h : rP M x v M') : ∃ b : Bool, v = some (.int (bI b)) := by
  rcases x with y | s
  · exact ⟨true, h.1⟩
  · exact ⟨false, h.1⟩
theorem nar_b : ∀ b : Bool, narrow .boolean (.int (bI b)) = .int (bI b) := by decide
def perS (g : Nat → Int32) (e : Nat) (d : Dm) (i p : Nat) (what : Int32) : PR := if isWq g e i then (match rnumS g (tokE g e) (if what = 1 then 999 else 255) with
  | none => .inr (tokS g (tokE g e))
  | some x => .inl (tokE g (tokE g e), putF d p what x)) else .inl (e, d)
def watS (g : Nat → Int32) (e : Nat) (d : Dm) : PR := match rnumS g (tokE g e) 9 with
  | none => .inr (tokS g (tokE g e))
  | some x => .inl (tokE g (tokE g e), upd d 3 x)
def outS (g : Nat → Int32) (e : Nat) (d : Dm) : PR := match rnumS g (tokE g e) 255 with
  | none => .inr (tokS g (tokE g e))
  | some x => .inl (tokE g (tokE g e), upd d 4 x)
def tolS (g : Nat → Int32) (e : Nat) (d : Dm) : PR := match rnumS g (tokE g e) 5 with
  | none => .inr (tokS g (tokE g e))
  | some x => match rnumS g (tokE g (tokE g e)) 7 with
    | none => .inr (tokS g (tokE g (tokE g e)))
    | some y => match rnumS g (tokE g (tokE g (tokE g e))) 40 with
      | none => .inr (tokS g (tokE g (tokE g (tokE g e))))
      | some z => .inl (tokE g (tokE g (tokE g (tokE g e))), upd d (6 + nn x) (100 * y + z))
def pr2 (x : PR) (f : Nat → Dm → PR) : PR := match x with
  | .inl y => f y.1 y.2
  | .inr s => .inr s
def priS (g : Nat → Int32) (e : Nat) (d : Dm) : PR := match kinS g e with
  | none => .inr (tokS g e)
  | some k => if d 0 < 8 then pr2 (perS g (tokE g e) (welF d (nI k) 255) 10 (nOf d) 2) (fun e2 d2 => pr2 (perS g e2 d2 11 (nOf d) 3) (fun e3 d3 => perS g e3 d3 12 (nOf d) 1)) else .inr (tokS g e)
def iteS (g : Nat → Int32) (e : Nat) (d : Dm) : PR := if isWq g e 0 then tolS g e d else if isWq g e 1 then watS g e d else if isWq g e 2 then outS g e d else priS g e d
def itsS (g : Nat → Int32) : Nat → Nat → Dm → Nat → Int32 × Option Dm
  | 0, e, _, _ => (-1 - nI (tokS g e), none)
  | f + 1, e, d, n => match iteS g e d with
    | .inr s => (-1 - nI s, none)
    | .inl y => if tokT g y.1 = 0 then (nI n, some y.2) else if tokT g y.1 = 3 then itsS g f (tokE g y.1) y.2 (n + 1) else (-1 - nI (tokS g y.1), none)
theorem per_inv {d : Dm} {p m : Nat} {what x : Int32} (h : Inv d) (hp : p < 8) (hw : what = 1 ∧ m = 999 ∨ (what = 2 ∨ what = 3) ∧ m = 255) (hx : ∃ a, a ≤ m ∧ x = nI a) : Inv (putF d p what x) := by
  obtain ⟨a, ha, ea⟩ := hx
  rcases hw with ⟨rfl, rfl⟩ | ⟨rfl | rfl, rfl⟩
  · exact h.up (Or.inr (by omega)) ea (fun _ _ => by rw [bnd_s hp]; exact ha)
  · exact h.up (Or.inr (by omega)) ea (fun _ _ => by rw [bnd_t hp]; exact ha)
  · exact h.up (Or.inr (by omega)) ea (fun _ _ => by rw [bnd_kn hp]; exact ha)
theorem wel_inv {d : Dm} {kind sins : Int32} (h : Inv d) (h8 : d 0 < 8) (hk : ∃ a, a ≤ 6 ∧ kind = nI a) (hs : ∃ a, a ≤ 255 ∧ sins = nI a) : nOf d < 8 ∧ d 0 = nI (nOf d) ∧ Inv (welF d kind sins) ∧ welF d kind sins 0 = nI (nOf d + 1) := by
  obtain ⟨N, hN, eN, eNo⟩ := h.n
  obtain ⟨a, ha, ea⟩ := hk
  obtain ⟨b, hb, eb⟩ := hs
  have hp : N < 8 := by rw [eN] at h8; exact (nI_ltI (b := 8) (by omega) (by omega)).mp h8
  rw [eNo]
  unfold welF
  rw [if_pos h8, eNo, eN, nI_1]
  have h0 : Inv (upd d 0 (nI (N + 1))) := h.up (Or.inl (by omega)) rfl (fun _ _ => by have : bnd 0 = 8 := rfl; omega)
  refine ⟨hp, rfl, ?_, ?_⟩
  · unfold beginF
    refine Inv.up (n := 0) ?_ (Or.inr (by omega)) rfl (fun _ _ => Nat.zero_le _)
    refine Inv.up (n := 0) ?_ (Or.inr (by omega)) rfl (fun _ _ => Nat.zero_le _)
    refine Inv.up (n := 0) ?_ (Or.inr (by omega)) rfl (fun _ _ => Nat.zero_le _)
    refine Inv.up (n := b) ?_ (Or.inr (by omega)) eb (fun _ _ => by rw [bnd_t hp]; exact hb)
    refine Inv.up (n := 0) ?_ (Or.inr (by omega)) rfl (fun _ _ => Nat.zero_le _)
    exact h0.up (Or.inr (by omega)) ea (fun _ _ => by rw [bnd_k hp]; exact ha)
  · unfold beginF
    rw [pk_un (by omega), pk_un (by omega), pk_un (by omega), pk_un (by omega), pk_un (by omega), pk_un (by omega), pk_us]

variable {l : Launch} {sk : (Nat → Nat) × (Nat → Nat)} {D : va_G} {cy : Nat → ClassId} {A : Nat → Nat} {X : va_W}
set_option maxRecDepth 20000 in
theorem k_X2_readPerhaps (M : Mem) (hT : tapOk M) (q d : Dm) (h5 : q 5 = M 4 5) (e : Nat) (hA : AtE (tapB M) q e) (hI : Inv d) (i : Nat) (hi : i < 13) (p : Nat) (hp : p < 8) (what : Int32) (hw : what = 1 ∨ what = 2 ∨ what = 3) : CC l sk D cy A X mX2_readPerhaps 5 [.ref (A 38), .ref (sk.1 i), .ref (A (5 + 12 * 2 + p)), .int what] (PM M q d) (rP M (perS (tapB M) e d i p what)) := by
  refine Con.of (lo := [some (.ref (A 38)), some (.ref (sk.1 i)), some (.ref (A (5 + 12 * 2 + p))), some (.int what)]) cf_X2_readPerhaps (fun _ _ => wl_fst) 0 rfl (Nat.le_of_ble_eq_true rfl) (fun Pp Ee Ss Mm Aa Bb Me Cc A0 B hr hlk => ?_)
  have B : BS sk D cy (wl A cy 51 TC X) A0 Pp Ss Mm Aa Cc RX2 cX2_readPerhaps 4 := B
  have hl := tok_le (tap_end hT) hA.1
  obtain ⟨q1, hq1⟩ : ∃ q1, q1 = advD (tapB M) q (tokE (tapB M) e) := ⟨_, rfl⟩
  have hA1 : AtE (tapB M) q1 (tokE (tapB M) e) := by rw [hq1]; exact atE_adv (tok_le (tap_end hT) hA.1).2.1
  have h51 : q1 5 = M 4 5 := by rw [hq1]; first | exact h5 | exact h51 | exact h52 | exact h53 | exact h54
  refine a_aload_n B dX2_readPerhaps_0 rfl ?_
  refine a_aload_n B dX2_readPerhaps_1 rfl ?_
  refine a_callV1r B rfl cf_X2_isWord lk_X2_43 in_X2_isWord se_X2_isWord (wl_rc (p0 := 38) (by decide) rfl rfl rfl) (k_isWord M hT q d h5 e hA i hi) dX2_readPerhaps_2 (Nat.le_of_ble_eq_true rfl) ⟨Nat.le_of_ble_eq_true rfl, Nat.le_of_ble_eq_true rfl⟩ ⟨rfl, rfl⟩ ?_
  refine a_if_ne 10 B dX2_readPerhaps_5 (by decide) (fun c5 => ?_) (fun c5 => ?_)
  · have c5 := bI_ne0.mp c5
    refine a_aload_n B dX2_readPerhaps_10 rfl ?_
    refine a_callV0v B rfl cf_X2_advance lk_X2_34 in_X2_advance se_X2_advance (wl_rc (p0 := 38) (by decide) rfl rfl rfl) (k_adv M hT q d h5 e hA) dX2_readPerhaps_11 (Nat.le_of_ble_eq_true rfl) ⟨Nat.le_of_ble_eq_true rfl, Nat.le_of_ble_eq_true rfl⟩ ⟨rfl, rfl⟩ ?_
    rw [← hq1]
    refine a_aload_n B dX2_readPerhaps_14 rfl ?_
    refine a_iload_n B dX2_readPerhaps_15 rfl ?_
    refine a_iconst (v := 1) B dX2_readPerhaps_16 (by decide) ?_
    refine a_icmp_ne 26 B dX2_readPerhaps_17 (by decide) (fun c17 => ?_) (fun c17 => ?_)
    · refine a_sipush (v := 255) B dX2_readPerhaps_26 (by decide) ?_
      rcases hn : rnumS (tapB M) (tokE (tapB M) e) (if what = 1 then 999 else 255) with _ | x
      · have hn2 := hn
        first | rw [if_neg c17] at hn2 | rw [if_pos c17] at hn2
        refine a_callV1r B rfl cf_X2_readNumber lk_X2_63 in_X2_readNumber se_X2_readNumber (wl_rc (p0 := 38) (by decide) rfl rfl rfl) (k_rnumN M hT q1 d h51 _ hA1 _ hn2) dX2_readPerhaps_29 (Nat.le_of_ble_eq_true rfl) ⟨Nat.le_of_ble_eq_true rfl, Nat.le_of_ble_eq_true rfl⟩ ⟨rfl, rfl⟩ ?_
        refine a_if_ne 37 B dX2_readPerhaps_32 (by decide) (fun c32 => ?_) (fun c32 => ?_)
        · exact absurd rfl c32
        refine a_iconst (v := 0) B dX2_readPerhaps_35 (by decide) ?_
        exact a_zret B hr hlk rfl dX2_readPerhaps_36 (rP_r hT (by unfold perS; rw [if_pos c5, hn]) hA1 hI rfl)
      · have hn2 := hn
        first | rw [if_neg c17] at hn2 | rw [if_pos c17] at hn2
        refine a_callV1r B rfl cf_X2_readNumber lk_X2_63 in_X2_readNumber se_X2_readNumber (wl_rc (p0 := 38) (by decide) rfl rfl rfl) (k_rnumY M hT q1 d h51 _ hA1 _ x hn2) dX2_readPerhaps_29 (Nat.le_of_ble_eq_true rfl) ⟨Nat.le_of_ble_eq_true rfl, Nat.le_of_ble_eq_true rfl⟩ ⟨rfl, rfl⟩ ?_
        obtain ⟨q2, hq2⟩ : ∃ q2, q2 = advD (tapB M) (upd q1 4 x) (tokE (tapB M) (tokE (tapB M) e)) := ⟨_, rfl⟩
        have hA2 : AtE (tapB M) q2 (tokE (tapB M) (tokE (tapB M) e)) := by rw [hq2]; exact atE_adv (tok_le (tap_end hT) hA1.1).2.1
        have h52 : q2 5 = M 4 5 := by rw [hq2]; first | exact h5 | exact h51 | exact h52 | exact h53 | exact h54
        rw [← hq2]
        have hg2 : q2 4 = x := by rw [hq2]; rfl
        refine a_if_ne 37 B dX2_readPerhaps_32 (by decide) (fun c32 => ?_) (fun c32 => ?_)
        · refine a_aload_n B dX2_readPerhaps_37 rfl ?_
          refine a_iload_n B dX2_readPerhaps_38 rfl ?_
          refine a_aload_n B dX2_readPerhaps_39 rfl ?_
          refine a_getI B fl_X2_31 (by decide) rfl rfl dX2_readPerhaps_40 ?_
          refine a_callV2v B rfl cf_X1_put lk_X2_108 in_X1_put se_X1_put (wl_rc (p0 := 5 + 12 * 2 + p) (by omega) (tcP 2 (by decide) p hp) rfl rfl) (k_X1_put 2 p (by decide) hp _ _ _) dX2_readPerhaps_43 (Nat.le_of_ble_eq_true rfl) ⟨Nat.le_of_ble_eq_true rfl, Nat.le_of_ble_eq_true rfl⟩ ⟨rfl, rfl⟩ ?_
          rw [PM_4, hg2, PM_2, PM_s2]
          refine a_iconst (v := 1) B dX2_readPerhaps_46 (by decide) ?_
          exact a_zret B hr hlk rfl dX2_readPerhaps_47 (rP_l (by unfold perS; rw [if_pos c5, hn]) hA2 h52 (per_inv (m := 255) hI hp (Or.inr ⟨hw.resolve_left c17, rfl⟩) (rnum_nn (by omega) hn2)) rfl)
        exact absurd c32 (by decide)
    refine a_sipush (v := 999) B dX2_readPerhaps_20 (by decide) ?_
    refine a_goto 29 B dX2_readPerhaps_23 (by decide) ?_
    rcases hn : rnumS (tapB M) (tokE (tapB M) e) (if what = 1 then 999 else 255) with _ | x
    · have hn2 := hn
      first | rw [if_neg c17] at hn2 | rw [if_pos c17] at hn2
      refine a_callV1r B rfl cf_X2_readNumber lk_X2_63 in_X2_readNumber se_X2_readNumber (wl_rc (p0 := 38) (by decide) rfl rfl rfl) (k_rnumN M hT q1 d h51 _ hA1 _ hn2) dX2_readPerhaps_29 (Nat.le_of_ble_eq_true rfl) ⟨Nat.le_of_ble_eq_true rfl, Nat.le_of_ble_eq_true rfl⟩ ⟨rfl, rfl⟩ ?_
      refine a_if_ne 37 B dX2_readPerhaps_32 (by decide) (fun c32 => ?_) (fun c32 => ?_)
      · exact absurd rfl c32
      refine a_iconst (v := 0) B dX2_readPerhaps_35 (by decide) ?_
      exact a_zret B hr hlk rfl dX2_readPerhaps_36 (rP_r hT (by unfold perS; rw [if_pos c5, hn]) hA1 hI rfl)
    · have hn2 := hn
      first | rw [if_neg c17] at hn2 | rw [if_pos c17] at hn2
      refine a_callV1r B rfl cf_X2_readNumber lk_X2_63 in_X2_readNumber se_X2_readNumber (wl_rc (p0 := 38) (by decide) rfl rfl rfl) (k_rnumY M hT q1 d h51 _ hA1 _ x hn2) dX2_readPerhaps_29 (Nat.le_of_ble_eq_true rfl) ⟨Nat.le_of_ble_eq_true rfl, Nat.le_of_ble_eq_true rfl⟩ ⟨rfl, rfl⟩ ?_
      obtain ⟨q2, hq2⟩ : ∃ q2, q2 = advD (tapB M) (upd q1 4 x) (tokE (tapB M) (tokE (tapB M) e)) := ⟨_, rfl⟩
      have hA2 : AtE (tapB M) q2 (tokE (tapB M) (tokE (tapB M) e)) := by rw [hq2]; exact atE_adv (tok_le (tap_end hT) hA1.1).2.1
      have h52 : q2 5 = M 4 5 := by rw [hq2]; first | exact h5 | exact h51 | exact h52 | exact h53 | exact h54
      rw [← hq2]
      have hg2 : q2 4 = x := by rw [hq2]; rfl
      refine a_if_ne 37 B dX2_readPerhaps_32 (by decide) (fun c32 => ?_) (fun c32 => ?_)
      · refine a_aload_n B dX2_readPerhaps_37 rfl ?_
        refine a_iload_n B dX2_readPerhaps_38 rfl ?_
        refine a_aload_n B dX2_readPerhaps_39 rfl ?_
        refine a_getI B fl_X2_31 (by decide) rfl rfl dX2_readPerhaps_40 ?_
        refine a_callV2v B rfl cf_X1_put lk_X2_108 in_X1_put se_X1_put (wl_rc (p0 := 5 + 12 * 2 + p) (by omega) (tcP 2 (by decide) p hp) rfl rfl) (k_X1_put 2 p (by decide) hp _ _ _) dX2_readPerhaps_43 (Nat.le_of_ble_eq_true rfl) ⟨Nat.le_of_ble_eq_true rfl, Nat.le_of_ble_eq_true rfl⟩ ⟨rfl, rfl⟩ ?_
        rw [PM_4, hg2, PM_2, PM_s2]
        refine a_iconst (v := 1) B dX2_readPerhaps_46 (by decide) ?_
        exact a_zret B hr hlk rfl dX2_readPerhaps_47 (rP_l (by unfold perS; rw [if_pos c5, hn]) hA2 h52 (per_inv (m := 999) hI hp (Or.inl ⟨c17, rfl⟩) (rnum_nn (by omega) hn2)) rfl)
      exact absurd c32 (by decide)
  have c5 := bI_eq0.mp c5
  refine a_iconst (v := 1) B dX2_readPerhaps_8 (by decide) ?_
  exact a_zret B hr hlk rfl dX2_readPerhaps_9 (rP_l (by unfold perS; rw [c5]; rfl) hA h5 hI rfl)
set_option maxRecDepth 20000 in
theorem k_X2_readWater (M : Mem) (hT : tapOk M) (q d : Dm) (h5 : q 5 = M 4 5) (e : Nat) (hA : AtE (tapB M) q e) (hI : Inv d) : CC l sk D cy A X mX2_readWater 3 [.ref (A 38), .ref (A (1 + 12 * 2))] (PM M q d) (rP M (watS (tapB M) e d)) := by
  refine Con.of (lo := [some (.ref (A 38)), some (.ref (A (1 + 12 * 2)))]) cf_X2_readWater (fun _ _ => wl_fst) 0 rfl (Nat.le_of_ble_eq_true rfl) (fun Pp Ee Ss Mm Aa Bb Me Cc A0 B hr hlk => ?_)
  have B : BS sk D cy (wl A cy 51 TC X) A0 Pp Ss Mm Aa Cc RX2 cX2_readWater 2 := B
  obtain ⟨q1, hq1⟩ : ∃ q1, q1 = advD (tapB M) q (tokE (tapB M) e) := ⟨_, rfl⟩
  have hA1 : AtE (tapB M) q1 (tokE (tapB M) e) := by rw [hq1]; exact atE_adv (tok_le (tap_end hT) hA.1).2.1
  have h51 : q1 5 = M 4 5 := by rw [hq1]; first | exact h5 | exact h51 | exact h52 | exact h53 | exact h54
  refine a_aload_n B dX2_readWater_0 rfl ?_
  refine a_callV0v B rfl cf_X2_advance lk_X2_34 in_X2_advance se_X2_advance (wl_rc (p0 := 38) (by decide) rfl rfl rfl) (k_adv M hT q d h5 e hA) dX2_readWater_1 (Nat.le_of_ble_eq_true rfl) ⟨Nat.le_of_ble_eq_true rfl, Nat.le_of_ble_eq_true rfl⟩ ⟨rfl, rfl⟩ ?_
  rw [← hq1]
  rcases hn1 : rnumS (tapB M) (tokE (tapB M) e) 9 with _ | x1
  · refine a_aload_n B dX2_readWater_4 rfl ?_
    refine a_bipush (v := 9) B dX2_readWater_5 (by decide) ?_
    refine a_callV1r B rfl cf_X2_readNumber lk_X2_63 in_X2_readNumber se_X2_readNumber (wl_rc (p0 := 38) (by decide) rfl rfl rfl) (k_rnumN M hT q1 d h51 _ hA1 _ hn1) dX2_readWater_7 (Nat.le_of_ble_eq_true rfl) ⟨Nat.le_of_ble_eq_true rfl, Nat.le_of_ble_eq_true rfl⟩ ⟨rfl, rfl⟩ ?_
    refine a_if_ne 15 B dX2_readWater_10 (by decide) (fun c10 => ?_) (fun c10 => ?_)
    · exact absurd rfl c10
    refine a_iconst (v := 0) B dX2_readWater_13 (by decide) ?_
    exact a_zret B hr hlk rfl dX2_readWater_14 (rP_r hT (by unfold watS; rw [hn1]) hA1 hI rfl)
  · obtain ⟨a, ha, ea⟩ := rnum_nn (m := 9) (by omega) hn1
    refine a_aload_n B dX2_readWater_4 rfl ?_
    refine a_bipush (v := 9) B dX2_readWater_5 (by decide) ?_
    refine a_callV1r B rfl cf_X2_readNumber lk_X2_63 in_X2_readNumber se_X2_readNumber (wl_rc (p0 := 38) (by decide) rfl rfl rfl) (k_rnumY M hT q1 d h51 _ hA1 _ x1 hn1) dX2_readWater_7 (Nat.le_of_ble_eq_true rfl) ⟨Nat.le_of_ble_eq_true rfl, Nat.le_of_ble_eq_true rfl⟩ ⟨rfl, rfl⟩ ?_
    obtain ⟨q2, hq2⟩ : ∃ q2, q2 = advD (tapB M) (upd q1 4 x1) (tokE (tapB M) (tokE (tapB M) e)) := ⟨_, rfl⟩
    have hA2 : AtE (tapB M) q2 (tokE (tapB M) (tokE (tapB M) e)) := by rw [hq2]; exact atE_adv (tok_le (tap_end hT) hA1.1).2.1
    have h52 : q2 5 = M 4 5 := by rw [hq2]; first | exact h5 | exact h51 | exact h52 | exact h53 | exact h54
    rw [← hq2]
    have hg2 : q2 4 = x1 := by rw [hq2]; rfl
    refine a_if_ne 15 B dX2_readWater_10 (by decide) (fun c10 => ?_) (fun c10 => ?_)
    · refine a_aload_n B dX2_readWater_15 rfl ?_
      refine a_aload_n B dX2_readWater_16 rfl ?_
      refine a_getI B fl_X2_31 (by decide) rfl rfl dX2_readWater_17 ?_
      rw [PM_4, hg2]
      refine a_putI B twC fl_X2_67 fp_0_1 (by decide) rfl rfl dX2_readWater_20 ?_
      refine a_iconst (v := 1) B dX2_readWater_23 (by decide) ?_
      rw [PM_u2]
      exact a_zret B hr hlk rfl dX2_readWater_24 (rP_l (by unfold watS; rw [hn1]) hA2 h52 (hI.up (j := 3) (Or.inl (by omega)) ea (fun _ _ => ha)) rfl)
    exact absurd c10 (by decide)
set_option maxRecDepth 20000 in
theorem k_X2_readOut (M : Mem) (hT : tapOk M) (q d : Dm) (h5 : q 5 = M 4 5) (e : Nat) (hA : AtE (tapB M) q e) (hI : Inv d) : CC l sk D cy A X mX2_readOut 3 [.ref (A 38), .ref (A (1 + 12 * 2))] (PM M q d) (rP M (outS (tapB M) e d)) := by
  refine Con.of (lo := [some (.ref (A 38)), some (.ref (A (1 + 12 * 2)))]) cf_X2_readOut (fun _ _ => wl_fst) 0 rfl (Nat.le_of_ble_eq_true rfl) (fun Pp Ee Ss Mm Aa Bb Me Cc A0 B hr hlk => ?_)
  have B : BS sk D cy (wl A cy 51 TC X) A0 Pp Ss Mm Aa Cc RX2 cX2_readOut 2 := B
  obtain ⟨q1, hq1⟩ : ∃ q1, q1 = advD (tapB M) q (tokE (tapB M) e) := ⟨_, rfl⟩
  have hA1 : AtE (tapB M) q1 (tokE (tapB M) e) := by rw [hq1]; exact atE_adv (tok_le (tap_end hT) hA.1).2.1
  have h51 : q1 5 = M 4 5 := by rw [hq1]; first | exact h5 | exact h51 | exact h52 | exact h53 | exact h54
  refine a_aload_n B dX2_readOut_0 rfl ?_
  refine a_callV0v B rfl cf_X2_advance lk_X2_34 in_X2_advance se_X2_advance (wl_rc (p0 := 38) (by decide) rfl rfl rfl) (k_adv M hT q d h5 e hA) dX2_readOut_1 (Nat.le_of_ble_eq_true rfl) ⟨Nat.le_of_ble_eq_true rfl, Nat.le_of_ble_eq_true rfl⟩ ⟨rfl, rfl⟩ ?_
  rw [← hq1]
  rcases hn1 : rnumS (tapB M) (tokE (tapB M) e) 255 with _ | x1
  · refine a_aload_n B dX2_readOut_4 rfl ?_
    refine a_sipush (v := 255) B dX2_readOut_5 (by decide) ?_
    refine a_callV1r B rfl cf_X2_readNumber lk_X2_63 in_X2_readNumber se_X2_readNumber (wl_rc (p0 := 38) (by decide) rfl rfl rfl) (k_rnumN M hT q1 d h51 _ hA1 _ hn1) dX2_readOut_8 (Nat.le_of_ble_eq_true rfl) ⟨Nat.le_of_ble_eq_true rfl, Nat.le_of_ble_eq_true rfl⟩ ⟨rfl, rfl⟩ ?_
    refine a_if_ne 16 B dX2_readOut_11 (by decide) (fun c11 => ?_) (fun c11 => ?_)
    · exact absurd rfl c11
    refine a_iconst (v := 0) B dX2_readOut_14 (by decide) ?_
    exact a_zret B hr hlk rfl dX2_readOut_15 (rP_r hT (by unfold outS; rw [hn1]) hA1 hI rfl)
  · obtain ⟨a, ha, ea⟩ := rnum_nn (m := 255) (by omega) hn1
    refine a_aload_n B dX2_readOut_4 rfl ?_
    refine a_sipush (v := 255) B dX2_readOut_5 (by decide) ?_
    refine a_callV1r B rfl cf_X2_readNumber lk_X2_63 in_X2_readNumber se_X2_readNumber (wl_rc (p0 := 38) (by decide) rfl rfl rfl) (k_rnumY M hT q1 d h51 _ hA1 _ x1 hn1) dX2_readOut_8 (Nat.le_of_ble_eq_true rfl) ⟨Nat.le_of_ble_eq_true rfl, Nat.le_of_ble_eq_true rfl⟩ ⟨rfl, rfl⟩ ?_
    obtain ⟨q2, hq2⟩ : ∃ q2, q2 = advD (tapB M) (upd q1 4 x1) (tokE (tapB M) (tokE (tapB M) e)) := ⟨_, rfl⟩
    have hA2 : AtE (tapB M) q2 (tokE (tapB M) (tokE (tapB M) e)) := by rw [hq2]; exact atE_adv (tok_le (tap_end hT) hA1.1).2.1
    have h52 : q2 5 = M 4 5 := by rw [hq2]; first | exact h5 | exact h51 | exact h52 | exact h53 | exact h54
    rw [← hq2]
    have hg2 : q2 4 = x1 := by rw [hq2]; rfl
    refine a_if_ne 16 B dX2_readOut_11 (by decide) (fun c11 => ?_) (fun c11 => ?_)
    · refine a_aload_n B dX2_readOut_16 rfl ?_
      refine a_aload_n B dX2_readOut_17 rfl ?_
      refine a_getI B fl_X2_31 (by decide) rfl rfl dX2_readOut_18 ?_
      rw [PM_4, hg2]
      refine a_putI B twC fl_X2_71 fp_0_2 (by decide) rfl rfl dX2_readOut_21 ?_
      refine a_iconst (v := 1) B dX2_readOut_24 (by decide) ?_
      rw [PM_u2]
      exact a_zret B hr hlk rfl dX2_readOut_25 (rP_l (by unfold outS; rw [hn1]) hA2 h52 (hI.up (j := 4) (Or.inl (by omega)) ea (fun _ _ => ha)) rfl)
    exact absurd c11 (by decide)
set_option maxRecDepth 20000 in
theorem k_X2_readTold (M : Mem) (hT : tapOk M) (q d : Dm) (h5 : q 5 = M 4 5) (e : Nat) (hA : AtE (tapB M) q e) (hI : Inv d) : CC l sk D cy A X mX2_readTold 3 [.ref (A 38), .ref (A (1 + 12 * 2))] (PM M q d) (rP M (tolS (tapB M) e d)) := by
  refine Con.of (lo := [some (.ref (A 38)), some (.ref (A (1 + 12 * 2))), none, none]) cf_X2_readTold (fun _ _ => wl_fst) 2 rfl (Nat.le_of_ble_eq_true rfl) (fun Pp Ee Ss Mm Aa Bb Me Cc A0 B hr hlk => ?_)
  have B : BS sk D cy (wl A cy 51 TC X) A0 Pp Ss Mm Aa Cc RX2 cX2_readTold 4 := B
  obtain ⟨q1, hq1⟩ : ∃ q1, q1 = advD (tapB M) q (tokE (tapB M) e) := ⟨_, rfl⟩
  have hA1 : AtE (tapB M) q1 (tokE (tapB M) e) := by rw [hq1]; exact atE_adv (tok_le (tap_end hT) hA.1).2.1
  have h51 : q1 5 = M 4 5 := by rw [hq1]; first | exact h5 | exact h51 | exact h52 | exact h53 | exact h54
  refine a_aload_n B dX2_readTold_0 rfl ?_
  refine a_callV0v B rfl cf_X2_advance lk_X2_34 in_X2_advance se_X2_advance (wl_rc (p0 := 38) (by decide) rfl rfl rfl) (k_adv M hT q d h5 e hA) dX2_readTold_1 (Nat.le_of_ble_eq_true rfl) ⟨Nat.le_of_ble_eq_true rfl, Nat.le_of_ble_eq_true rfl⟩ ⟨rfl, rfl⟩ ?_
  rw [← hq1]
  rcases hn1 : rnumS (tapB M) (tokE (tapB M) e) 5 with _ | x1
  · refine a_aload_n B dX2_readTold_4 rfl ?_
    refine a_iconst (v := 5) B dX2_readTold_5 (by decide) ?_
    refine a_callV1r B rfl cf_X2_readNumber lk_X2_63 in_X2_readNumber se_X2_readNumber (wl_rc (p0 := 38) (by decide) rfl rfl rfl) (k_rnumN M hT q1 d h51 _ hA1 _ hn1) dX2_readTold_6 (Nat.le_of_ble_eq_true rfl) ⟨Nat.le_of_ble_eq_true rfl, Nat.le_of_ble_eq_true rfl⟩ ⟨rfl, rfl⟩ ?_
    refine a_if_ne 14 B dX2_readTold_9 (by decide) (fun c9 => ?_) (fun c9 => ?_)
    · exact absurd rfl c9
    refine a_iconst (v := 0) B dX2_readTold_12 (by decide) ?_
    exact a_zret B hr hlk rfl dX2_readTold_13 (rP_r hT (by unfold tolS; simp only [hn1]) hA1 hI rfl)
  · obtain ⟨a, ha, ea⟩ := rnum_nn (m := 5) (by omega) hn1
    refine a_aload_n B dX2_readTold_4 rfl ?_
    refine a_iconst (v := 5) B dX2_readTold_5 (by decide) ?_
    refine a_callV1r B rfl cf_X2_readNumber lk_X2_63 in_X2_readNumber se_X2_readNumber (wl_rc (p0 := 38) (by decide) rfl rfl rfl) (k_rnumY M hT q1 d h51 _ hA1 _ x1 hn1) dX2_readTold_6 (Nat.le_of_ble_eq_true rfl) ⟨Nat.le_of_ble_eq_true rfl, Nat.le_of_ble_eq_true rfl⟩ ⟨rfl, rfl⟩ ?_
    obtain ⟨q2, hq2⟩ : ∃ q2, q2 = advD (tapB M) (upd q1 4 x1) (tokE (tapB M) (tokE (tapB M) e)) := ⟨_, rfl⟩
    have hA2 : AtE (tapB M) q2 (tokE (tapB M) (tokE (tapB M) e)) := by rw [hq2]; exact atE_adv (tok_le (tap_end hT) hA1.1).2.1
    have h52 : q2 5 = M 4 5 := by rw [hq2]; first | exact h5 | exact h51 | exact h52 | exact h53 | exact h54
    rw [← hq2]
    have hg2 : q2 4 = x1 := by rw [hq2]; rfl
    refine a_if_ne 14 B dX2_readTold_9 (by decide) (fun c9 => ?_) (fun c9 => ?_)
    · refine a_aload_n B dX2_readTold_14 rfl ?_
      refine a_getI B fl_X2_31 (by decide) rfl rfl dX2_readTold_15 ?_
      rw [PM_4, hg2]
      refine p_istore2 B dX2_readTold_18 (by decide) (k := ?_)
      rcases hn2 : rnumS (tapB M) (tokE (tapB M) (tokE (tapB M) e)) 7 with _ | x2
      · refine a_aload_n B dX2_readTold_19 rfl ?_
        refine a_bipush (v := 7) B dX2_readTold_20 (by decide) ?_
        refine a_callV1r B rfl cf_X2_readNumber lk_X2_63 in_X2_readNumber se_X2_readNumber (wl_rc (p0 := 38) (by decide) rfl rfl rfl) (k_rnumN M hT q2 d h52 _ hA2 _ hn2) dX2_readTold_22 (Nat.le_of_ble_eq_true rfl) ⟨Nat.le_of_ble_eq_true rfl, Nat.le_of_ble_eq_true rfl⟩ ⟨rfl, rfl⟩ ?_
        refine a_if_ne 30 B dX2_readTold_25 (by decide) (fun c25 => ?_) (fun c25 => ?_)
        · exact absurd rfl c25
        refine a_iconst (v := 0) B dX2_readTold_28 (by decide) ?_
        exact a_zret B hr hlk rfl dX2_readTold_29 (rP_r hT (by unfold tolS; simp only [hn1, hn2]) hA2 hI rfl)
      · obtain ⟨b, hb, eb⟩ := rnum_nn (m := 7) (by omega) hn2
        refine a_aload_n B dX2_readTold_19 rfl ?_
        refine a_bipush (v := 7) B dX2_readTold_20 (by decide) ?_
        refine a_callV1r B rfl cf_X2_readNumber lk_X2_63 in_X2_readNumber se_X2_readNumber (wl_rc (p0 := 38) (by decide) rfl rfl rfl) (k_rnumY M hT q2 d h52 _ hA2 _ x2 hn2) dX2_readTold_22 (Nat.le_of_ble_eq_true rfl) ⟨Nat.le_of_ble_eq_true rfl, Nat.le_of_ble_eq_true rfl⟩ ⟨rfl, rfl⟩ ?_
        obtain ⟨q3, hq3⟩ : ∃ q3, q3 = advD (tapB M) (upd q2 4 x2) (tokE (tapB M) (tokE (tapB M) (tokE (tapB M) e))) := ⟨_, rfl⟩
        have hA3 : AtE (tapB M) q3 (tokE (tapB M) (tokE (tapB M) (tokE (tapB M) e))) := by rw [hq3]; exact atE_adv (tok_le (tap_end hT) hA2.1).2.1
        have h53 : q3 5 = M 4 5 := by rw [hq3]; first | exact h5 | exact h51 | exact h52 | exact h53 | exact h54
        rw [← hq3]
        have hg3 : q3 4 = x2 := by rw [hq3]; rfl
        refine a_if_ne 30 B dX2_readTold_25 (by decide) (fun c25 => ?_) (fun c25 => ?_)
        · refine a_aload_n B dX2_readTold_30 rfl ?_
          refine a_getI B fl_X2_31 (by decide) rfl rfl dX2_readTold_31 ?_
          rw [PM_4, hg3]
          refine p_istore3 B dX2_readTold_34 (by decide) (k := ?_)
          rcases hn3 : rnumS (tapB M) (tokE (tapB M) (tokE (tapB M) (tokE (tapB M) e))) 40 with _ | x3
          · refine a_aload_n B dX2_readTold_35 rfl ?_
            refine a_bipush (v := 40) B dX2_readTold_36 (by decide) ?_
            refine a_callV1r B rfl cf_X2_readNumber lk_X2_63 in_X2_readNumber se_X2_readNumber (wl_rc (p0 := 38) (by decide) rfl rfl rfl) (k_rnumN M hT q3 d h53 _ hA3 _ hn3) dX2_readTold_38 (Nat.le_of_ble_eq_true rfl) ⟨Nat.le_of_ble_eq_true rfl, Nat.le_of_ble_eq_true rfl⟩ ⟨rfl, rfl⟩ ?_
            refine a_if_eq 52 B dX2_readTold_41 (by decide) (fun c41 => ?_) (fun c41 => ?_)
            · refine a_iconst (v := 0) B dX2_readTold_52 (by decide) ?_
              exact a_zret B hr hlk rfl dX2_readTold_53 (rP_r hT (by unfold tolS; simp only [hn1, hn2, hn3]) hA3 hI rfl)
            exact absurd rfl c41
          · obtain ⟨c, hc, ec⟩ := rnum_nn (m := 40) (by omega) hn3
            refine a_aload_n B dX2_readTold_35 rfl ?_
            refine a_bipush (v := 40) B dX2_readTold_36 (by decide) ?_
            refine a_callV1r B rfl cf_X2_readNumber lk_X2_63 in_X2_readNumber se_X2_readNumber (wl_rc (p0 := 38) (by decide) rfl rfl rfl) (k_rnumY M hT q3 d h53 _ hA3 _ x3 hn3) dX2_readTold_38 (Nat.le_of_ble_eq_true rfl) ⟨Nat.le_of_ble_eq_true rfl, Nat.le_of_ble_eq_true rfl⟩ ⟨rfl, rfl⟩ ?_
            obtain ⟨q4, hq4⟩ : ∃ q4, q4 = advD (tapB M) (upd q3 4 x3) (tokE (tapB M) (tokE (tapB M) (tokE (tapB M) (tokE (tapB M) e)))) := ⟨_, rfl⟩
            have hA4 : AtE (tapB M) q4 (tokE (tapB M) (tokE (tapB M) (tokE (tapB M) (tokE (tapB M) e)))) := by rw [hq4]; exact atE_adv (tok_le (tap_end hT) hA3.1).2.1
            have h54 : q4 5 = M 4 5 := by rw [hq4]; first | exact h5 | exact h51 | exact h52 | exact h53 | exact h54
            rw [← hq4]
            have hg4 : q4 4 = x3 := by rw [hq4]; rfl
            refine a_if_eq 52 B dX2_readTold_41 (by decide) (fun c41 => ?_) (fun c41 => ?_)
            · exact absurd c41 (by decide)
            refine a_iload_n B dX2_readTold_44 rfl ?_
            refine a_iconst (v := 5) B dX2_readTold_45 (by decide) ?_
            refine a_callSN2r B rfl cf_X6_within ln_X2_73 st_X6_within (k_X6_within _ _ _) dX2_readTold_46 (Nat.le_of_ble_eq_true rfl) ⟨Nat.le_of_ble_eq_true rfl, Nat.le_of_ble_eq_true rfl⟩ ⟨rfl, rfl⟩ ?_
            skip
            refine a_if_ne 54 B dX2_readTold_49 (by decide) (fun c49 => ?_) (fun c49 => ?_)
            · refine a_aload_n B dX2_readTold_54 rfl ?_
              refine a_getR B fl_X2_77 (by decide) rfl rfl dX2_readTold_55 ?_
              refine a_iload_n B dX2_readTold_58 rfl ?_
              refine a_iload_n B dX2_readTold_59 rfl ?_
              refine a_aload_n B dX2_readTold_60 rfl ?_
              refine a_getI B fl_X2_31 (by decide) rfl rfl dX2_readTold_61 ?_
              rw [PM_4, hg4]
              refine a_callSN2r B rfl cf_X6_confessionOf ln_X2_81 st_X6_confessionOf (k_X6_confessionOf _ _ _) dX2_readTold_64 (Nat.le_of_ble_eq_true rfl) ⟨Nat.le_of_ble_eq_true rfl, Nat.le_of_ble_eq_true rfl⟩ ⟨rfl, rfl⟩ ?_
              rw [ea]
              refine a_iast a B twC (by decide) rfl rfl (by omega) (by decide) dX2_readTold_67 ?_
              refine a_iconst (v := 1) B dX2_readTold_68 (by decide) ?_
              rw [PM_u2]
              exact a_zret B hr hlk rfl dX2_readTold_69 (rP_l (by unfold tolS; simp only [hn1, hn2, hn3]; rw [ea, nn_nI (by omega)]) hA4 h54 (hI.upl (n := 100 * b + c) (by omega) (by rw [eb, ec, show (100 : Int32) = nI 100 from rfl, pk_mul, nI_add]) (by omega) (by omega)) rfl)
            exact absurd c49 (by rw [ea, show (5 : Int32) = nI 5 from rfl, wi_in (by omega) (by omega)]; simp [bI, ha])
        exact absurd c25 (by decide)
    exact absurd c9 (by decide)
end C18
