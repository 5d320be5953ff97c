section C19

def rT (M : Mem) (x : Int32 × Option Dm) : Option Value → Mem → Prop := fun v M' => v = some (.int x.1) ∧ ∃ q' d', Inv d' ∧ M' = PM M q' d' ∧ ((x.2 = none ∧ x.1 < 0) ∨ (x.2 = some d' ∧ 0 < x.1))
theorem rT_r {M M' : Mem} {x : Int32 × Option Dm} {s : Nat} {q' d' : Dm} (hx : x = (-1 - nI s, none)) (hs : s ≤ 120) (hd : Inv d') (hM : M' = PM M q' d') {r : Int32} (hr : r = -1 - nI s) : rT M x (some (.int r)) M' := by
  subst hx; subst hr
  refine ⟨rfl, q', d', hd, hM, Or.inl ⟨rfl, ?_⟩⟩
  have : ∀ s : Fin 121, (-1 : Int32) - nI s.val < 0 := by decide
  exact this ⟨s, by omega⟩
theorem rT_l {M M' : Mem} {x : Int32 × Option Dm} {n : Nat} {q' d' : Dm} (hx : x = (nI n, some d')) (hn : 1 ≤ n) (hn2 : n ≤ 120) (hd : Inv d') (hM : M' = PM M q' d') : rT M x (some (.int (nI n))) M' := by
  subst hx
  exact ⟨rfl, q', d', hd, hM, Or.inr ⟨rfl, nI_lt (a := 0) (by omega) (by omega)⟩⟩
theorem kin_lt {g : Nat → Int32} {e k : Nat} (h : kinS g e = some k) : k < 7 := fst_lt _ _ h

variable {l : Launch} {sk : (Nat → Nat) × (Nat → Nat)} {D : va_G} {cy : Nat → ClassId} {A : Nat → Nat} {X : va_W}
set_option maxRecDepth 20000 in
theorem k_X2_readPriest (M : Mem) (hT : tapOk M) (q d : Dm) (h5 : q 5 = M 4 5) (e : Nat) (hA : AtE (tapB M) q e) (hI : Inv d) : CC l sk D cy A X mX2_readPriest 6 [.ref (A 38), .ref (A (1 + 12 * 2))] (PM M q d) (rP M (priS (tapB M) e d)) := by
  refine Con.of (lo := [some (.ref (A 38)), some (.ref (A (1 + 12 * 2))), none, none]) cf_X2_readPriest (fun _ _ => wl_fst) 2 rfl (Nat.le_of_ble_eq_true rfl) (fun Pp Ee Ss Mm Aa Bb Me Cc A0 B hr hlk => ?_)
  have B : BS sk D cy (wl A cy 51 TC X) A0 Pp Ss Mm Aa Cc RX2 cX2_readPriest 4 := B
  obtain ⟨q1, hq1⟩ : ∃ q1, q1 = advD (tapB M) q (tokE (tapB M) e) := ⟨_, rfl⟩
  have hA1 : AtE (tapB M) q1 (tokE (tapB M) e) := by rw [hq1]; exact atE_adv (tok_le (tap_end hT) hA.1).2.1
  have h51 : q1 5 = M 4 5 := by rw [hq1]; first | exact h5 | exact h51 | exact h52 | exact h53 | exact h54
  refine a_aload_n B dX2_readPriest_0 rfl ?_
  refine a_callV0r B rfl cf_X2_kindAtHand lk_X2_85 in_X2_kindAtHand se_X2_kindAtHand (wl_rc (p0 := 38) (by decide) rfl rfl rfl) (k_X2_kindAtHand M hT q d h5 e hA) dX2_readPriest_1 (Nat.le_of_ble_eq_true rfl) ⟨Nat.le_of_ble_eq_true rfl, Nat.le_of_ble_eq_true rfl⟩ ⟨rfl, rfl⟩ ?_
  refine p_istore2 B dX2_readPriest_4 (by decide) (k := ?_)
  rcases hk : kinS (tapB M) e with _ | k
  · refine a_iload_n B dX2_readPriest_5 rfl ?_
    refine a_if_ge 13 B dX2_readPriest_6 (by decide) (fun c6 => ?_) (fun c6 => ?_)
    · exact absurd c6 (by decide)
    refine a_null B dX2_readPriest_9 ?_
    refine a_goto 25 B dX2_readPriest_10 (by decide) ?_
    refine p_astoreN3 B dX2_readPriest_25 (by decide) (k := ?_)
    refine a_aload_nN B dX2_readPriest_26 rfl ?_
    refine a_ifnonnullN B dX2_readPriest_27 ?_
    refine a_iconst (v := 0) B dX2_readPriest_30 (by decide) ?_
    exact a_zret B hr hlk rfl dX2_readPriest_31 (rP_r hT (by unfold priS; rw [hk]) hA hI rfl)
  · have hk7 := kin_lt hk
    have hok : oI (some k) = nI k := rfl
    rw [hok]
    refine a_iload_n B dX2_readPriest_5 rfl ?_
    refine a_if_ge 13 B dX2_readPriest_6 (by decide) (fun c6 => ?_) (fun c6 => ?_)
    · refine a_aload_n B dX2_readPriest_13 rfl ?_
      refine a_aload_n B dX2_readPriest_14 rfl ?_
      refine a_iload_n B dX2_readPriest_15 rfl ?_
      refine a_sipush (v := 255) B dX2_readPriest_16 (by decide) ?_
      refine a_callV2r B rfl cf_X0_welcome lk_X2_89 in_X0_welcome se_X0_welcome (wl_rc (p0 := 1 + 12 * 2) (by decide) rfl rfl rfl) (k_X0_welcome 2 (by decide) _ _ _ (by rw [PM_2]; exact hI)) dX2_readPriest_19 (Nat.le_of_ble_eq_true rfl) ⟨Nat.le_of_ble_eq_true rfl, Nat.le_of_ble_eq_true rfl⟩ ⟨rfl, rfl⟩ ?_
      rw [PM_2, PM_s2]
      by_cases h8 : d 0 < 8
      · obtain ⟨hp, hd0, hIw, hw0⟩ := wel_inv (kind := nI k) (sins := 255) hI h8 ⟨k, by omega, rfl⟩ ⟨255, by omega, rfl⟩
        have hX : priS (tapB M) e d = pr2 (perS (tapB M) (tokE (tapB M) e) (welF d (nI k) 255) 10 (nOf d) 2) (fun e2 d2 => pr2 (perS (tapB M) e2 d2 11 (nOf d) 3) (fun e3 d3 => perS (tapB M) e3 d3 12 (nOf d) 1)) := by unfold priS; rw [hk]; simp only [if_pos h8]
        rw [show welV d = nI (nOf d) by unfold welV; rw [if_pos h8]; exact hd0]
        refine a_callV1r B rfl cf_X0_at lk_X2_92 in_X0_at se_X0_at (wl_rc (p0 := 1 + 12 * 2) (by decide) rfl rfl rfl) (k_X0_at 2 (nOf d) (by decide) hp _ (by rw [PM_2, hw0]; exact nI_lt (by omega) (by omega))) dX2_readPriest_22 (Nat.le_of_ble_eq_true rfl) ⟨Nat.le_of_ble_eq_true rfl, Nat.le_of_ble_eq_true rfl⟩ ⟨rfl, rfl⟩ ?_
        refine p_astore3 B dX2_readPriest_25 (by decide) (k := ?_)
        refine a_aload_n B dX2_readPriest_26 rfl ?_
        refine a_ifnonnull 32 B dX2_readPriest_27 (by decide) ?_
        refine a_aload_n B dX2_readPriest_32 rfl ?_
        refine a_callV0v B rfl cf_X2_advance lk_X2_34 in_X2_advance se_X2_advance (wl_rc (p0 := 38) (by decide) rfl rfl rfl) (k_adv M hT q _ h5 e hA) dX2_readPriest_33 (Nat.le_of_ble_eq_true rfl) ⟨Nat.le_of_ble_eq_true rfl, Nat.le_of_ble_eq_true rfl⟩ ⟨rfl, rfl⟩ ?_
        rw [← hq1]
        refine a_aload_n B dX2_readPriest_36 rfl ?_
        refine a_ldcS 10 B (by decide) rfl dX2_readPriest_37 ?_
        refine a_aload_n B dX2_readPriest_39 rfl ?_
        refine a_iconst (v := 2) B dX2_readPriest_40 (by decide) ?_
        refine a_callV3p B rfl cf_X2_readPerhaps lk_X2_100 in_X2_readPerhaps se_X2_readPerhaps (wl_rc (p0 := 38) (by decide) rfl rfl rfl) (k_X2_readPerhaps M hT q1 (welF d (nI k) 255) h51 (tokE (tapB M) e) hA1 hIw 10 (by decide) (nOf d) hp 2 (by decide)) dX2_readPriest_41 (Nat.le_of_ble_eq_true rfl) ⟨Nat.le_of_ble_eq_true rfl, Nat.le_of_ble_eq_true rfl⟩ ⟨rfl, rfl⟩ ?_
        rintro v9 M9 hp9
        rcases hx2 : perS (tapB M) (tokE (tapB M) e) (welF d (nI k) 255) 10 (nOf d) 2 with ⟨e2, d2⟩ | s2
        · rw [hx2] at hp9
          obtain ⟨rfl, q2, hA2, h52, hI2, rfl⟩ := hp9
          show AW Pp l Ee _ Ss Mm Aa Bb Me Cc D _ A0 _ 0 0 _ _ _ (_ :: _) _
          refine a_if_eq 73 B dX2_readPriest_44 (by decide) (fun c44 => ?_) (fun c44 => ?_)
          · exact absurd c44 (by decide)
          refine a_aload_n B dX2_readPriest_47 rfl ?_
          refine a_ldcS 11 B (by decide) rfl dX2_readPriest_48 ?_
          refine a_aload_n B dX2_readPriest_50 rfl ?_
          refine a_iconst (v := 3) B dX2_readPriest_51 (by decide) ?_
          refine a_callV3p B rfl cf_X2_readPerhaps lk_X2_100 in_X2_readPerhaps se_X2_readPerhaps (wl_rc (p0 := 38) (by decide) rfl rfl rfl) (k_X2_readPerhaps M hT q2 d2 h52 e2 hA2 hI2 11 (by decide) (nOf d) hp 3 (by decide)) dX2_readPriest_52 (Nat.le_of_ble_eq_true rfl) ⟨Nat.le_of_ble_eq_true rfl, Nat.le_of_ble_eq_true rfl⟩ ⟨rfl, rfl⟩ ?_
          rintro v9 M9 hp9
          rcases hx3 : perS (tapB M) e2 d2 11 (nOf d) 3 with ⟨e3, d3⟩ | s3
          · rw [hx3] at hp9
            obtain ⟨rfl, q3, hA3, h53, hI3, rfl⟩ := hp9
            show AW Pp l Ee _ Ss Mm Aa Bb Me Cc D _ A0 _ 0 0 _ _ _ (_ :: _) _
            refine a_if_eq 73 B dX2_readPriest_55 (by decide) (fun c55 => ?_) (fun c55 => ?_)
            · exact absurd c55 (by decide)
            refine a_aload_n B dX2_readPriest_58 rfl ?_
            refine a_ldcS 12 B (by decide) rfl dX2_readPriest_59 ?_
            refine a_aload_n B dX2_readPriest_61 rfl ?_
            refine a_iconst (v := 1) B dX2_readPriest_62 (by decide) ?_
            refine a_callV3p B rfl cf_X2_readPerhaps lk_X2_100 in_X2_readPerhaps se_X2_readPerhaps (wl_rc (p0 := 38) (by decide) rfl rfl rfl) (k_X2_readPerhaps M hT q3 d3 h53 e3 hA3 hI3 12 (by decide) (nOf d) hp 1 (by decide)) dX2_readPriest_63 (Nat.le_of_ble_eq_true rfl) ⟨Nat.le_of_ble_eq_true rfl, Nat.le_of_ble_eq_true rfl⟩ ⟨rfl, rfl⟩ ?_
            rintro v9 M9 hp9
            rcases hx4 : perS (tapB M) e3 d3 12 (nOf d) 1 with ⟨e4, d4⟩ | s4
            · rw [hx4] at hp9
              obtain ⟨rfl, q4, hA4, h54, hI4, rfl⟩ := hp9
              show AW Pp l Ee _ Ss Mm Aa Bb Me Cc D _ A0 _ 0 0 _ _ _ (_ :: _) _
              refine a_if_eq 73 B dX2_readPriest_66 (by decide) (fun c66 => ?_) (fun c66 => ?_)
              · exact absurd c66 (by decide)
              refine a_iconst (v := 1) B dX2_readPriest_69 (by decide) ?_
              refine a_goto 74 B dX2_readPriest_70 (by decide) ?_
              exact a_zret B hr hlk rfl dX2_readPriest_74 (rP_l (by rw [hX]; simp only [pr2, hx2, hx3, hx4]) hA4 h54 hI4 rfl)
            · rw [hx4] at hp9
              obtain ⟨rfl, hs9, q4, d4, hq9, hI4, rfl⟩ := hp9
              show AW Pp l Ee _ Ss Mm Aa Bb Me Cc D _ A0 _ 0 0 _ _ _ (_ :: _) _
              refine a_if_eq 73 B dX2_readPriest_66 (by decide) (fun c66 => ?_) (fun c66 => ?_)
              · refine a_iconst (v := 0) B dX2_readPriest_73 (by decide) ?_
                exact a_zret B hr hlk rfl dX2_readPriest_74 (by rw [hX]; simp only [pr2, hx2, hx3, hx4]; exact ⟨rfl, hs9, q4, d4, hq9, hI4, rfl⟩)
              exact absurd rfl c66
          · rw [hx3] at hp9
            obtain ⟨rfl, hs9, q3, d3, hq9, hI3, rfl⟩ := hp9
            show AW Pp l Ee _ Ss Mm Aa Bb Me Cc D _ A0 _ 0 0 _ _ _ (_ :: _) _
            refine a_if_eq 73 B dX2_readPriest_55 (by decide) (fun c55 => ?_) (fun c55 => ?_)
            · refine a_iconst (v := 0) B dX2_readPriest_73 (by decide) ?_
              exact a_zret B hr hlk rfl dX2_readPriest_74 (by rw [hX]; simp only [pr2, hx2, hx3]; exact ⟨rfl, hs9, q3, d3, hq9, hI3, rfl⟩)
            exact absurd rfl c55
        · rw [hx2] at hp9
          obtain ⟨rfl, hs9, q2, d2, hq9, hI2, rfl⟩ := hp9
          show AW Pp l Ee _ Ss Mm Aa Bb Me Cc D _ A0 _ 0 0 _ _ _ (_ :: _) _
          refine a_if_eq 73 B dX2_readPriest_44 (by decide) (fun c44 => ?_) (fun c44 => ?_)
          · refine a_iconst (v := 0) B dX2_readPriest_73 (by decide) ?_
            exact a_zret B hr hlk rfl dX2_readPriest_74 (by rw [hX]; simp only [pr2, hx2]; exact ⟨rfl, hs9, q2, d2, hq9, hI2, rfl⟩)
          exact absurd rfl c44
      · rw [show welV d = -1 by unfold welV; rw [if_neg h8]]
        refine a_callV1r B rfl cf_X0_at lk_X2_92 in_X0_at se_X0_at (wl_rc (p0 := 1 + 12 * 2) (by decide) rfl rfl rfl) (k_X0_atN 2 (by decide) _ _ (Or.inl (by decide))) dX2_readPriest_22 (Nat.le_of_ble_eq_true rfl) ⟨Nat.le_of_ble_eq_true rfl, Nat.le_of_ble_eq_true rfl⟩ ⟨rfl, rfl⟩ ?_
        refine p_astoreN3 B dX2_readPriest_25 (by decide) (k := ?_)
        refine a_aload_nN B dX2_readPriest_26 rfl ?_
        refine a_ifnonnullN B dX2_readPriest_27 ?_
        refine a_iconst (v := 0) B dX2_readPriest_30 (by decide) ?_
        exact a_zret B hr hlk rfl dX2_readPriest_31 (rP_r hT (by unfold priS; rw [hk]; simp only [if_neg h8]) hA (by unfold welF; rw [if_neg h8]; exact hI) rfl)
    exact absurd (nI_pos' (by omega)) c6
set_option maxRecDepth 20000 in
theorem k_X2_readItem (M : Mem) (hT : tapOk M) (q d : Dm) (h5 : q 5 = M 4 5) (e : Nat) (hA : AtE (tapB M) q e) (hI : Inv d) : CC l sk D cy A X mX2_readItem 7 [.ref (A 38), .ref (A (1 + 12 * 2))] (PM M q d) (rP M (iteS (tapB M) e d)) := by
  refine Con.of (lo := [some (.ref (A 38)), some (.ref (A (1 + 12 * 2)))]) cf_X2_readItem (fun _ _ => wl_fst) 0 rfl (Nat.le_of_ble_eq_true rfl) (fun Pp Ee Ss Mm Aa Bb Me Cc A0 B hr hlk => ?_)
  have B : BS sk D cy (wl A cy 51 TC X) A0 Pp Ss Mm Aa Cc RX2 cX2_readItem 2 := B
  refine a_aload_n B dX2_readItem_0 rfl ?_
  refine a_ldcS 0 B (by decide) rfl dX2_readItem_1 ?_
  refine a_callV1r B rfl cf_X2_isWord lk_X2_43 in_X2_isWord se_X2_isWord (wl_rc (p0 := 38) (by decide) rfl rfl rfl) (k_isWord M hT q d h5 e hA 0 (by decide)) dX2_readItem_3 (Nat.le_of_ble_eq_true rfl) ⟨Nat.le_of_ble_eq_true rfl, Nat.le_of_ble_eq_true rfl⟩ ⟨rfl, rfl⟩ ?_
  refine a_if_eq 15 B dX2_readItem_6 (by decide) (fun c6 => ?_) (fun c6 => ?_)
  · have c6 := bI_eq0.mp c6
    refine a_aload_n B dX2_readItem_15 rfl ?_
    refine a_ldcS 1 B (by decide) rfl dX2_readItem_16 ?_
    refine a_callV1r B rfl cf_X2_isWord lk_X2_43 in_X2_isWord se_X2_isWord (wl_rc (p0 := 38) (by decide) rfl rfl rfl) (k_isWord M hT q d h5 e hA 1 (by decide)) dX2_readItem_18 (Nat.le_of_ble_eq_true rfl) ⟨Nat.le_of_ble_eq_true rfl, Nat.le_of_ble_eq_true rfl⟩ ⟨rfl, rfl⟩ ?_
    refine a_if_eq 30 B dX2_readItem_21 (by decide) (fun c21 => ?_) (fun c21 => ?_)
    · have c21 := bI_eq0.mp c21
      refine a_aload_n B dX2_readItem_30 rfl ?_
      refine a_ldcS 2 B (by decide) rfl dX2_readItem_31 ?_
      refine a_callV1r B rfl cf_X2_isWord lk_X2_43 in_X2_isWord se_X2_isWord (wl_rc (p0 := 38) (by decide) rfl rfl rfl) (k_isWord M hT q d h5 e hA 2 (by decide)) dX2_readItem_33 (Nat.le_of_ble_eq_true rfl) ⟨Nat.le_of_ble_eq_true rfl, Nat.le_of_ble_eq_true rfl⟩ ⟨rfl, rfl⟩ ?_
      refine a_if_eq 47 B dX2_readItem_36 (by decide) (fun c36 => ?_) (fun c36 => ?_)
      · have c36 := bI_eq0.mp c36
        refine a_aload_n B dX2_readItem_47 rfl ?_
        refine a_aload_n B dX2_readItem_48 rfl ?_
        refine a_callV1p B rfl cf_X2_readPriest lk_X2_60 in_X2_readPriest se_X2_readPriest (wl_rc (p0 := 38) (by decide) rfl rfl rfl) (k_X2_readPriest M hT q d h5 e hA hI) dX2_readItem_49 (Nat.le_of_ble_eq_true rfl) ⟨Nat.le_of_ble_eq_true rfl, Nat.le_of_ble_eq_true rfl⟩ ⟨rfl, rfl⟩ ?_
        rintro v9 M9 hp9
        obtain ⟨b, rfl⟩ := rP_v hp9
        show AW Pp l Ee _ Ss Mm Aa Bb Me Cc D _ A0 _ 0 0 _ _ _ (_ :: _) _
        exact a_zret B hr hlk (nar_b b) dX2_readItem_52 (by unfold iteS; rw [if_neg (by rw [c6]; decide), if_neg (by rw [c21]; decide), if_neg (by rw [c36]; decide)]; exact hp9)
      have c36 := bI_ne0.mp c36
      refine a_aload_n B dX2_readItem_39 rfl ?_
      refine a_aload_n B dX2_readItem_40 rfl ?_
      refine a_callV1p B rfl cf_X2_readOut lk_X2_57 in_X2_readOut se_X2_readOut (wl_rc (p0 := 38) (by decide) rfl rfl rfl) (k_X2_readOut M hT q d h5 e hA hI) dX2_readItem_41 (Nat.le_of_ble_eq_true rfl) ⟨Nat.le_of_ble_eq_true rfl, Nat.le_of_ble_eq_true rfl⟩ ⟨rfl, rfl⟩ ?_
      rintro v9 M9 hp9
      obtain ⟨b, rfl⟩ := rP_v hp9
      show AW Pp l Ee _ Ss Mm Aa Bb Me Cc D _ A0 _ 0 0 _ _ _ (_ :: _) _
      refine a_goto 52 B dX2_readItem_44 (by decide) ?_
      exact a_zret B hr hlk (nar_b b) dX2_readItem_52 (by unfold iteS; rw [if_neg (by rw [c6]; decide), if_neg (by rw [c21]; decide), if_pos c36]; exact hp9)
    have c21 := bI_ne0.mp c21
    refine a_aload_n B dX2_readItem_24 rfl ?_
    refine a_aload_n B dX2_readItem_25 rfl ?_
    refine a_callV1p B rfl cf_X2_readWater lk_X2_52 in_X2_readWater se_X2_readWater (wl_rc (p0 := 38) (by decide) rfl rfl rfl) (k_X2_readWater M hT q d h5 e hA hI) dX2_readItem_26 (Nat.le_of_ble_eq_true rfl) ⟨Nat.le_of_ble_eq_true rfl, Nat.le_of_ble_eq_true rfl⟩ ⟨rfl, rfl⟩ ?_
    rintro v9 M9 hp9
    obtain ⟨b, rfl⟩ := rP_v hp9
    show AW Pp l Ee _ Ss Mm Aa Bb Me Cc D _ A0 _ 0 0 _ _ _ (_ :: _) _
    exact a_zret B hr hlk (nar_b b) dX2_readItem_29 (by unfold iteS; rw [if_neg (by rw [c6]; decide), if_pos c21]; exact hp9)
  have c6 := bI_ne0.mp c6
  refine a_aload_n B dX2_readItem_9 rfl ?_
  refine a_aload_n B dX2_readItem_10 rfl ?_
  refine a_callV1p B rfl cf_X2_readTold lk_X2_47 in_X2_readTold se_X2_readTold (wl_rc (p0 := 38) (by decide) rfl rfl rfl) (k_X2_readTold M hT q d h5 e hA hI) dX2_readItem_11 (Nat.le_of_ble_eq_true rfl) ⟨Nat.le_of_ble_eq_true rfl, Nat.le_of_ble_eq_true rfl⟩ ⟨rfl, rfl⟩ ?_
  rintro v9 M9 hp9
  obtain ⟨b, rfl⟩ := rP_v hp9
  show AW Pp l Ee _ Ss Mm Aa Bb Me Cc D _ A0 _ 0 0 _ _ _ (_ :: _) _
  exact a_zret B hr hlk (nar_b b) dX2_readItem_14 (by unfold iteS; rw [if_pos c6]; exact hp9)
theorem k_adv0 (M : Mem) (hT : tapOk M) (q d : Dm) (h5 : q 5 = M 4 5) (h2 : q 2 = nI 0) : CC l sk D cy A X mX2_advance 1 [.ref (A 38)] (PM M q d) (rV (PM M (advD (tapB M) q 0) d)) := by
  have h := k_X2_advance (l := l) (sk := sk) (D := D) (cy := cy) (A := A) (X := X) (PM M q d) 0 (by omega) (PM_ok hT h5) (by rw [PM_4]; exact h2)
  rw [PM_t h5, PM_4, PM_s4] at h
  exact h
set_option maxRecDepth 20000 in
set_option maxHeartbeats 4000000 in
theorem k_X2_readInto (M : Mem) (hT : tapOk M) (q d : Dm) (h5 : q 5 = M 4 5) (hI : Inv d) : CC l sk D cy A X mX2_readInto 8 [.ref (A 38), .ref (A (1 + 12 * 2))] (PM M q d) (rT M (itsS (tapB M) 120 0 d 1)) := by
  refine Con.of (lo := [some (.ref (A 38)), some (.ref (A (1 + 12 * 2))), none]) cf_X2_readInto (fun _ _ => wl_fst) 1 rfl (Nat.le_of_ble_eq_true rfl) (fun Pp Ee Ss Mm Aa Bb Me Cc A0 B hr hlk => ?_)
  have B : BS sk D cy (wl A cy 51 TC X) A0 Pp Ss Mm Aa Cc RX2 cX2_readInto 3 := B
  obtain ⟨X0, hX0⟩ : ∃ X0, X0 = itsS (tapB M) 120 0 d 1 := ⟨_, rfl⟩
  rw [← hX0]
  have loop : ∀ f n e d q, n + f = 121 → 1 ≤ n → q 5 = M 4 5 → AtE (tapB M) q e → Inv d → itsS (tapB M) f e d n = X0 → AW Pp l Ee (rmK 8 (34 * 8)) Ss Mm Aa Bb Me Cc D (wl A cy 51 TC X) A0 3 0 0 (MQ Bb (QG D (wl A cy 51 TC X) A0 (rT M X0)) Aa Ss 0 0 A0) 11 [some (.ref (A 38)), some (.ref (A (1 + 12 * 2))), some (.int (nI n))] [] (PM M q d) := by
    intro f
    induction f with
    | zero =>
      intro n e d q hnf hn1 h5 hA hI hX
      have hz : n = 121 := by omega
      subst hz
      refine a_iload_n B dX2_readInto_11 rfl ?_
      refine a_bipush (v := 120) B dX2_readInto_12 (by decide) ?_
      refine a_icmp_gt 66 B dX2_readInto_14 (by decide) (fun c14 => ?_) (fun c14 => ?_)
      · refine a_iconst (v := (-1)) B dX2_readInto_66 (by decide) ?_
        refine a_aload_n B dX2_readInto_67 rfl ?_
        refine a_getI B fl_X2_22 (by decide) rfl rfl dX2_readInto_68 ?_
        refine a_isub B dX2_readInto_71 ?_
        exact a_iret B hr hlk dX2_readInto_72 (rT_r (s := tokS (tapB M) e) (by rw [← hX]; rfl) (by have := tok_le (tap_end hT) hA.1; omega) hI rfl (by rw [PM_4, hA.2.2.1]))
      exact absurd (nI_lt (a := 120) (b := 121) (by omega) (by omega)) c14
    | succ f ih =>
      intro n e d q hnf hn1 h5 hA hI hX
      rw [itsS] at hX
      refine a_iload_n B dX2_readInto_11 rfl ?_
      refine a_bipush (v := 120) B dX2_readInto_12 (by decide) ?_
      refine a_icmp_gt 66 B dX2_readInto_14 (by decide) (fun c14 => ?_) (fun c14 => ?_)
      · exact absurd ((nI_ltI (a := 120) (by omega) (by omega)).mp c14) (by omega)
      have hn120 : n ≤ 120 := by omega
      refine a_aload_n B dX2_readInto_17 rfl ?_
      refine a_aload_n B dX2_readInto_18 rfl ?_
      refine a_callV1p B rfl cf_X2_readItem lk_X2_37 in_X2_readItem se_X2_readItem (wl_rc (p0 := 38) (by decide) rfl rfl rfl) (k_X2_readItem M hT q d h5 e hA hI) dX2_readInto_19 (Nat.le_of_ble_eq_true rfl) ⟨Nat.le_of_ble_eq_true rfl, Nat.le_of_ble_eq_true rfl⟩ ⟨rfl, rfl⟩ ?_
      rintro v9 M9 hp9
      rcases hx : iteS (tapB M) e d with ⟨e1, d1⟩ | s1
      · rw [hx] at hp9 hX
        obtain ⟨rfl, q1, hA1, h51, hI1, rfl⟩ := hp9
        show AW Pp l Ee _ Ss Mm Aa Bb Me Cc D _ A0 _ 0 0 _ _ _ (_ :: _) _
        refine a_if_ne 32 B dX2_readInto_22 (by decide) (fun c22 => ?_) (fun c22 => ?_)
        · refine a_aload_n B dX2_readInto_32 rfl ?_
          refine a_getI B fl_X2_18 (by decide) rfl rfl dX2_readInto_33 ?_
          rw [PM_4, hA1.2.1]
          refine a_if_ne 41 B dX2_readInto_36 (by decide) (fun c36 => ?_) (fun c36 => ?_)
          · refine a_aload_n B dX2_readInto_41 rfl ?_
            refine a_getI B fl_X2_18 (by decide) rfl rfl dX2_readInto_42 ?_
            refine a_iconst (v := 3) B dX2_readInto_45 (by decide) ?_
            rw [PM_4, hA1.2.1]
            refine a_icmp_eq 56 B dX2_readInto_46 (by decide) (fun c46 => ?_) (fun c46 => ?_)
            · refine a_aload_n B dX2_readInto_56 rfl ?_
              refine a_callV0v B rfl cf_X2_advance lk_X2_34 in_X2_advance se_X2_advance (wl_rc (p0 := 38) (by decide) rfl rfl rfl) (k_adv M hT q1 d1 h51 e1 hA1) dX2_readInto_57 (Nat.le_of_ble_eq_true rfl) ⟨Nat.le_of_ble_eq_true rfl, Nat.le_of_ble_eq_true rfl⟩ ⟨rfl, rfl⟩ ?_
              refine p_iinc2 1 B dX2_readInto_60 (by decide) (by decide) (k := ?_)
              refine a_goto 11 B dX2_readInto_63 (by decide) ?_
              rw [nI_1]
              exact ih (n + 1) (tokE (tapB M) e1) d1 (advD (tapB M) q1 (tokE (tapB M) e1)) (by omega) (by omega) h51 (atE_adv (tok_le (tap_end hT) hA1.1).2.1) hI1 (((if_neg c36).trans (if_pos c46)).symm.trans hX)
            refine a_iconst (v := (-1)) B dX2_readInto_49 (by decide) ?_
            refine a_aload_n B dX2_readInto_50 rfl ?_
            refine a_getI B fl_X2_22 (by decide) rfl rfl dX2_readInto_51 ?_
            refine a_isub B dX2_readInto_54 ?_
            exact a_iret B hr hlk dX2_readInto_55 (rT_r (s := tokS (tapB M) e1) (hX.symm.trans ((if_neg c36).trans (if_neg c46))) (Nat.le_trans (tok_le (tap_end hT) hA1.1).1 (tok_le (tap_end hT) hA1.1).2.1) hI1 rfl (by rw [PM_4, hA1.2.2.1]))
          refine a_iload_n B dX2_readInto_39 rfl ?_
          exact a_iret B hr hlk dX2_readInto_40 (rT_l (hX.symm.trans (if_pos c36)) (by omega) hn120 hI1 rfl)
        exact absurd c22 (by decide)
      · rw [hx] at hp9 hX
        obtain ⟨rfl, hs9, q1, d1, hq9, hI1, rfl⟩ := hp9
        show AW Pp l Ee _ Ss Mm Aa Bb Me Cc D _ A0 _ 0 0 _ _ _ (_ :: _) _
        refine a_if_ne 32 B dX2_readInto_22 (by decide) (fun c22 => ?_) (fun c22 => ?_)
        · exact absurd rfl c22
        refine a_iconst (v := (-1)) B dX2_readInto_25 (by decide) ?_
        refine a_aload_n B dX2_readInto_26 rfl ?_
        refine a_getI B fl_X2_22 (by decide) rfl rfl dX2_readInto_27 ?_
        refine a_isub B dX2_readInto_30 ?_
        exact a_iret B hr hlk dX2_readInto_31 (rT_r (s := s1) hX.symm hs9 hI1 rfl (by rw [PM_4, hq9]))
  refine a_aload_n B dX2_readInto_0 rfl ?_
  refine a_iconst (v := 0) B dX2_readInto_1 (by decide) ?_
  refine a_putI B twC fl_X2_25 fp_2_3 (by decide) rfl rfl dX2_readInto_2 ?_
  rw [PM_u4]
  refine a_aload_n B dX2_readInto_5 rfl ?_
  refine a_callV0v B rfl cf_X2_advance lk_X2_34 in_X2_advance se_X2_advance (wl_rc (p0 := 38) (by decide) rfl rfl rfl) (k_adv0 M hT (upd q 2 0) d h5 rfl) dX2_readInto_6 (Nat.le_of_ble_eq_true rfl) ⟨Nat.le_of_ble_eq_true rfl, Nat.le_of_ble_eq_true rfl⟩ ⟨rfl, rfl⟩ ?_
  refine a_iconst (v := 1) B dX2_readInto_9 (by decide) ?_
  refine p_istore2 B dX2_readInto_10 (by decide) (k := ?_)
  exact loop 120 1 0 d _ (by omega) (by omega) h5 (atE_adv (by omega)) hI hX0.symm
def texX (M : Mem) : Int32 × Option Dm := itsS (tapB M) 120 0 (likeF (M 2) (M 0)) 1
def texM (M : Mem) : Dm := match (texX M).2 with
  | none => M 0
  | some d => likeF (M 0) d
def rX (M : Mem) : Option Value → Mem → Prop := fun v M' => v = some (.int (texX M).1) ∧ ∃ q' d', Inv d' ∧ q' 5 = 0 ∧ M' = stB (PM M q' d') 0 (texM M)
theorem PM_00 {M : Mem} {q d : Dm} : PM M q d 0 = M 0 := PM_o (by decide) (by decide)
theorem PM_i0 {M : Mem} {q d : Dm} : stB (PM M q d) 0 (M 0) = PM M q d := by
  have h : PM M q d 0 = M 0 := PM_00
  rw [← h, stB_id]
theorem PM_in {M : Mem} {d : Dm} : stB M 2 d = PM M (M 4) d := by unfold PM; rw [stB_id]
theorem PM_u40 {M : Mem} {q d d0 : Dm} {j : Nat} {x : Int32} : stB (stB (PM M q d) 0 d0) 4 (upd ((stB (PM M q d) 0 d0) 4) j x) = stB (PM M (upd q j x) d) 0 d0 := by rw [stB_ne (show (4 : Nat) ≠ 0 by decide), PM_4, stB_comm (by decide), PM_s4]
theorem PM_u41 {M : Mem} {q d : Dm} {j : Nat} {x : Int32} : stB (PM M q d) 4 (upd (PM M q d 4) j x) = PM M (upd q j x) d := by rw [PM_4, PM_s4]
set_option maxRecDepth 20000 in
theorem k_X6_text (M : Mem) (hJ : CI M) : CC l sk D cy A X mX6_text 9 [.ref (A 0)] M (rX M) := by
  refine Con.of (lo := [some (.ref (A 0)), none]) cf_X6_text (fun _ _ => wl_fst) 1 rfl (Nat.le_of_ble_eq_true rfl) (fun Pp Ee Ss Mm Aa Bb Me Cc A0 B hr hlk => ?_)
  have B : BS sk D cy (wl A cy 51 TC X) A0 Pp Ss Mm Aa Cc RX6 cX6_text 2 := B
  obtain ⟨hI0, hI1, hI2, hT, hZ⟩ := hJ
  refine a_aload_n B dX6_text_0 rfl ?_
  refine a_getR B fl_X6_33 (by decide) rfl rfl dX6_text_1 ?_
  refine a_aload_n B dX6_text_4 rfl ?_
  refine a_getR B fl_X6_26 (by decide) rfl rfl dX6_text_5 ?_
  refine a_aload_n B dX6_text_8 rfl ?_
  refine a_getR B fl_X6_12 (by decide) rfl rfl dX6_text_9 ?_
  refine a_callV1r B rfl cf_X3_dreamOf lk_X6_244 in_X3_dreamOf se_X3_dreamOf (wl_rc (p0 := 37) (by decide) rfl rfl rfl) (k_X3_dreamOf _ hI0) dX6_text_12 (Nat.le_of_ble_eq_true rfl) ⟨Nat.le_of_ble_eq_true rfl, Nat.le_of_ble_eq_true rfl⟩ ⟨rfl, rfl⟩ ?_
  rw [PM_in]
  refine a_callV1p B rfl cf_X2_readInto lk_X6_248 in_X2_readInto se_X2_readInto (wl_rc (p0 := 38) (by decide) rfl rfl rfl) (k_X2_readInto M hT (M 4) _ rfl (Inv.like hI2 hI0 _)) dX6_text_15 (Nat.le_of_ble_eq_true rfl) ⟨Nat.le_of_ble_eq_true rfl, Nat.le_of_ble_eq_true rfl⟩ ⟨rfl, rfl⟩ ?_
  rintro v9 M9 hp9
  obtain ⟨rfl, q1, d1, hI1, rfl, hz⟩ := hp9
  show AW Pp l Ee _ Ss Mm Aa Bb Me Cc D _ A0 _ 0 0 _ _ _ (_ :: _) _
  refine p_istore1 B dX6_text_18 (by decide) (k := ?_)
  refine a_iload_n B dX6_text_19 rfl ?_
  refine a_if_le 37 B dX6_text_20 (by decide) (fun c20 => ?_) (fun c20 => ?_)
  · have hz2 : (texX M).2 = none := by
      rcases hz with h | h
      · exact h.1
      · exact absurd h.2 (Int32.not_lt.mpr c20)
    have hM : texM M = M 0 := by unfold texM; rw [hz2]
    refine a_aload_n B dX6_text_37 rfl ?_
    refine a_getR B fl_X6_33 (by decide) rfl rfl dX6_text_38 ?_
    refine a_getR B fl_X6_229 (by decide) rfl rfl dX6_text_41 ?_
    refine a_callV0r B rfl cf_X5_empty lk_X6_241 in_X5_empty se_X5_empty (wl_rc (p0 := 39) (by decide) rfl rfl rfl) (k_X5_empty _) dX6_text_44 (Nat.le_of_ble_eq_true rfl) ⟨Nat.le_of_ble_eq_true rfl, Nat.le_of_ble_eq_true rfl⟩ ⟨rfl, rfl⟩ ?_
    first | rw [PM_u40] | rw [PM_u41]
    refine a_pop B dX6_text_47 rfl ?_
    refine a_iload_n B dX6_text_48 rfl ?_
    exact a_iret B hr hlk dX6_text_49 ⟨rfl, _, d1, hI1, pk_us, by rw [hM, PM_i0]⟩
  have hz2 : (texX M).2 = some d1 := by
    rcases hz with h | h
    · exact (Int32.lt_irrefl (Int32.lt_trans h.2 (Int32.not_le.mp c20))).elim
    · exact h.1
  have hM : texM M = likeF (M 0) d1 := by unfold texM; rw [hz2]
  refine a_aload_n B dX6_text_23 rfl ?_
  refine a_getR B fl_X6_12 (by decide) rfl rfl dX6_text_24 ?_
  refine a_aload_n B dX6_text_27 rfl ?_
  refine a_getR B fl_X6_26 (by decide) rfl rfl dX6_text_28 ?_
  refine a_getR B fl_X6_252 (by decide) rfl rfl dX6_text_31 ?_
  refine a_callV1v B rfl cf_X0_becomeLike lk_X6_255 in_X0_becomeLike se_X0_becomeLike (wl_rc (p0 := 1) (by decide) rfl rfl rfl) (k_X0_becomeLike 0 2 (by decide) (by decide) (by decide) _ (by rw [PM_2]; exact hI1)) dX6_text_34 (Nat.le_of_ble_eq_true rfl) ⟨Nat.le_of_ble_eq_true rfl, Nat.le_of_ble_eq_true rfl⟩ ⟨rfl, rfl⟩ ?_
  rw [PM_2, PM_00]
  refine a_aload_n B dX6_text_37 rfl ?_
  refine a_getR B fl_X6_33 (by decide) rfl rfl dX6_text_38 ?_
  refine a_getR B fl_X6_229 (by decide) rfl rfl dX6_text_41 ?_
  refine a_callV0r B rfl cf_X5_empty lk_X6_241 in_X5_empty se_X5_empty (wl_rc (p0 := 39) (by decide) rfl rfl rfl) (k_X5_empty _) dX6_text_44 (Nat.le_of_ble_eq_true rfl) ⟨Nat.le_of_ble_eq_true rfl, Nat.le_of_ble_eq_true rfl⟩ ⟨rfl, rfl⟩ ?_
  first | rw [PM_u40] | rw [PM_u41]
  refine a_pop B dX6_text_47 rfl ?_
  refine a_iload_n B dX6_text_48 rfl ?_
  exact a_iret B hr hlk dX6_text_49 ⟨rfl, _, d1, hI1, pk_us, by rw [hM]⟩
end C19
