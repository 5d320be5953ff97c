section R27

def rIT (M : Mem) (x : Int32 × Option Dm) : Option Value → Mem → Prop := fun v M' => ∃ r q' d', v = some (.int r) ∧ q' 0 = M 10 0 ∧ q' 1 = M 10 1 ∧ M' = PMR M q' d' ∧ ((x = (r, some d') ∧ q' 7 = -1 ∧ Inv d' ∧ 0 < r) ∨ (∃ s, s ≤ 120 ∧ q' 7 = nI s ∧ x = (-1 - nI s, none)))
theorem rIT_l {M M' : Mem} {x : Int32 × Option Dm} {r : Int32} {e : Nat} {q' d' : Dm} (hx : (r, some d') = x) (hA : AtR M q' e) (hd : Inv d') (hr : 0 < r) (hM : M' = PMR M q' d') : rIT M x (some (.int r)) M' := ⟨r, q', d', rfl, hA.2.1, hA.2.2.1, hM, Or.inl ⟨hx.symm, hA.q7, hd, hr⟩⟩
theorem rIT_f {M M' : Mem} {x : Int32 × Option Dm} {r : Int32} {s : Nat} {q' d' : Dm} (hx : (-1 - nI s, none) = x) (hs : s ≤ 120) (h0 : q' 0 = M 10 0) (h1 : q' 1 = M 10 1) (h7 : q' 7 = nI s) (hM : M' = PMR M q' d') : rIT M x (some (.int r)) M' := ⟨r, q', d', rfl, h0, h1, hM, Or.inr ⟨s, hs, h7, hx.symm⟩⟩
theorem rIT_r {M M' : Mem} {x : Int32 × Option Dm} {r : Int32} {e : Nat} {q' d' : Dm} (hT : tpOk M) (hx : (-1 - nI (tokS (gM M) e), none) = x) (hA : AtR M q' e) (hM : M' = PMR M (upd q' 7 (q' 4)) d') : rIT M x (some (.int r)) M' := by
  have h1 := (tokR_le hT hA.1).1
  have h2 := hT.1
  exact rIT_f hx (by omega) ((pk_un (by decide)).trans hA.2.1) ((pk_un (by decide)).trans hA.2.2.1) (pk_us.trans hA.q4) hM
theorem sgn_ge {g : Nat → Int32} {e : Nat} (hg : EndG g) (he : e ≤ 120) (h : tokT g e = 3) : e + 1 ≤ tokE g e ∧ tokE g e ≤ 120 := by
  have h2 := tok_le hg he
  have h3 : tokE g e = tokS g e + 1 := by
    have h : lxT g (lxS g e) = 3 := h
    unfold tokE tokS lxE
    unfold lxT at h
    split at h
    · exact absurd h (by decide)
    · next q1 =>
      rw [if_neg q1]
      split at h
      · exact absurd h (by decide)
      · next q2 =>
        rw [if_neg q2]
        split at h
        · exact absurd h (by decide)
        · next q3 => rw [if_neg q3]
  omega

variable {l : Launch} {sk : (Nat → Nat) × (Nat → Nat)} {D : va_G} {cy : Nat → ClassId} {A : Nat → Nat} {X : va_W}
theorem m_adv0 (M : Mem) (hT : tpOk M) (q d : Dm) (h1 : q 1 = M 10 1) (h2 : q 2 = nI 0) : CR l sk D cy A X mX7_next 1 [.ref (A 0)] (PMR M q d) (rV (PMR M (nxD (gM M) q 0) d)) := by
  have h := m_next (l := l) (sk := sk) (D := D) (cy := cy) (A := A) (X := X) (PMR M q d) 0 (PMR_ok hT h1) (Nat.zero_le _) (by rw [PMR_10, h2])
  rw [PMR_g h1, PMR_10, PMR_s10] at h
  exact h
set_option maxRecDepth 20000 in
set_option maxHeartbeats 4000000 in
theorem m_items (M : Mem) (hT : tpOk M) (q d : Dm) (h0 : q 0 = M 10 0) (h1 : q 1 = M 10 1) (hI : Inv d) : CR l sk D cy A X mX7_items 6 [.ref (A 0)] (PMR M q d) (rIT M (itsS (gM M) 120 0 d 1)) := by
  refine Con.of (lo := [some (.ref (A 0)), none]) cf_X7_items (fun _ _ => wl_fst) 1 rfl (Nat.le_of_ble_eq_true rfl) (fun Pp Ee Ss Mm Aa Bb Me Cc A0 B hr hlk => ?_)
  have B : BS sk D cy (wl A cy 11 TM X) A0 Pp Ss Mm Aa Cc RX7 cX7_items 2 := B
  obtain ⟨X0, hX0⟩ : ∃ X0, X0 = itsS (gM M) 120 0 d 1 := ⟨_, rfl⟩
  rw [← hX0]
  have loop : ∀ f n e1 d1 q1, n + f = 120 → 1 ≤ n → n ≤ e1 → e1 ≤ 120 → AtR M q1 e1 → Inv d1 → (if tokT (gM M) e1 = 0 then ((nI n : Int32), some d1) else if tokT (gM M) e1 = 3 then itsS (gM M) f (tokE (gM M) e1) d1 (n + 1) else (-1 - nI (tokS (gM M) e1), none)) = X0 → AW Pp l Ee (rmK 6 (34 * 6)) Ss Mm Aa Bb Me Cc D (wl A cy 11 TM X) A0 2 0 0 (MQ Bb (QG D (wl A cy 11 TM X) A0 (rIT M X0)) Aa Ss 0 0 A0) 20 [some (.ref (A 0)), some (.int (nI n))] [] (PMR M q1 d1) := by
    intro f
    induction f with
    | zero =>
      intro n e1 d1 q1 hnf hn1 hne he1 hA1 hI1 hX
      refine a_aload_n B dX7_items_20 rfl ?_
      refine a_getI B fl_X7_227 (by decide) rfl rfl dX7_items_21 ?_
      rw [PMR_10, hA1.q7]
      refine a_if_ge 49 B dX7_items_24 (by decide) (fun c24 => ?_) (fun c24 => ?_)
      · exact absurd c24 (by decide)
      refine a_aload_n B dX7_items_27 rfl ?_
      refine a_getI B fl_X7_208 (by decide) rfl rfl dX7_items_28 ?_
      refine a_iconst (v := 3) B dX7_items_31 (by decide) ?_
      rw [PMR_10, hA1.q3]
      refine a_icmp_ne 49 B dX7_items_32 (by decide) (fun c32 => ?_) (fun c32 => ?_)
      · refine a_aload_n B dX7_items_49 rfl ?_
        refine a_getI B fl_X7_227 (by decide) rfl rfl dX7_items_50 ?_
        rw [PMR_10, hA1.q7]
        refine a_if_ge 67 B dX7_items_53 (by decide) (fun c53 => ?_) (fun c53 => ?_)
        · exact absurd c53 (by decide)
        refine a_aload_n B dX7_items_56 rfl ?_
        refine a_getI B fl_X7_208 (by decide) rfl rfl dX7_items_57 ?_
        rw [PMR_10, hA1.q3]
        refine a_if_eq 67 B dX7_items_60 (by decide) (fun c60 => ?_) (fun c60 => ?_)
        · refine a_iload_n B dX7_items_67 rfl ?_
          exact a_iret B hr hlk dX7_items_68 (rIT_l (by rw [← hX, if_pos c60]) hA1 hI1 (nI_lt (a := 0) (by omega) (by omega)) rfl)
        refine a_aload_n B dX7_items_63 rfl ?_
        refine a_callV0v B rfl cf_X7_wrongHere lk_X7_248 in_X7_wrongHere se_X7_wrongHere (wl_rc (p0 := 0) (by decide) rfl rfl rfl) (m_wroH M hT q1 d1 e1 hA1) dX7_items_64 (Nat.le_of_ble_eq_true rfl) ⟨Nat.le_of_ble_eq_true rfl, Nat.le_of_ble_eq_true rfl⟩ ⟨rfl, rfl⟩ ?_
        refine a_iload_n B dX7_items_67 rfl ?_
        exact a_iret B hr hlk dX7_items_68 (rIT_r hT (by rw [← hX, if_neg c60, if_neg c32]) hA1 rfl)
      exact absurd (end_t (gM_end hT) (show e1 = 120 by omega)) (by rw [c32]; decide)
    | succ f ih =>
      intro n e1 d1 q1 hnf hn1 hne he1 hA1 hI1 hX
      refine a_aload_n B dX7_items_20 rfl ?_
      refine a_getI B fl_X7_227 (by decide) rfl rfl dX7_items_21 ?_
      rw [PMR_10, hA1.q7]
      refine a_if_ge 49 B dX7_items_24 (by decide) (fun c24 => ?_) (fun c24 => ?_)
      · exact absurd c24 (by decide)
      refine a_aload_n B dX7_items_27 rfl ?_
      refine a_getI B fl_X7_208 (by decide) rfl rfl dX7_items_28 ?_
      refine a_iconst (v := 3) B dX7_items_31 (by decide) ?_
      rw [PMR_10, hA1.q3]
      refine a_icmp_ne 49 B dX7_items_32 (by decide) (fun c32 => ?_) (fun c32 => ?_)
      · refine a_aload_n B dX7_items_49 rfl ?_
        refine a_getI B fl_X7_227 (by decide) rfl rfl dX7_items_50 ?_
        rw [PMR_10, hA1.q7]
        refine a_if_ge 67 B dX7_items_53 (by decide) (fun c53 => ?_) (fun c53 => ?_)
        · exact absurd c53 (by decide)
        refine a_aload_n B dX7_items_56 rfl ?_
        refine a_getI B fl_X7_208 (by decide) rfl rfl dX7_items_57 ?_
        rw [PMR_10, hA1.q3]
        refine a_if_eq 67 B dX7_items_60 (by decide) (fun c60 => ?_) (fun c60 => ?_)
        · refine a_iload_n B dX7_items_67 rfl ?_
          exact a_iret B hr hlk dX7_items_68 (rIT_l (by rw [← hX, if_pos c60]) hA1 hI1 (nI_lt (a := 0) (by omega) (by omega)) rfl)
        refine a_aload_n B dX7_items_63 rfl ?_
        refine a_callV0v B rfl cf_X7_wrongHere lk_X7_248 in_X7_wrongHere se_X7_wrongHere (wl_rc (p0 := 0) (by decide) rfl rfl rfl) (m_wroH M hT q1 d1 e1 hA1) dX7_items_64 (Nat.le_of_ble_eq_true rfl) ⟨Nat.le_of_ble_eq_true rfl, Nat.le_of_ble_eq_true rfl⟩ ⟨rfl, rfl⟩ ?_
        refine a_iload_n B dX7_items_67 rfl ?_
        exact a_iret B hr hlk dX7_items_68 (rIT_r hT (by rw [← hX, if_neg c60, if_neg c32]) hA1 rfl)
      refine a_aload_n B dX7_items_35 rfl ?_
      refine a_callV0v B rfl cf_X7_next lk_X7_251 in_X7_next se_X7_next (wl_rc (p0 := 0) (by decide) rfl rfl rfl) (m_adv M hT q1 d1 e1 hA1 (by rw [c32]; decide)) dX7_items_36 (Nat.le_of_ble_eq_true rfl) ⟨Nat.le_of_ble_eq_true rfl, Nat.le_of_ble_eq_true rfl⟩ ⟨rfl, rfl⟩ ?_
      obtain ⟨q2, hq2⟩ : ∃ q2, q2 = nxD (gM M) q1 (tokE (gM M) e1) := ⟨_, rfl⟩
      have hA2 : AtR M q2 (tokE (gM M) e1) := by rw [hq2]; exact atR_nx hA1 (tokR_le hT hA1.1).2
      rw [← hq2]
      have hge := sgn_ge (gM_end hT) he1 c32
      rw [if_neg (by rw [c32]; decide), if_pos c32, itsS] at hX
      refine a_aload_n B dX7_items_39 rfl ?_
      refine a_callV0p B rfl cf_X7_item lk_X7_282 in_X7_item se_X7_item (wl_rc (p0 := 0) (by decide) rfl rfl rfl) (m_item M hT q2 d1 (tokE (gM M) e1) hA2 hI1) dX7_items_40 (Nat.le_of_ble_eq_true rfl) ⟨Nat.le_of_ble_eq_true rfl, Nat.le_of_ble_eq_true rfl⟩ ⟨rfl, rfl⟩ ?_
      rintro v9 M9 hp9
      rcases hx3 : iteS (gM M) (tokE (gM M) e1) d1 with ⟨e3, d3⟩ | s3
      · rw [hx3] at hp9
        obtain ⟨rfl, q3, hA3, hI3, rfl⟩ := hp9
        show AW Pp l Ee _ Ss Mm Aa Bb Me Cc D _ A0 _ 0 0 _ _ _ _ _
        refine p_iinc1 1 B dX7_items_43 (by decide) (by decide) (k := ?_)
        refine a_goto 20 B dX7_items_46 (by decide) ?_
        rw [nI_1]
        rw [hx3] at hX
        have hg3 : tokE (gM M) e1 + 1 ≤ e3 := ite_ge (gM_end hT) hge.2 hx3
        exact ih (n + 1) e3 d3 q3 (by omega) (by omega) (by omega) (Nat.le_trans hA3.1 hT.1) hA3 hI3 hX
      · rw [hx3] at hp9
        obtain ⟨rfl, hs9, q3, d3, h09, h19, h79, rfl⟩ := hp9
        show AW Pp l Ee _ Ss Mm Aa Bb Me Cc D _ A0 _ 0 0 _ _ _ _ _
        refine p_iinc1 1 B dX7_items_43 (by decide) (by decide) (k := ?_)
        refine a_goto 20 B dX7_items_46 (by decide) ?_
        refine a_aload_n B dX7_items_20 rfl ?_
        refine a_getI B fl_X7_227 (by decide) rfl rfl dX7_items_21 ?_
        rw [PMR_10, h79]
        refine a_if_ge 49 B dX7_items_24 (by decide) (fun c24 => ?_) (fun c24 => ?_)
        · refine a_aload_n B dX7_items_49 rfl ?_
          refine a_getI B fl_X7_227 (by decide) rfl rfl dX7_items_50 ?_
          rw [PMR_10, h79]
          refine a_if_ge 67 B dX7_items_53 (by decide) (fun c53 => ?_) (fun c53 => ?_)
          · refine a_iload_n B dX7_items_67 rfl ?_
            exact a_iret B hr hlk dX7_items_68 (rIT_f (s := s3) (by rw [hx3] at hX; exact hX) hs9 h09 h19 h79 rfl)
          exact absurd (Int32.not_le.mp c53) (nI_pos (by omega))
        exact absurd (Int32.not_le.mp c24) (nI_pos (by omega))
  refine a_aload_n B dX7_items_0 rfl ?_
  refine a_iconst (v := 0) B dX7_items_1 (by decide) ?_
  refine a_putI B twM fl_X7_195 fp_7_8 (by decide) rfl rfl dX7_items_2 ?_
  rw [PMR_u10]
  refine a_aload_n B dX7_items_5 rfl ?_
  refine a_iconst (v := (-1)) B dX7_items_6 (by decide) ?_
  refine a_putI B twM fl_X7_227 fp_7_12 (by decide) rfl rfl dX7_items_7 ?_
  rw [PMR_u10]
  refine a_aload_n B dX7_items_10 rfl ?_
  refine a_callV0v B rfl cf_X7_next lk_X7_251 in_X7_next se_X7_next (wl_rc (p0 := 0) (by decide) rfl rfl rfl) (m_adv0 M hT (upd (upd q 2 0) 7 (-1)) d h1 rfl) dX7_items_11 (Nat.le_of_ble_eq_true rfl) ⟨Nat.le_of_ble_eq_true rfl, Nat.le_of_ble_eq_true rfl⟩ ⟨rfl, rfl⟩ ?_
  obtain ⟨q2, hq2⟩ : ∃ q2, q2 = nxD (gM M) (upd (upd q 2 0) 7 (-1)) 0 := ⟨_, rfl⟩
  have hA2 : AtR M q2 0 := by rw [hq2]; exact ⟨Nat.zero_le _, h0, h1, rfl, rfl, rfl, ljn_s _, rfl⟩
  rw [← hq2]
  rw [itsS] at hX0
  refine a_aload_n B dX7_items_14 rfl ?_
  refine a_callV0p B rfl cf_X7_item lk_X7_282 in_X7_item se_X7_item (wl_rc (p0 := 0) (by decide) rfl rfl rfl) (m_item M hT q2 d 0 hA2 hI) dX7_items_15 (Nat.le_of_ble_eq_true rfl) ⟨Nat.le_of_ble_eq_true rfl, Nat.le_of_ble_eq_true rfl⟩ ⟨rfl, rfl⟩ ?_
  rintro v9 M9 hp9
  rcases hx3 : iteS (gM M) 0 d with ⟨e3, d3⟩ | s3
  · rw [hx3] at hp9
    obtain ⟨rfl, q3, hA3, hI3, rfl⟩ := hp9
    show AW Pp l Ee _ Ss Mm Aa Bb Me Cc D _ A0 _ 0 0 _ _ _ _ _
    refine a_iconst (v := 1) B dX7_items_18 (by decide) ?_
    refine p_istore1 B dX7_items_19 (by decide) (k := ?_)
    rw [hx3] at hX0
    have hg3 : 0 + 1 ≤ e3 := ite_ge (gM_end hT) (Nat.zero_le _) hx3
    exact loop 119 1 e3 d3 q3 (by omega) (by omega) (by omega) (Nat.le_trans hA3.1 hT.1) hA3 hI3 hX0.symm
  · rw [hx3] at hp9
    obtain ⟨rfl, hs9, q3, d3, h09, h19, h79, rfl⟩ := hp9
    show AW Pp l Ee _ Ss Mm Aa Bb Me Cc D _ A0 _ 0 0 _ _ _ _ _
    refine a_iconst (v := 1) B dX7_items_18 (by decide) ?_
    refine p_istore1 B dX7_items_19 (by decide) (k := ?_)
    refine a_aload_n B dX7_items_20 rfl ?_
    refine a_getI B fl_X7_227 (by decide) rfl rfl dX7_items_21 ?_
    rw [PMR_10, h79]
    refine a_if_ge 49 B dX7_items_24 (by decide) (fun c24 => ?_) (fun c24 => ?_)
    · refine a_aload_n B dX7_items_49 rfl ?_
      refine a_getI B fl_X7_227 (by decide) rfl rfl dX7_items_50 ?_
      rw [PMR_10, h79]
      refine a_if_ge 67 B dX7_items_53 (by decide) (fun c53 => ?_) (fun c53 => ?_)
      · refine a_iload_n B dX7_items_67 rfl ?_
        exact a_iret B hr hlk dX7_items_68 (rIT_f (s := s3) (by rw [hx3] at hX0; exact hX0.symm) hs9 h09 h19 h79 rfl)
      exact absurd (Int32.not_le.mp c53) (nI_pos (by omega))
    exact absurd (Int32.not_le.mp c24) (nI_pos (by omega))
def rXR (M : Mem) (x : Int32 × Option Dm) : Option Value → Mem → Prop := fun v M' => v = some (.int x.1) ∧ (∀ b, 3 ≤ b ∧ b ≤ 8 → M' b = M b) ∧ M' 10 0 = M 10 0 ∧ M' 10 1 = 0 ∧ ((x.2 = some (M' 0) ∧ Inv (M' 0) ∧ 0 < x.1) ∨ (x.2 = none ∧ x.1 < 0 ∧ ∀ j, j < 70 → M' 0 j = M 0 j))
theorem tap_s1 {M : Mem} {d : Dm} : gM (stB M 1 d) = gM M ∧ tapR (stB M 1 d) = tapR M := by
  have e : tapR (stB M 1 d) = tapR M := by unfold tapR; rw [stB_ne (by decide)]
  refine ⟨?_, e⟩
  funext k
  unfold gM
  rw [e, stB_ne (by decide)]
theorem tp_s1 {M : Mem} {d : Dm} (h : tpOk M) : tpOk (stB M 1 d) := by
  unfold tpOk
  rw [tap_s1.2, stB_ne (by decide), stB_ne (by decide)]
  exact h
theorem PMR_in {M : Mem} : M = PMR M (M 10) (M 0) := by unfold PMR; rw [stB_id, stB_id]
theorem neg_r : ∀ s, s ≤ 120 → (-1 : Int32) - nI s < 0 := by
  intro s hs
  have : ∀ s : Fin 121, (-1 : Int32) - nI s.val < 0 := by decide
  exact this ⟨s, by omega⟩
set_option maxRecDepth 20000 in
theorem m_text (M : Mem) (hT : tpOk M) (hI : Inv (M 0)) : CR l sk D cy A X mX7_text 7 [.ref (A 0)] M (rXR M (itsS (gM M) 120 0 (M 0) 1)) := by
  refine Con.of (lo := [some (.ref (A 0)), none]) cf_X7_text (fun _ _ => wl_fst) 1 rfl (Nat.le_of_ble_eq_true rfl) (fun Pp Ee Ss Mm Aa Bb Me Cc A0 B hr hlk => ?_)
  have B : BS sk D cy (wl A cy 11 TM X) A0 Pp Ss Mm Aa Cc RX7 cX7_text 2 := B
  obtain ⟨M1, hM1⟩ : ∃ M1, M1 = (stB M 1 (cpD (M 1) (M 0) 70)) := ⟨_, rfl⟩
  have g1 : gM M1 = gM M := by rw [hM1]; exact tap_s1.1
  have t1 : tpOk M1 := by rw [hM1]; exact tp_s1 hT
  have b1 : ∀ b, b ≠ 1 → M1 b = M b := fun b hb => by rw [hM1, stB_ne hb]
  have e1 : M1 1 = cpD (M 1) (M 0) 70 := by rw [hM1, stB_at]
  refine a_aload_n B dX7_text_0 rfl ?_
  refine a_getR B fl_X7_7 (by decide) rfl rfl dX7_text_1 ?_
  refine a_aload_n B dX7_text_4 rfl ?_
  refine a_getR B fl_X7_13 (by decide) rfl rfl dX7_text_5 ?_
  refine a_callS2v B rfl cf_X7_copies lk_X7_146 st_X7_copies (m_copies 0 1 (by decide) (by decide) (by decide) _) dX7_text_8 (Nat.le_of_ble_eq_true rfl) ⟨Nat.le_of_ble_eq_true rfl, Nat.le_of_ble_eq_true rfl⟩ ⟨rfl, rfl⟩ ?_
  rw [← hM1]
  refine a_mem PMR_in ?_
  refine a_aload_n B dX7_text_11 rfl ?_
  refine a_callV0p B rfl cf_X7_items lk_X7_285 in_X7_items se_X7_items (wl_rc (p0 := 0) (by decide) rfl rfl rfl) (m_items M1 t1 _ _ rfl rfl (by rw [b1 0 (by decide)]; exact hI)) dX7_text_12 (Nat.le_of_ble_eq_true rfl) ⟨Nat.le_of_ble_eq_true rfl, Nat.le_of_ble_eq_true rfl⟩ ⟨rfl, rfl⟩ ?_
  rintro v9 M9 hp9
  rw [g1, b1 0 (by decide)] at hp9
  obtain ⟨r, q1, d1, rfl, h01, h11, rfl, hz⟩ := hp9
  show AW Pp l Ee _ Ss Mm Aa Bb Me Cc D _ A0 _ 0 0 _ _ _ _ _
  have hbb : ∀ q9 d9 b, 3 ≤ b ∧ b ≤ 8 → PMR M1 q9 d9 b = M b := fun q9 d9 b hb => by rw [PMR_o (by omega) (by omega), b1 b (by omega)]
  rw [b1 10 (by decide)] at h01
  refine p_istore1 B dX7_text_15 (by decide) (k := ?_)
  refine a_aload_n B dX7_text_16 rfl ?_
  refine a_iconst (v := 0) B dX7_text_17 (by decide) ?_
  refine a_putI B twM fl_X7_191 fp_7_7 (by decide) rfl rfl dX7_text_18 ?_
  rw [PMR_u10]
  refine a_aload_n B dX7_text_21 rfl ?_
  refine a_getI B fl_X7_227 (by decide) rfl rfl dX7_text_22 ?_
  rw [PMR_10]
  refine a_if_lt 46 B dX7_text_25 (by decide) (fun c25 => ?_) (fun c25 => ?_)
  · have hf : r = r ∧ (itsS (gM M) 120 0 (M 0) 1) = (r, some d1) ∧ Inv d1 ∧ 0 < r := by
      rcases hz with h | ⟨s, hs, h7, h⟩
      · exact ⟨rfl, h.1, h.2.2⟩
      · exact absurd (show nI s < 0 by rw [← h7]; exact c25) (nI_pos (by omega))
    refine a_iload_n B dX7_text_46 rfl ?_
    exact a_iret B hr hlk dX7_text_47 ⟨by rw [hf.2.1], hbb _ _, by rw [PMR_10]; exact (pk_un (by decide)).trans h01, by rw [PMR_10]; exact pk_us, Or.inl ⟨by rw [hf.2.1, PMR_0], by rw [PMR_0]; exact hf.2.2.1, by rw [hf.2.1]; exact hf.2.2.2⟩⟩
  have hf : ∃ s, s ≤ 120 ∧ q1 7 = nI s ∧ (itsS (gM M) 120 0 (M 0) 1) = (-1 - nI s, none) := by
    rcases hz with h | h
    · exact absurd (show (-1 : Int32) < 0 by decide) (by rw [← h.2.1]; exact c25)
    · exact h
  obtain ⟨s, hs, h7, hx⟩ := hf
  refine a_aload_n B dX7_text_28 rfl ?_
  refine a_getR B fl_X7_13 (by decide) rfl rfl dX7_text_29 ?_
  refine a_aload_n B dX7_text_32 rfl ?_
  refine a_getR B fl_X7_7 (by decide) rfl rfl dX7_text_33 ?_
  refine a_callS2v B rfl cf_X7_copies lk_X7_146 st_X7_copies (m_copies 1 0 (by decide) (by decide) (by decide) _) dX7_text_36 (Nat.le_of_ble_eq_true rfl) ⟨Nat.le_of_ble_eq_true rfl, Nat.le_of_ble_eq_true rfl⟩ ⟨rfl, rfl⟩ ?_
  rw [PMR_s0, PMR_0, PMR_o (by decide) (by decide), e1]
  refine a_iconst (v := (-1)) B dX7_text_39 (by decide) ?_
  refine a_aload_n B dX7_text_40 rfl ?_
  refine a_getI B fl_X7_227 (by decide) rfl rfl dX7_text_41 ?_
  rw [PMR_10]
  refine a_isub B dX7_text_44 ?_
  exact a_iret B hr hlk dX7_text_45 ⟨by rw [hx]; show some (Value.int (-1 - q1 7)) = _; rw [h7], hbb _ _, by rw [PMR_10]; exact (pk_un (by decide)).trans h01, by rw [PMR_10]; exact pk_us, Or.inr ⟨by rw [hx], by rw [hx]; exact neg_r s hs, fun j hj => by rw [PMR_0]; unfold cpD; rw [if_pos hj, if_pos hj]⟩⟩
end R27
