section R19

def mkR (d : Dm) (g : Int32) : Nat → Dm
  | 0 => d
  | k + 1 => upd (mkR d g k) (28 + k) (if g >>> (nI k &&& 31) &&& 1 = 1 then 0 else mkR d g k (28 + k))
theorem mkR_hi {d : Dm} {g : Int32} {j : Nat} (hj : 36 ≤ j ∨ j < 28) : ∀ k, k ≤ 8 → mkR d g k j = d j := by
  intro k
  induction k with
  | zero => intro _; rfl
  | succ k ih => intro hk; rw [mkR, pk_un (by omega)]; exact ih (by omega)
theorem mkR_inv {d : Dm} {g : Int32} (hI : Inv d) : ∀ k, k ≤ 8 → Inv (mkR d g k) := by
  intro k
  induction k with
  | zero => intro _; exact hI
  | succ k ih =>
    intro hk
    have h := ih (by omega)
    obtain ⟨a, ha, ea⟩ := h.t (p := k) (by omega)
    rw [mkR]
    split
    · exact h.up (n := 0) (Or.inr (by omega)) rfl (fun _ _ => Nat.zero_le _)
    · exact h.up (n := a) (Or.inr (by omega)) ea (fun _ _ => by rw [bnd_t (by omega)]; exact ha)
def fasQR (d : Dm) (t s : Nat) : Bool := decide (daysF (mkR d (nI s) (nOf d)) t 4 = d 4)
def fasR (d : Dm) (n : Int32) : Oc := if wi n 20 then nS (minN (fasQR d (nn n)) (2 ^ nOf d)) else .inr 0

variable {l : Launch} {sk : (Nat → Nat) × (Nat → Nat)} {D : va_G} {cy : Nat → ClassId} {A : Nat → Nat} {X : va_W}
set_option maxRecDepth 20000 in
theorem m_fast (n1 : Int32) (M : Mem) (hI : Inv (M 0)) : CR l sk D cy A X mX7_fast 8 [.ref (A 0), .int n1] M (rR (fasR (M 0) n1) M M) := by
  refine Con.of (lo := [some (.ref (A 0)), some (.int n1), none, none, none]) cf_X7_fast (fun _ _ => wl_fst) 3 rfl (Nat.le_of_ble_eq_true rfl) (fun Pp Ee Ss Mm Aa Bb Me Cc A0 B hr hlk => ?_)
  have B : BS sk D cy (wl A cy 11 TM X) A0 Pp Ss Mm Aa Cc RX7 cX7_fast 5 := B
  obtain ⟨N, hN, eN, eNo⟩ := hI.n
  refine a_iload_n B dX7_fast_0 rfl ?_
  refine a_i2l B dX7_fast_1 ?_
  refine a_lconst (v := 0) B dX7_fast_2 (by decide) ?_
  refine a_ldc2 B dX7_fast_3 kl_X7_169 ?_
  refine a_callS3r B rfl cf_X7_in lk_X7_42 st_X7_in (m_in n1 0 20 _ _ (by first | rfl | decide) (by first | rfl | decide) _) dX7_fast_6 (Nat.le_of_ble_eq_true rfl) ⟨Nat.le_of_ble_eq_true rfl, Nat.le_of_ble_eq_true rfl⟩ ⟨rfl, rfl⟩ ?_
  refine a_if_ne 18 B dX7_fast_9 (by decide) (fun c9 => ?_) (fun c9 => ?_)
  · have c9 := bI_ne0.mp c9
    obtain ⟨t, htt, hte⟩ := wi_T (t := 20) c9 (by omega)
    subst hte
    refine a_aload_n B dX7_fast_18 rfl ?_
    refine a_getR B fl_X7_7 (by decide) rfl rfl dX7_fast_19 ?_
    refine a_aload_n B dX7_fast_22 rfl ?_
    refine a_getR B fl_X7_16 (by decide) rfl rfl dX7_fast_23 ?_
    refine a_callS2v B rfl cf_X7_copies lk_X7_146 st_X7_copies (m_aside M) dX7_fast_26 (Nat.le_of_ble_eq_true rfl) ⟨Nat.le_of_ble_eq_true rfl, Nat.le_of_ble_eq_true rfl⟩ ⟨rfl, rfl⟩ ?_
    refine a_iconst (v := (-1)) B dX7_fast_29 (by decide) ?_
    refine p_istore2 B dX7_fast_30 (by decide) (k := ?_)
    refine a_iconst (v := 0) B dX7_fast_31 (by decide) ?_
    refine p_istore3 B dX7_fast_32 (by decide) (k := ?_)
    have hp2 := p2_le N (by omega)
    have hp0 : 0 ≤ 2 ^ N := Nat.zero_le _
    have loop : ∀ n g v o4, 2 ^ N + 1 ≤ g + n → g ≤ 2 ^ N → v = oI (minN (fasQR (M 0) t) g) → AW Pp l Ee (rmK 8 (34 * 8)) Ss Mm Aa Bb Me Cc D (wl A cy 11 TM X) A0 5 0 0 (MQ Bb (QG D (wl A cy 11 TM X) A0 (rR (fasR (M 0) (nI t)) M M)) Aa Ss 0 0 A0) 33 [some (.ref (A 0)), some (.int (nI t)), some (.int v), some (.int (nI g)), o4] [] (AM M (M 0)) := by
      intro n
      induction n with
      | zero => intro g v o4 h1 h2; omega
      | succ n ih =>
        intro g v o4 h1 h2 h3
        refine a_iload_n B dX7_fast_33 rfl ?_
        refine a_iconst (v := 1) B dX7_fast_34 (by decide) ?_
        refine a_aload_n B dX7_fast_35 rfl ?_
        refine a_getR B fl_X7_7 (by decide) rfl rfl dX7_fast_36 ?_
        refine a_iconst (v := 0) B dX7_fast_39 (by decide) ?_
        refine a_iald 0 B (by decide) rfl rfl (by omega) (by decide) dX7_fast_40 ?_
        rw [show AM M (M 0) 0 (0 + 0) = nI N from by rw [AM_0]; exact eN]
        refine a_ishl B dX7_fast_41 ?_
        rw [sh_two N (by omega)]
        refine a_icmp_ge 138 B dX7_fast_42 (by decide) (fun c42 => ?_) (fun c42 => ?_)
        · have e1 : g = 2 ^ N := by have := (nI_leI (a := 2 ^ N) (b := g) (by omega) (by omega)).mp c42; omega
          rcases hb : minN (fasQR (M 0) t) g with _ | b
          · have hv : v = -1 := by rw [h3, hb]; rfl
            subst hv
            refine a_iload_n B dX7_fast_138 rfl ?_
            refine a_if_ge 150 B dX7_fast_139 (by decide) (fun c139 => ?_) (fun c139 => ?_)
            · exact absurd c139 (by decide)
            refine a_aload_n B dX7_fast_142 rfl ?_
            refine a_iconst (v := 3) B dX7_fast_143 (by decide) ?_
            refine a_callV1r B rfl cf_X7_finds lk_X7_109 in_X7_finds se_X7_finds (wl_rc (p0 := 0) (by decide) rfl rfl rfl) (m_finds 3 (by decide) _) dX7_fast_144 (Nat.le_of_ble_eq_true rfl) ⟨Nat.le_of_ble_eq_true rfl, Nat.le_of_ble_eq_true rfl⟩ ⟨rfl, rfl⟩ ?_
            refine a_goto 151 B dX7_fast_147 (by decide) ?_
            exact a_iret B hr hlk dX7_fast_151 (rR_r (k := 3) (by unfold fasR; rw [show wi (nI t) 20 = true from c9, if_pos rfl, nn_nI (show t < 2 ^ 31 by omega), eNo, ← e1, hb]; rfl) rfl AM_f)
          · have hbk := min_lt _ _ hb
            have hv : v = nI b := by rw [h3, hb]; rfl
            subst hv
            refine a_iload_n B dX7_fast_138 rfl ?_
            refine a_if_ge 150 B dX7_fast_139 (by decide) (fun c139 => ?_) (fun c139 => ?_)
            · refine a_iload_n B dX7_fast_150 rfl ?_
              exact a_iret B hr hlk dX7_fast_151 (rR_l (by unfold fasR; rw [show wi (nI t) 20 = true from c9, if_pos rfl, nn_nI (show t < 2 ^ 31 by omega), eNo, ← e1, hb]; rfl) AM_q)
            exact absurd (nI_pos' (by omega)) c139
        have hlt0 : g < 2 ^ N := (nI_ltI (a := g) (b := 2 ^ N) (by omega) (by omega)).mp (Int32.not_le.mp c42)
        rcases hb : minN (fasQR (M 0) t) g with _ | b
        · have hv : v = -1 := by rw [h3, hb]; rfl
          subst hv
          refine a_iload_n B dX7_fast_45 rfl ?_
          refine a_if_lt 63 B dX7_fast_46 (by decide) (fun c46 => ?_) (fun c46 => ?_)
          · refine a_iconst (v := 0) B dX7_fast_63 (by decide) ?_
            refine p_istore4 B dX7_fast_64 (by decide) (k := ?_)
            have inner : ∀ n2 k, N + 1 ≤ k + n2 → k ≤ N → AW Pp l Ee (rmK 8 (34 * 8)) Ss Mm Aa Bb Me Cc D (wl A cy 11 TM X) A0 5 0 0 (MQ Bb (QG D (wl A cy 11 TM X) A0 (rR (fasR (M 0) (nI t)) M M)) Aa Ss 0 0 A0) 66 [some (.ref (A 0)), some (.int (nI t)), some (.int (-1)), some (.int (nI g)), some (.int (nI k))] [] (AM M (mkR (M 0) (nI g) k)) := by
              intro n2
              induction n2 with
              | zero => intro k a1 a2; omega
              | succ n2 ih2 =>
                intro k a1 a2
                refine a_iload B dX7_fast_66 rfl ?_
                refine a_aload_n B dX7_fast_68 rfl ?_
                refine a_getR B fl_X7_7 (by decide) rfl rfl dX7_fast_69 ?_
                refine a_iconst (v := 0) B dX7_fast_72 (by decide) ?_
                refine a_iald 0 B (by decide) rfl rfl (by omega) (by decide) dX7_fast_73 ?_
                rw [show AM M (mkR (M 0) (nI g) k) 0 (0 + 0) = nI N from by rw [AM_0]; exact (mkR_hi (by omega) k (by omega)).trans eN]
                refine a_icmp_ge 111 B dX7_fast_74 (by decide) (fun c74 => ?_) (fun c74 => ?_)
                · have e1 : k = N := by have := ge_n (b := N) c74 rfl rfl (by omega) (by omega); omega
                  subst e1
                  refine a_aload_n B dX7_fast_111 rfl ?_
                  refine a_iload_n B dX7_fast_112 rfl ?_
                  refine a_iconst (v := 4) B dX7_fast_113 (by decide) ?_
                  refine a_callV2r B rfl cf_X7_behind lk_X7_165 in_X7_behind se_X7_behind (wl_rc (p0 := 0) (by decide) rfl rfl rfl) (m_behind t (by omega) M _ (mkR_inv hI k (by omega)) (fun x hx => mkR_hi (by omega) k (by omega)) 4 (by decide)) dX7_fast_114 (Nat.le_of_ble_eq_true rfl) ⟨Nat.le_of_ble_eq_true rfl, Nat.le_of_ble_eq_true rfl⟩ ⟨rfl, rfl⟩ ?_
                  refine a_aload_n B dX7_fast_117 rfl ?_
                  refine a_getR B fl_X7_7 (by decide) rfl rfl dX7_fast_118 ?_
                  refine a_iconst (v := 4) B dX7_fast_121 (by decide) ?_
                  refine a_iald 4 B (by decide) rfl rfl (by omega) (by decide) dX7_fast_122 ?_
                  rw [show AM M (M 0) 0 (0 + 4) = M 0 4 from by rw [AM_0]]
                  refine a_icmp_ne 130 B dX7_fast_123 (by decide) (fun c123 => ?_) (fun c123 => ?_)
                  · refine a_iload_n B dX7_fast_130 rfl ?_
                    refine p_istore2 B dX7_fast_131 (by decide) (k := ?_)
                    refine p_iinc3 1 B dX7_fast_132 (by decide) (by decide) (k := ?_)
                    refine a_goto 33 B dX7_fast_135 (by decide) ?_
                    have hq : fasQR (M 0) t g = false := decide_eq_false (by rw [eNo]; exact c123)
                    rw [nI_1]
                    exact ih (g + 1) _ _ (by omega) (by omega) (by rw [minN, hb]; simp only [hq]; rfl)
                  refine a_iload_n B dX7_fast_126 rfl ?_
                  refine a_goto 131 B dX7_fast_127 (by decide) ?_
                  refine p_istore2 B dX7_fast_131 (by decide) (k := ?_)
                  refine p_iinc3 1 B dX7_fast_132 (by decide) (by decide) (k := ?_)
                  refine a_goto 33 B dX7_fast_135 (by decide) ?_
                  have hq : fasQR (M 0) t g = true := decide_eq_true (by rw [eNo]; exact c123)
                  rw [nI_1]
                  exact ih (g + 1) _ _ (by omega) (by omega) (by rw [minN, hb]; simp only [hq]; rfl)
                have hlt0 := lt_n (b := N) c74 rfl rfl (by omega) (by omega)
                refine a_aload_n B dX7_fast_77 rfl ?_
                refine a_iload B dX7_fast_78 rfl ?_
                refine a_iconst (v := 2) B dX7_fast_80 (by decide) ?_
                refine a_iload_n B dX7_fast_81 rfl ?_
                refine a_iload B dX7_fast_82 rfl ?_
                refine a_ishr B dX7_fast_84 ?_
                refine a_iconst (v := 1) B dX7_fast_85 (by decide) ?_
                refine a_iand B dX7_fast_86 ?_
                refine a_iconst (v := 1) B dX7_fast_87 (by decide) ?_
                refine a_icmp_ne 95 B dX7_fast_88 (by decide) (fun c88 => ?_) (fun c88 => ?_)
                · refine a_aload_n B dX7_fast_95 rfl ?_
                  refine a_iload B dX7_fast_96 rfl ?_
                  refine a_iconst (v := 2) B dX7_fast_98 (by decide) ?_
                  refine a_callV2r B rfl cf_X7_its lk_X7_54 in_X7_its se_X7_its (wl_rc (p0 := 0) (by decide) rfl rfl rfl) (m_its k 2 (28 + k) (by omega) (by decide) (by omega) _) dX7_fast_99 (Nat.le_of_ble_eq_true rfl) ⟨Nat.le_of_ble_eq_true rfl, Nat.le_of_ble_eq_true rfl⟩ ⟨rfl, rfl⟩ ?_
                  rw [AM_0]
                  refine a_callV3v B rfl cf_X7_sets lk_X7_79 in_X7_sets se_X7_sets (wl_rc (p0 := 0) (by decide) rfl rfl rfl) (m_sets k 2 (28 + k) (by omega) (by decide) (by omega) _ _) dX7_fast_102 (Nat.le_of_ble_eq_true rfl) ⟨Nat.le_of_ble_eq_true rfl, Nat.le_of_ble_eq_true rfl⟩ ⟨rfl, rfl⟩ ?_
                  rw [AM_0, AM_s]
                  refine p_iinc4 1 B dX7_fast_105 (by decide) (by decide) (k := ?_)
                  refine a_goto 66 B dX7_fast_108 (by decide) ?_
                  rw [nI_1]
                  have hc : upd (mkR (M 0) (nI g) k) (28 + k) (mkR (M 0) (nI g) k (28 + k)) = mkR (M 0) (nI g) (k + 1) := by rw [mkR, if_neg c88]
                  rw [hc]
                  exact ih2 (k + 1) (by omega) (by omega)
                refine a_iconst (v := 0) B dX7_fast_91 (by decide) ?_
                refine a_goto 102 B dX7_fast_92 (by decide) ?_
                refine a_callV3v B rfl cf_X7_sets lk_X7_79 in_X7_sets se_X7_sets (wl_rc (p0 := 0) (by decide) rfl rfl rfl) (m_sets k 2 (28 + k) (by omega) (by decide) (by omega) _ _) dX7_fast_102 (Nat.le_of_ble_eq_true rfl) ⟨Nat.le_of_ble_eq_true rfl, Nat.le_of_ble_eq_true rfl⟩ ⟨rfl, rfl⟩ ?_
                rw [AM_0, AM_s]
                refine p_iinc4 1 B dX7_fast_105 (by decide) (by decide) (k := ?_)
                refine a_goto 66 B dX7_fast_108 (by decide) ?_
                rw [nI_1]
                have hc : upd (mkR (M 0) (nI g) k) (28 + k) 0 = mkR (M 0) (nI g) (k + 1) := by rw [mkR, if_pos c88]
                rw [hc]
                exact ih2 (k + 1) (by omega) (by omega)
            exact inner (N + 1) 0 (by omega) (by omega)
          exact absurd (show (-1 : Int32) < 0 by decide) c46
        · have hbk := min_lt _ _ hb
          have hv : v = nI b := by rw [h3, hb]; rfl
          subst hv
          refine a_iload_n B dX7_fast_45 rfl ?_
          refine a_if_lt 63 B dX7_fast_46 (by decide) (fun c46 => ?_) (fun c46 => ?_)
          · exact absurd c46 (nI_pos (by omega))
          refine a_iload_n B dX7_fast_49 rfl ?_
          refine a_callS1r B rfl cf_X7_ones lk_X7_58 st_X7_ones (m_ones _ _) dX7_fast_50 (Nat.le_of_ble_eq_true rfl) ⟨Nat.le_of_ble_eq_true rfl, Nat.le_of_ble_eq_true rfl⟩ ⟨rfl, rfl⟩ ?_
          refine a_iload_n B dX7_fast_53 rfl ?_
          refine a_callS1r B rfl cf_X7_ones lk_X7_58 st_X7_ones (m_ones _ _) dX7_fast_54 (Nat.le_of_ble_eq_true rfl) ⟨Nat.le_of_ble_eq_true rfl, Nat.le_of_ble_eq_true rfl⟩ ⟨rfl, rfl⟩ ?_
          refine a_icmp_lt 63 B dX7_fast_57 (by decide) (fun c57 => ?_) (fun c57 => ?_)
          · have c57x := c57
            refine a_iconst (v := 0) B dX7_fast_63 (by decide) ?_
            refine p_istore4 B dX7_fast_64 (by decide) (k := ?_)
            have inner : ∀ n2 k, N + 1 ≤ k + n2 → k ≤ N → AW Pp l Ee (rmK 8 (34 * 8)) Ss Mm Aa Bb Me Cc D (wl A cy 11 TM X) A0 5 0 0 (MQ Bb (QG D (wl A cy 11 TM X) A0 (rR (fasR (M 0) (nI t)) M M)) Aa Ss 0 0 A0) 66 [some (.ref (A 0)), some (.int (nI t)), some (.int (nI b)), some (.int (nI g)), some (.int (nI k))] [] (AM M (mkR (M 0) (nI g) k)) := by
              intro n2
              induction n2 with
              | zero => intro k a1 a2; omega
              | succ n2 ih2 =>
                intro k a1 a2
                refine a_iload B dX7_fast_66 rfl ?_
                refine a_aload_n B dX7_fast_68 rfl ?_
                refine a_getR B fl_X7_7 (by decide) rfl rfl dX7_fast_69 ?_
                refine a_iconst (v := 0) B dX7_fast_72 (by decide) ?_
                refine a_iald 0 B (by decide) rfl rfl (by omega) (by decide) dX7_fast_73 ?_
                rw [show AM M (mkR (M 0) (nI g) k) 0 (0 + 0) = nI N from by rw [AM_0]; exact (mkR_hi (by omega) k (by omega)).trans eN]
                refine a_icmp_ge 111 B dX7_fast_74 (by decide) (fun c74 => ?_) (fun c74 => ?_)
                · have e1 : k = N := by have := ge_n (b := N) c74 rfl rfl (by omega) (by omega); omega
                  subst e1
                  refine a_aload_n B dX7_fast_111 rfl ?_
                  refine a_iload_n B dX7_fast_112 rfl ?_
                  refine a_iconst (v := 4) B dX7_fast_113 (by decide) ?_
                  refine a_callV2r B rfl cf_X7_behind lk_X7_165 in_X7_behind se_X7_behind (wl_rc (p0 := 0) (by decide) rfl rfl rfl) (m_behind t (by omega) M _ (mkR_inv hI k (by omega)) (fun x hx => mkR_hi (by omega) k (by omega)) 4 (by decide)) dX7_fast_114 (Nat.le_of_ble_eq_true rfl) ⟨Nat.le_of_ble_eq_true rfl, Nat.le_of_ble_eq_true rfl⟩ ⟨rfl, rfl⟩ ?_
                  refine a_aload_n B dX7_fast_117 rfl ?_
                  refine a_getR B fl_X7_7 (by decide) rfl rfl dX7_fast_118 ?_
                  refine a_iconst (v := 4) B dX7_fast_121 (by decide) ?_
                  refine a_iald 4 B (by decide) rfl rfl (by omega) (by decide) dX7_fast_122 ?_
                  rw [show AM M (M 0) 0 (0 + 4) = M 0 4 from by rw [AM_0]]
                  refine a_icmp_ne 130 B dX7_fast_123 (by decide) (fun c123 => ?_) (fun c123 => ?_)
                  · refine a_iload_n B dX7_fast_130 rfl ?_
                    refine p_istore2 B dX7_fast_131 (by decide) (k := ?_)
                    refine p_iinc3 1 B dX7_fast_132 (by decide) (by decide) (k := ?_)
                    refine a_goto 33 B dX7_fast_135 (by decide) ?_
                    have hq : fasQR (M 0) t g = false := decide_eq_false (by rw [eNo]; exact c123)
                    rw [nI_1]
                    exact ih (g + 1) _ _ (by omega) (by omega) (by rw [minN, hb]; simp only [hq, decide_eq_true c57x]; rfl)
                  refine a_iload_n B dX7_fast_126 rfl ?_
                  refine a_goto 131 B dX7_fast_127 (by decide) ?_
                  refine p_istore2 B dX7_fast_131 (by decide) (k := ?_)
                  refine p_iinc3 1 B dX7_fast_132 (by decide) (by decide) (k := ?_)
                  refine a_goto 33 B dX7_fast_135 (by decide) ?_
                  have hq : fasQR (M 0) t g = true := decide_eq_true (by rw [eNo]; exact c123)
                  rw [nI_1]
                  exact ih (g + 1) _ _ (by omega) (by omega) (by rw [minN, hb]; simp only [hq, decide_eq_true c57x]; rfl)
                have hlt0 := lt_n (b := N) c74 rfl rfl (by omega) (by omega)
                refine a_aload_n B dX7_fast_77 rfl ?_
                refine a_iload B dX7_fast_78 rfl ?_
                refine a_iconst (v := 2) B dX7_fast_80 (by decide) ?_
                refine a_iload_n B dX7_fast_81 rfl ?_
                refine a_iload B dX7_fast_82 rfl ?_
                refine a_ishr B dX7_fast_84 ?_
                refine a_iconst (v := 1) B dX7_fast_85 (by decide) ?_
                refine a_iand B dX7_fast_86 ?_
                refine a_iconst (v := 1) B dX7_fast_87 (by decide) ?_
                refine a_icmp_ne 95 B dX7_fast_88 (by decide) (fun c88 => ?_) (fun c88 => ?_)
                · refine a_aload_n B dX7_fast_95 rfl ?_
                  refine a_iload B dX7_fast_96 rfl ?_
                  refine a_iconst (v := 2) B dX7_fast_98 (by decide) ?_
                  refine a_callV2r B rfl cf_X7_its lk_X7_54 in_X7_its se_X7_its (wl_rc (p0 := 0) (by decide) rfl rfl rfl) (m_its k 2 (28 + k) (by omega) (by decide) (by omega) _) dX7_fast_99 (Nat.le_of_ble_eq_true rfl) ⟨Nat.le_of_ble_eq_true rfl, Nat.le_of_ble_eq_true rfl⟩ ⟨rfl, rfl⟩ ?_
                  rw [AM_0]
                  refine a_callV3v B rfl cf_X7_sets lk_X7_79 in_X7_sets se_X7_sets (wl_rc (p0 := 0) (by decide) rfl rfl rfl) (m_sets k 2 (28 + k) (by omega) (by decide) (by omega) _ _) dX7_fast_102 (Nat.le_of_ble_eq_true rfl) ⟨Nat.le_of_ble_eq_true rfl, Nat.le_of_ble_eq_true rfl⟩ ⟨rfl, rfl⟩ ?_
                  rw [AM_0, AM_s]
                  refine p_iinc4 1 B dX7_fast_105 (by decide) (by decide) (k := ?_)
                  refine a_goto 66 B dX7_fast_108 (by decide) ?_
                  rw [nI_1]
                  have hc : upd (mkR (M 0) (nI g) k) (28 + k) (mkR (M 0) (nI g) k (28 + k)) = mkR (M 0) (nI g) (k + 1) := by rw [mkR, if_neg c88]
                  rw [hc]
                  exact ih2 (k + 1) (by omega) (by omega)
                refine a_iconst (v := 0) B dX7_fast_91 (by decide) ?_
                refine a_goto 102 B dX7_fast_92 (by decide) ?_
                refine a_callV3v B rfl cf_X7_sets lk_X7_79 in_X7_sets se_X7_sets (wl_rc (p0 := 0) (by decide) rfl rfl rfl) (m_sets k 2 (28 + k) (by omega) (by decide) (by omega) _ _) dX7_fast_102 (Nat.le_of_ble_eq_true rfl) ⟨Nat.le_of_ble_eq_true rfl, Nat.le_of_ble_eq_true rfl⟩ ⟨rfl, rfl⟩ ?_
                rw [AM_0, AM_s]
                refine p_iinc4 1 B dX7_fast_105 (by decide) (by decide) (k := ?_)
                refine a_goto 66 B dX7_fast_108 (by decide) ?_
                rw [nI_1]
                have hc : upd (mkR (M 0) (nI g) k) (28 + k) 0 = mkR (M 0) (nI g) (k + 1) := by rw [mkR, if_pos c88]
                rw [hc]
                exact ih2 (k + 1) (by omega) (by omega)
            exact inner (N + 1) 0 (by omega) (by omega)
          refine a_goto 132 B dX7_fast_60 (by decide) ?_
          refine p_iinc3 1 B dX7_fast_132 (by decide) (by decide) (k := ?_)
          refine a_goto 33 B dX7_fast_135 (by decide) ?_
          rw [nI_1]
          exact ih (g + 1) _ _ (by omega) (by omega) (by rw [minN, hb]; simp only [decide_eq_false c57, Bool.and_false]; rfl)
    exact loop (2 ^ N + 1) 0 _ _ (by omega) (by omega) rfl
  have c9 := bI_eq0.mp c9
  refine a_aload_n B dX7_fast_12 rfl ?_
  refine a_iconst (v := 0) B dX7_fast_13 (by decide) ?_
  refine a_callV1r B rfl cf_X7_finds lk_X7_109 in_X7_finds se_X7_finds (wl_rc (p0 := 0) (by decide) rfl rfl rfl) (m_finds 0 (by decide) _) dX7_fast_14 (Nat.le_of_ble_eq_true rfl) ⟨Nat.le_of_ble_eq_true rfl, Nat.le_of_ble_eq_true rfl⟩ ⟨rfl, rfl⟩ ?_
  exact a_iret B hr hlk dX7_fast_17 (rR_r0 (k := 0) (by unfold fasR; rw [show wi n1 20 = false from c9]; rfl) rfl rfl)
end R19
