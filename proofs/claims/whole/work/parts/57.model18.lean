section R18

theorem sh_two : ∀ n, n < 9 → (1 : Int32) <<< (nI n &&& 31) = nI (2 ^ n) := by decide
def covL (d : Dm) (sins g : Int32) : Nat → Int32
  | 0 => sins
  | k + 1 => covL d sins g k &&& (if g >>> (nI k &&& 31) &&& 1 = 1 then d (28 + k) ^^^ (-1) else -1)
def minN (Q : Nat → Bool) : Nat → Option Nat
  | 0 => none
  | s + 1 => match minN Q s with
    | none => if Q s then some s else none
    | some b => if Q s && decide (onesF (nI s) < onesF (nI b)) then some s else some b
theorem min_lt {Q : Nat → Bool} : ∀ n b, minN Q n = some b → b < n := by
  intro n
  induction n with
  | zero => intro b h; cases h
  | succ n ih =>
    intro b h
    rw [minN] at h
    cases hc : minN Q n with
    | none => rw [hc] at h; simp only at h; split at h <;> (cases h); omega
    | some c =>
      rw [hc] at h
      have := ih c hc
      simp only at h
      split at h <;> (injection h with h; omega)
def covQ (d : Dm) (sins : Int32) (s : Nat) : Bool := decide (covL d sins (nI s) (nOf d) = 0)
def covR (d : Dm) (sins : Int32) : Oc := if wi sins 255 then nS (minN (covQ d sins) (2 ^ nOf d)) else .inr 0
theorem p2_le : ∀ n, n < 9 → 2 ^ n ≤ 256 := by decide

variable {l : Launch} {sk : (Nat → Nat) × (Nat → Nat)} {D : va_G} {cy : Nat → ClassId} {A : Nat → Nat} {X : va_W}
set_option maxRecDepth 20000 in
theorem m_cover (sins : Int32) (M : Mem) (hI : Inv (M 0)) : CR l sk D cy A X mX7_cover 2 [.ref (A 0), .int sins] M (rR (covR (M 0) sins) M M) := by
  refine Con.of (lo := [some (.ref (A 0)), some (.int sins), none, none, none, none]) cf_X7_cover (fun _ _ => wl_fst) 4 rfl (Nat.le_of_ble_eq_true rfl) (fun Pp Ee Ss Mm Aa Bb Me Cc A0 B hr hlk => ?_)
  have B : BS sk D cy (wl A cy 11 TM X) A0 Pp Ss Mm Aa Cc RX7 cX7_cover 6 := B
  obtain ⟨N, hN, eN, eNo⟩ := hI.n
  refine a_iload_n B dX7_cover_0 rfl ?_
  refine a_callS1r B rfl cf_X7_areSins lk_X7_103 st_X7_areSins (m_areSins _ _) dX7_cover_1 (Nat.le_of_ble_eq_true rfl) ⟨Nat.le_of_ble_eq_true rfl, Nat.le_of_ble_eq_true rfl⟩ ⟨rfl, rfl⟩ ?_
  refine a_if_ne 13 B dX7_cover_4 (by decide) (fun c4 => ?_) (fun c4 => ?_)
  · have c4 := bI_ne0.mp c4
    refine a_iconst (v := (-1)) B dX7_cover_13 (by decide) ?_
    refine p_istore2 B dX7_cover_14 (by decide) (k := ?_)
    refine a_iconst (v := 0) B dX7_cover_15 (by decide) ?_
    refine p_istore3 B dX7_cover_16 (by decide) (k := ?_)
    have hp2 := p2_le N (by omega)
    have hp0 : 0 ≤ 2 ^ N := Nat.zero_le _
    have loop : ∀ n g v o4 o5, 2 ^ N + 1 ≤ g + n → g ≤ 2 ^ N → v = oI (minN (covQ (M 0) sins) g) → AW Pp l Ee (rmK 2 (34 * 2)) Ss Mm Aa Bb Me Cc D (wl A cy 11 TM X) A0 6 0 0 (MQ Bb (QG D (wl A cy 11 TM X) A0 (rR (covR (M 0) sins) M M)) Aa Ss 0 0 A0) 17 [some (.ref (A 0)), some (.int sins), some (.int v), some (.int (nI g)), o4, o5] [] (M) := by
      intro n
      induction n with
      | zero => intro g v o4 o5 h1 h2; omega
      | succ n ih =>
        intro g v o4 o5 h1 h2 h3
        refine a_iload_n B dX7_cover_17 rfl ?_
        refine a_iconst (v := 1) B dX7_cover_18 (by decide) ?_
        refine a_aload_n B dX7_cover_19 rfl ?_
        refine a_getR B fl_X7_7 (by decide) rfl rfl dX7_cover_20 ?_
        refine a_iconst (v := 0) B dX7_cover_23 (by decide) ?_
        refine a_iald 0 B (by decide) rfl rfl (by omega) (by decide) dX7_cover_24 ?_
        rw [show M 0 (0 + 0) = nI N from eN]
        refine a_ishl B dX7_cover_25 ?_
        rw [sh_two N (by omega)]
        refine a_icmp_ge 112 B dX7_cover_26 (by decide) (fun c26 => ?_) (fun c26 => ?_)
        · have e1 : g = 2 ^ N := by have := (nI_leI (a := 2 ^ N) (b := g) (by omega) (by omega)).mp c26; omega
          rcases hb : minN (covQ (M 0) sins) g with _ | b
          · have hv : v = -1 := by rw [h3, hb]; rfl
            subst hv
            refine a_iload_n B dX7_cover_112 rfl ?_
            refine a_if_ge 124 B dX7_cover_113 (by decide) (fun c113 => ?_) (fun c113 => ?_)
            · exact absurd c113 (by decide)
            refine a_aload_n B dX7_cover_116 rfl ?_
            refine a_iconst (v := 3) B dX7_cover_117 (by decide) ?_
            refine a_callV1r B rfl cf_X7_finds lk_X7_109 in_X7_finds se_X7_finds (wl_rc (p0 := 0) (by decide) rfl rfl rfl) (m_finds 3 (by decide) _) dX7_cover_118 (Nat.le_of_ble_eq_true rfl) ⟨Nat.le_of_ble_eq_true rfl, Nat.le_of_ble_eq_true rfl⟩ ⟨rfl, rfl⟩ ?_
            refine a_goto 125 B dX7_cover_121 (by decide) ?_
            exact a_iret B hr hlk dX7_cover_125 (rR_r0 (k := 3) (by unfold covR; rw [c4, if_pos rfl, eNo, ← e1, hb]; rfl) rfl rfl)
          · have hbk := min_lt _ _ hb
            have hv : v = nI b := by rw [h3, hb]; rfl
            subst hv
            refine a_iload_n B dX7_cover_112 rfl ?_
            refine a_if_ge 124 B dX7_cover_113 (by decide) (fun c113 => ?_) (fun c113 => ?_)
            · refine a_iload_n B dX7_cover_124 rfl ?_
              exact a_iret B hr hlk dX7_cover_125 (rR_l0 (by unfold covR; rw [c4, if_pos rfl, eNo, ← e1, hb]; rfl) (rfl))
            exact absurd (nI_pos' (by omega)) c113
        have hlt0 : g < 2 ^ N := (nI_ltI (a := g) (b := 2 ^ N) (by omega) (by omega)).mp (Int32.not_le.mp c26)
        refine a_iload_n B dX7_cover_29 rfl ?_
        refine p_istore4 B dX7_cover_30 (by decide) (k := ?_)
        refine a_iconst (v := 0) B dX7_cover_32 (by decide) ?_
        refine p_istore5 B dX7_cover_33 (by decide) (k := ?_)
        have inner : ∀ n2 k, N + 1 ≤ k + n2 → k ≤ N → AW Pp l Ee (rmK 2 (34 * 2)) Ss Mm Aa Bb Me Cc D (wl A cy 11 TM X) A0 6 0 0 (MQ Bb (QG D (wl A cy 11 TM X) A0 (rR (covR (M 0) sins) M M)) Aa Ss 0 0 A0) 35 [some (.ref (A 0)), some (.int sins), some (.int v), some (.int (nI g)), some (.int (covL (M 0) sins (nI g) k)), some (.int (nI k))] [] (M) := by
          intro n2
          induction n2 with
          | zero => intro k a1 a2; omega
          | succ n2 ih2 =>
            intro k a1 a2
            refine a_iload B dX7_cover_35 rfl ?_
            refine a_aload_n B dX7_cover_37 rfl ?_
            refine a_getR B fl_X7_7 (by decide) rfl rfl dX7_cover_38 ?_
            refine a_iconst (v := 0) B dX7_cover_41 (by decide) ?_
            refine a_iald 0 B (by decide) rfl rfl (by omega) (by decide) dX7_cover_42 ?_
            rw [show M 0 (0 + 0) = nI N from eN]
            refine a_icmp_ge 80 B dX7_cover_43 (by decide) (fun c43 => ?_) (fun c43 => ?_)
            · have e1 : k = N := by have := ge_n (b := N) c43 rfl rfl (by omega) (by omega); omega
              subst e1
              refine a_iload B dX7_cover_80 rfl ?_
              refine a_if_ne 104 B dX7_cover_82 (by decide) (fun c82 => ?_) (fun c82 => ?_)
              · rcases hb : minN (covQ (M 0) sins) g with _ | b
                · have hv : v = -1 := by rw [h3, hb]; rfl
                  subst hv
                  refine a_iload_n B dX7_cover_104 rfl ?_
                  refine p_istore2 B dX7_cover_105 (by decide) (k := ?_)
                  refine p_iinc3 1 B dX7_cover_106 (by decide) (by decide) (k := ?_)
                  refine a_goto 17 B dX7_cover_109 (by decide) ?_
                  rw [nI_1]
                  exact ih (g + 1) _ _ _ (by omega) (by omega) (by rw [minN, hb]; simp only [show covQ (M 0) sins g = false from decide_eq_false (fun q => c82 (by rw [← eNo]; exact q))]; rfl)
                · have hv : v = nI b := by rw [h3, hb]; rfl
                  subst hv
                  refine a_iload_n B dX7_cover_104 rfl ?_
                  refine p_istore2 B dX7_cover_105 (by decide) (k := ?_)
                  refine p_iinc3 1 B dX7_cover_106 (by decide) (by decide) (k := ?_)
                  refine a_goto 17 B dX7_cover_109 (by decide) ?_
                  rw [nI_1]
                  exact ih (g + 1) _ _ _ (by omega) (by omega) (by rw [minN, hb]; simp only [show covQ (M 0) sins g = false from decide_eq_false (fun q => c82 (by rw [← eNo]; exact q))]; rfl)
              rcases hb : minN (covQ (M 0) sins) g with _ | b
              · have hv : v = -1 := by rw [h3, hb]; rfl
                subst hv
                refine a_iload_n B dX7_cover_85 rfl ?_
                refine a_if_lt 100 B dX7_cover_86 (by decide) (fun c86 => ?_) (fun c86 => ?_)
                · refine a_iload_n B dX7_cover_100 rfl ?_
                  refine a_goto 105 B dX7_cover_101 (by decide) ?_
                  refine p_istore2 B dX7_cover_105 (by decide) (k := ?_)
                  refine p_iinc3 1 B dX7_cover_106 (by decide) (by decide) (k := ?_)
                  refine a_goto 17 B dX7_cover_109 (by decide) ?_
                  rw [nI_1]
                  exact ih (g + 1) _ _ _ (by omega) (by omega) (by rw [minN, hb]; simp only [show covQ (M 0) sins g = true from decide_eq_true (by rw [eNo]; exact c82)]; rfl)
                exact absurd (show (-1 : Int32) < 0 by decide) c86
              · have hbk := min_lt _ _ hb
                have hv : v = nI b := by rw [h3, hb]; rfl
                subst hv
                refine a_iload_n B dX7_cover_85 rfl ?_
                refine a_if_lt 100 B dX7_cover_86 (by decide) (fun c86 => ?_) (fun c86 => ?_)
                · exact absurd c86 (nI_pos (by omega))
                refine a_iload_n B dX7_cover_89 rfl ?_
                refine a_callS1r B rfl cf_X7_ones lk_X7_58 st_X7_ones (m_ones _ _) dX7_cover_90 (Nat.le_of_ble_eq_true rfl) ⟨Nat.le_of_ble_eq_true rfl, Nat.le_of_ble_eq_true rfl⟩ ⟨rfl, rfl⟩ ?_
                refine a_iload_n B dX7_cover_93 rfl ?_
                refine a_callS1r B rfl cf_X7_ones lk_X7_58 st_X7_ones (m_ones _ _) dX7_cover_94 (Nat.le_of_ble_eq_true rfl) ⟨Nat.le_of_ble_eq_true rfl, Nat.le_of_ble_eq_true rfl⟩ ⟨rfl, rfl⟩ ?_
                refine a_icmp_ge 104 B dX7_cover_97 (by decide) (fun c97 => ?_) (fun c97 => ?_)
                · refine a_iload_n B dX7_cover_104 rfl ?_
                  refine p_istore2 B dX7_cover_105 (by decide) (k := ?_)
                  refine p_iinc3 1 B dX7_cover_106 (by decide) (by decide) (k := ?_)
                  refine a_goto 17 B dX7_cover_109 (by decide) ?_
                  rw [nI_1]
                  exact ih (g + 1) _ _ _ (by omega) (by omega) (by rw [minN, hb]; simp only [show covQ (M 0) sins g = true from decide_eq_true (by rw [eNo]; exact c82), decide_eq_false (Int32.not_lt.mpr c97)]; rfl)
                refine a_iload_n B dX7_cover_100 rfl ?_
                refine a_goto 105 B dX7_cover_101 (by decide) ?_
                refine p_istore2 B dX7_cover_105 (by decide) (k := ?_)
                refine p_iinc3 1 B dX7_cover_106 (by decide) (by decide) (k := ?_)
                refine a_goto 17 B dX7_cover_109 (by decide) ?_
                rw [nI_1]
                exact ih (g + 1) _ _ _ (by omega) (by omega) (by rw [minN, hb]; simp only [show covQ (M 0) sins g = true from decide_eq_true (by rw [eNo]; exact c82), decide_eq_true (Int32.not_le.mp c97)]; rfl)
            have hlt0 := lt_n (b := N) c43 rfl rfl (by omega) (by omega)
            refine a_iload B dX7_cover_46 rfl ?_
            refine a_iload_n B dX7_cover_48 rfl ?_
            refine a_iload B dX7_cover_49 rfl ?_
            refine a_ishr B dX7_cover_51 ?_
            refine a_iconst (v := 1) B dX7_cover_52 (by decide) ?_
            refine a_iand B dX7_cover_53 ?_
            refine a_iconst (v := 1) B dX7_cover_54 (by decide) ?_
            refine a_icmp_ne 70 B dX7_cover_55 (by decide) (fun c55 => ?_) (fun c55 => ?_)
            · refine a_iconst (v := (-1)) B dX7_cover_70 (by decide) ?_
              refine a_iand B dX7_cover_71 ?_
              refine p_istore4 B dX7_cover_72 (by decide) (k := ?_)
              refine p_iinc5 1 B dX7_cover_74 (by decide) (by decide) (k := ?_)
              refine a_goto 35 B dX7_cover_77 (by decide) ?_
              rw [nI_1]
              have hc : covL (M 0) sins (nI g) k &&& (-1) = covL (M 0) sins (nI g) (k + 1) := by rw [covL, if_neg c55]
              rw [hc]
              exact ih2 (k + 1) (by omega) (by omega)
            refine a_aload_n B dX7_cover_58 rfl ?_
            refine a_iload B dX7_cover_59 rfl ?_
            refine a_iconst (v := 2) B dX7_cover_61 (by decide) ?_
            refine a_callV2r B rfl cf_X7_its lk_X7_54 in_X7_its se_X7_its (wl_rc (p0 := 0) (by decide) rfl rfl rfl) (m_its k 2 (28 + k) (by omega) (by decide) (by omega) _) dX7_cover_62 (Nat.le_of_ble_eq_true rfl) ⟨Nat.le_of_ble_eq_true rfl, Nat.le_of_ble_eq_true rfl⟩ ⟨rfl, rfl⟩ ?_
            refine a_iconst (v := (-1)) B dX7_cover_65 (by decide) ?_
            refine a_ixor B dX7_cover_66 ?_
            refine a_goto 71 B dX7_cover_67 (by decide) ?_
            refine a_iand B dX7_cover_71 ?_
            refine p_istore4 B dX7_cover_72 (by decide) (k := ?_)
            refine p_iinc5 1 B dX7_cover_74 (by decide) (by decide) (k := ?_)
            refine a_goto 35 B dX7_cover_77 (by decide) ?_
            rw [nI_1]
            have hc : covL (M 0) sins (nI g) k &&& (M 0 (28 + k) ^^^ (-1)) = covL (M 0) sins (nI g) (k + 1) := by rw [covL, if_pos c55]
            rw [hc]
            exact ih2 (k + 1) (by omega) (by omega)
        exact inner (N + 1) 0 (by omega) (by omega)
    exact loop (2 ^ N + 1) 0 _ _ _ (by omega) (by omega) rfl
  have c4 := bI_eq0.mp c4
  refine a_aload_n B dX7_cover_7 rfl ?_
  refine a_iconst (v := 0) B dX7_cover_8 (by decide) ?_
  refine a_callV1r B rfl cf_X7_finds lk_X7_109 in_X7_finds se_X7_finds (wl_rc (p0 := 0) (by decide) rfl rfl rfl) (m_finds 0 (by decide) _) dX7_cover_9 (Nat.le_of_ble_eq_true rfl) ⟨Nat.le_of_ble_eq_true rfl, Nat.le_of_ble_eq_true rfl⟩ ⟨rfl, rfl⟩ ?_
  exact a_iret B hr hlk dX7_cover_12 (rR_r0 (k := 0) (by unfold covR; rw [c4]; rfl) rfl rfl)
end R18
