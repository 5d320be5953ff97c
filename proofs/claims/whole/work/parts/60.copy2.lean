section R21

def pasD (M : Mem) (x k : Nat) : Dm := fun j => if j < k then M 8 (x + j) else M 9 j
def numD (M : Mem) (x y k : Nat) : Dm := fun j => if y ≤ j ∧ j < y + k then M 8 (x + (j - y)) else M 8 j
theorem pas_s {M : Mem} {x k : Nat} : upd (pasD M x k) k (M 8 (x + k)) = pasD M x (k + 1) := by
  funext j
  unfold upd pasD
  by_cases h : j = k
  · subst h; rw [if_pos rfl, if_pos (by omega)]
  · rw [if_neg h]
    by_cases h2 : j < k
    · rw [if_pos h2, if_pos (by omega)]
    · rw [if_neg h2, if_neg (by omega)]
theorem pas_0 {M : Mem} {x : Nat} : pasD M x 0 = M 9 := by
  funext j
  unfold pasD
  rw [if_neg (by omega)]
theorem num_s {M : Mem} {x y k : Nat} : upd (numD M x y k) (y + k) (M 8 (x + k)) = numD M x y (k + 1) := by
  funext j
  unfold upd numD
  by_cases h : j = y + k
  · subst h; rw [if_pos rfl, if_pos (by omega), Nat.add_sub_cancel_left]
  · rw [if_neg h]
    by_cases h2 : y ≤ j ∧ j < y + k
    · rw [if_pos h2, if_pos (by omega)]
    · rw [if_neg h2, if_neg (by omega)]
theorem num_0 {M : Mem} {x y : Nat} : numD M x y 0 = M 8 := by
  funext j
  unfold numD
  rw [if_neg (by omega)]
def CM (M : Mem) (x y c k : Nat) : Mem := stB (stB M 9 (pasD M x c)) 8 (numD M x y k)
theorem CM_q {M : Mem} {x y c k : Nat} : eqM (stB M 8 (numD M x y k)) (CM M x y c k) := by
  unfold CM
  refine ⟨fun b hb => ?_, ?_, ?_⟩
  · by_cases h : b = 8
    · subst h; rw [stB_at, stB_at]
    · rw [stB_ne h, stB_ne h, stB_ne (by omega)]
  · rw [stB_ne (by decide), stB_ne (by decide), stB_ne (by decide)]
  · rw [stB_ne (by decide), stB_ne (by decide), stB_ne (by decide)]
theorem ix_num3 (t a k : Nat) : (40 : Int32) * nI t + nI a + nI k = nI (40 * t + a + k) := by rw [ix_num, nI_add]

variable {l : Launch} {sk : (Nat → Nat) × (Nat → Nat)} {D : va_G} {cy : Nat → ClassId} {A : Nat → Nat} {X : va_W}
def cfit (fr to n : Int32) (S T : Nat) : Bool := !decide (fr < 0) && !decide (to < 0) && !decide (n < 0) && !decide (S < nn fr + nn n) && !decide (T < nn to + nn n)
def copR (M : Mem) (s fr t to n : Int32) : Oc × Mem := if wi s 3 && wi t 3 then (if M 6 (nn s) = 0 ∨ M 6 (nn t) = 0 then (.inr 5, M) else if M 6 (nn s) = M 6 (nn t) then (if cfit fr to n (szR M (nn s)) (szR M (nn t)) then (.inl n, stB M 8 (numD M (40 * nn s + nn fr) (40 * nn t + nn to) (nn n))) else (.inr 0, M)) else (.inr 2, M)) else (.inr 0, M)
set_option maxRecDepth 20000 in
theorem m_copy (s1 fr t1 to n1 : Int32) (M : Mem) (hZ : ∀ t, t < 4 → szOkR M t) : CR l sk D cy A X mX7_copy 2 [.ref (A 0), .int s1, .int fr, .int t1, .int to, .int n1] M (rR (copR M s1 fr t1 to n1).1 (copR M s1 fr t1 to n1).2 M) := by
  refine Con.of (lo := [some (.ref (A 0)), some (.int s1), some (.int fr), some (.int t1), some (.int to), some (.int n1), none]) cf_X7_copy (fun _ _ => wl_fst) 1 rfl (Nat.le_of_ble_eq_true rfl) (fun Pp Ee Ss Mm Aa Bb Me Cc A0 B hr hlk => ?_)
  have B : BS sk D cy (wl A cy 11 TM X) A0 Pp Ss Mm Aa Cc RX7 cX7_copy 7 := B
  refine a_iload_n B dX7_copy_0 rfl ?_
  refine a_callS1r B rfl cf_X7_isSheet lk_X7_295 st_X7_isSheet (m_isSheet _ _) dX7_copy_1 (Nat.le_of_ble_eq_true rfl) ⟨Nat.le_of_ble_eq_true rfl, Nat.le_of_ble_eq_true rfl⟩ ⟨rfl, rfl⟩ ?_
  refine a_if_eq 14 B dX7_copy_4 (by decide) (fun c4 => ?_) (fun c4 => ?_)
  · have c4 := bI_eq0.mp c4
    refine a_aload_n B dX7_copy_14 rfl ?_
    refine a_iconst (v := 0) B dX7_copy_15 (by decide) ?_
    refine a_callV1r B rfl cf_X7_finds lk_X7_109 in_X7_finds se_X7_finds (wl_rc (p0 := 0) (by decide) rfl rfl rfl) (m_finds 0 (by decide) _) dX7_copy_16 (Nat.le_of_ble_eq_true rfl) ⟨Nat.le_of_ble_eq_true rfl, Nat.le_of_ble_eq_true rfl⟩ ⟨rfl, rfl⟩ ?_
    exact a_iret B hr hlk dX7_copy_19 (rR_r0 (k := 0) (by unfold copR; rw [show wi s1 3 = false from c4]; rfl) rfl rfl)
  have c4 := bI_ne0.mp c4
  obtain ⟨t, htt, hte⟩ := wi_T (t := 3) c4 (by omega)
  subst hte
  obtain ⟨hz1, hz2⟩ := (hZ t (by omega)).e
  refine a_iload_n B dX7_copy_7 rfl ?_
  refine a_callS1r B rfl cf_X7_isSheet lk_X7_295 st_X7_isSheet (m_isSheet _ _) dX7_copy_8 (Nat.le_of_ble_eq_true rfl) ⟨Nat.le_of_ble_eq_true rfl, Nat.le_of_ble_eq_true rfl⟩ ⟨rfl, rfl⟩ ?_
  refine a_if_ne 20 B dX7_copy_11 (by decide) (fun c11 => ?_) (fun c11 => ?_)
  · have c11 := bI_ne0.mp c11
    obtain ⟨u, hut, hue⟩ := wi_T (t := 3) c11 (by omega)
    subst hue
    obtain ⟨hy1, hy2⟩ := (hZ u (by omega)).e
    refine a_aload_n B dX7_copy_20 rfl ?_
    refine a_getR B fl_X7_29 (by decide) rfl rfl dX7_copy_21 ?_
    refine a_iload_n B dX7_copy_24 rfl ?_
    refine a_iald t B (by decide) rfl rfl (by omega) (by decide) dX7_copy_25 ?_
    refine a_if_eq 38 B dX7_copy_26 (by decide) (fun c26 => ?_) (fun c26 => ?_)
    · have c26x : M 6 t = 0 := (by have h := c26; rw [Nat.zero_add] at h; exact h)
      refine a_aload_n B dX7_copy_38 rfl ?_
      refine a_iconst (v := 5) B dX7_copy_39 (by decide) ?_
      refine a_callV1r B rfl cf_X7_finds lk_X7_109 in_X7_finds se_X7_finds (wl_rc (p0 := 0) (by decide) rfl rfl rfl) (m_finds 5 (by decide) _) dX7_copy_40 (Nat.le_of_ble_eq_true rfl) ⟨Nat.le_of_ble_eq_true rfl, Nat.le_of_ble_eq_true rfl⟩ ⟨rfl, rfl⟩ ?_
      exact a_iret B hr hlk dX7_copy_43 (rR_r0 (k := 5) (by unfold copR; rw [show wi (nI t) 3 = true from c4, show wi (nI u) 3 = true from c11, if_pos (show (true && true) = true from rfl), nn_nI (show t < 2 ^ 31 by omega), nn_nI (show u < 2 ^ 31 by omega), if_pos (Or.inl c26x)]) rfl rfl)
    have c26x : ¬ M 6 t = 0 := (by have h := c26; rw [Nat.zero_add] at h; exact h)
    refine a_aload_n B dX7_copy_29 rfl ?_
    refine a_getR B fl_X7_29 (by decide) rfl rfl dX7_copy_30 ?_
    refine a_iload_n B dX7_copy_33 rfl ?_
    refine a_iald u B (by decide) rfl rfl (by omega) (by decide) dX7_copy_34 ?_
    refine a_if_ne 44 B dX7_copy_35 (by decide) (fun c35 => ?_) (fun c35 => ?_)
    · have c35x : ¬ M 6 u = 0 := (by have h := c35; rw [Nat.zero_add] at h; exact h)
      refine a_aload_n B dX7_copy_44 rfl ?_
      refine a_getR B fl_X7_29 (by decide) rfl rfl dX7_copy_45 ?_
      refine a_iload_n B dX7_copy_48 rfl ?_
      refine a_iald t B (by decide) rfl rfl (by omega) (by decide) dX7_copy_49 ?_
      refine a_aload_n B dX7_copy_50 rfl ?_
      refine a_getR B fl_X7_29 (by decide) rfl rfl dX7_copy_51 ?_
      refine a_iload_n B dX7_copy_54 rfl ?_
      refine a_iald u B (by decide) rfl rfl (by omega) (by decide) dX7_copy_55 ?_
      refine a_icmp_eq 65 B dX7_copy_56 (by decide) (fun c56 => ?_) (fun c56 => ?_)
      · have c56x : M 6 t = M 6 u := by have h := c56; rw [Nat.zero_add, Nat.zero_add] at h; exact h
        refine a_iload_n B dX7_copy_65 rfl ?_
        refine a_if_lt 114 B dX7_copy_66 (by decide) (fun c66 => ?_) (fun c66 => ?_)
        · refine a_aload_n B dX7_copy_114 rfl ?_
          refine a_iconst (v := 0) B dX7_copy_115 (by decide) ?_
          refine a_callV1r B rfl cf_X7_finds lk_X7_109 in_X7_finds se_X7_finds (wl_rc (p0 := 0) (by decide) rfl rfl rfl) (m_finds 0 (by decide) _) dX7_copy_116 (Nat.le_of_ble_eq_true rfl) ⟨Nat.le_of_ble_eq_true rfl, Nat.le_of_ble_eq_true rfl⟩ ⟨rfl, rfl⟩ ?_
          have hc : cfit fr to n1 (szR M t) (szR M u) = false := by unfold cfit; rw [decide_eq_true c66]; rfl
          exact a_iret B hr hlk dX7_copy_119 (rR_r0 (k := 0) (by unfold copR; rw [show wi (nI t) 3 = true from c4, show wi (nI u) 3 = true from c11, if_pos (show (true && true) = true from rfl), nn_nI (show t < 2 ^ 31 by omega), nn_nI (show u < 2 ^ 31 by omega), if_neg (fun q => q.elim c26x c35x), if_pos c56x, hc]; rfl) rfl rfl)
        obtain ⟨a, ha0, hae⟩ := nI_of c66
        subst hae
        refine a_iload B dX7_copy_69 rfl ?_
        refine a_if_lt 114 B dX7_copy_71 (by decide) (fun c71 => ?_) (fun c71 => ?_)
        · refine a_aload_n B dX7_copy_114 rfl ?_
          refine a_iconst (v := 0) B dX7_copy_115 (by decide) ?_
          refine a_callV1r B rfl cf_X7_finds lk_X7_109 in_X7_finds se_X7_finds (wl_rc (p0 := 0) (by decide) rfl rfl rfl) (m_finds 0 (by decide) _) dX7_copy_116 (Nat.le_of_ble_eq_true rfl) ⟨Nat.le_of_ble_eq_true rfl, Nat.le_of_ble_eq_true rfl⟩ ⟨rfl, rfl⟩ ?_
          have hc : cfit (nI a) to n1 (szR M t) (szR M u) = false := by unfold cfit; rw [decide_eq_true c71, Bool.not_true, Bool.and_false]; rfl
          exact a_iret B hr hlk dX7_copy_119 (rR_r0 (k := 0) (by unfold copR; rw [show wi (nI t) 3 = true from c4, show wi (nI u) 3 = true from c11, if_pos (show (true && true) = true from rfl), nn_nI (show t < 2 ^ 31 by omega), nn_nI (show u < 2 ^ 31 by omega), if_neg (fun q => q.elim c26x c35x), if_pos c56x, hc]; rfl) rfl rfl)
        obtain ⟨b, hb0, hbe⟩ := nI_of c71
        subst hbe
        refine a_iload B dX7_copy_74 rfl ?_
        refine a_if_lt 114 B dX7_copy_76 (by decide) (fun c76 => ?_) (fun c76 => ?_)
        · refine a_aload_n B dX7_copy_114 rfl ?_
          refine a_iconst (v := 0) B dX7_copy_115 (by decide) ?_
          refine a_callV1r B rfl cf_X7_finds lk_X7_109 in_X7_finds se_X7_finds (wl_rc (p0 := 0) (by decide) rfl rfl rfl) (m_finds 0 (by decide) _) dX7_copy_116 (Nat.le_of_ble_eq_true rfl) ⟨Nat.le_of_ble_eq_true rfl, Nat.le_of_ble_eq_true rfl⟩ ⟨rfl, rfl⟩ ?_
          have hc : cfit (nI a) (nI b) n1 (szR M t) (szR M u) = false := by unfold cfit; rw [decide_eq_true c76, Bool.not_true, Bool.and_false]; rfl
          exact a_iret B hr hlk dX7_copy_119 (rR_r0 (k := 0) (by unfold copR; rw [show wi (nI t) 3 = true from c4, show wi (nI u) 3 = true from c11, if_pos (show (true && true) = true from rfl), nn_nI (show t < 2 ^ 31 by omega), nn_nI (show u < 2 ^ 31 by omega), if_neg (fun q => q.elim c26x c35x), if_pos c56x, hc]; rfl) rfl rfl)
        obtain ⟨n, hn0, hne⟩ := nI_of c76
        subst hne
        refine a_iload_n B dX7_copy_79 rfl ?_
        refine a_i2l B dX7_copy_80 ?_
        refine a_iload B dX7_copy_81 rfl ?_
        refine a_i2l B dX7_copy_83 ?_
        refine a_ladd B dX7_copy_84 ?_
        refine a_aload_n B dX7_copy_85 rfl ?_
        refine a_getR B fl_X7_32 (by decide) rfl rfl dX7_copy_86 ?_
        refine a_iload_n B dX7_copy_89 rfl ?_
        refine a_iald t B (by decide) rfl rfl (by omega) (by decide) dX7_copy_90 ?_
        rw [show M 7 (0 + t) = nI (szR M t) from by rw [Nat.zero_add]; exact hz2]
        refine a_i2l B dX7_copy_91 ?_
        refine a_lcmp B dX7_copy_92 ?_
        refine a_if_gt 114 B dX7_copy_93 (by decide) (fun c93 => ?_) (fun c93 => ?_)
        · refine a_aload_n B dX7_copy_114 rfl ?_
          refine a_iconst (v := 0) B dX7_copy_115 (by decide) ?_
          refine a_callV1r B rfl cf_X7_finds lk_X7_109 in_X7_finds se_X7_finds (wl_rc (p0 := 0) (by decide) rfl rfl rfl) (m_finds 0 (by decide) _) dX7_copy_116 (Nat.le_of_ble_eq_true rfl) ⟨Nat.le_of_ble_eq_true rfl, Nat.le_of_ble_eq_true rfl⟩ ⟨rfl, rfl⟩ ?_
          have hc : cfit (nI a) (nI b) (nI n) (szR M t) (szR M u) = false := by unfold cfit; rw [nn_nI ha0, nn_nI hn0, decide_eq_true ((add_cmp ha0 hn0 hz1).mp c93), Bool.not_true, Bool.and_false]; rfl
          exact a_iret B hr hlk dX7_copy_119 (rR_r0 (k := 0) (by unfold copR; rw [show wi (nI t) 3 = true from c4, show wi (nI u) 3 = true from c11, if_pos (show (true && true) = true from rfl), nn_nI (show t < 2 ^ 31 by omega), nn_nI (show u < 2 ^ 31 by omega), if_neg (fun q => q.elim c26x c35x), if_pos c56x, hc]; rfl) rfl rfl)
        refine a_iload B dX7_copy_96 rfl ?_
        refine a_i2l B dX7_copy_98 ?_
        refine a_iload B dX7_copy_99 rfl ?_
        refine a_i2l B dX7_copy_101 ?_
        refine a_ladd B dX7_copy_102 ?_
        refine a_aload_n B dX7_copy_103 rfl ?_
        refine a_getR B fl_X7_32 (by decide) rfl rfl dX7_copy_104 ?_
        refine a_iload_n B dX7_copy_107 rfl ?_
        refine a_iald u B (by decide) rfl rfl (by omega) (by decide) dX7_copy_108 ?_
        rw [show M 7 (0 + u) = nI (szR M u) from by rw [Nat.zero_add]; exact hy2]
        refine a_i2l B dX7_copy_109 ?_
        refine a_lcmp B dX7_copy_110 ?_
        refine a_if_le 120 B dX7_copy_111 (by decide) (fun c111 => ?_) (fun c111 => ?_)
        · have han : a + n ≤ szR M t := Nat.le_of_not_lt (fun q => c93 ((add_cmp ha0 hn0 hz1).mpr q))
          have hbn : b + n ≤ szR M u := Nat.le_of_not_lt (fun q => absurd ((add_cmp hb0 hn0 hy1).mpr q) (Int32.not_lt.mpr c111))
          have hcf : cfit (nI a) (nI b) (nI n) (szR M t) (szR M u) = true := by unfold cfit; rw [decide_eq_false c66, decide_eq_false c71, decide_eq_false c76, nn_nI ha0, nn_nI hb0, nn_nI hn0, decide_eq_false (show ¬ szR M t < a + n by omega), decide_eq_false (show ¬ szR M u < b + n by omega)]; rfl
          have hXX : copR M (nI t) (nI a) (nI u) (nI b) (nI n) = (.inl (nI n), stB M 8 (numD M (40 * t + a) (40 * u + b) n)) := by unfold copR; rw [show wi (nI t) 3 = true from c4, show wi (nI u) 3 = true from c11, if_pos (show (true && true) = true from rfl), nn_nI (show t < 2 ^ 31 by omega), nn_nI (show u < 2 ^ 31 by omega), if_neg (fun q => q.elim c26x c35x), if_pos c56x, hcf, if_pos rfl, nn_nI ha0, nn_nI hb0, nn_nI hn0]
          rw [hXX]
          obtain ⟨X1, hX⟩ : ∃ X1 : Oc, X1 = .inl (nI n) := ⟨_, rfl⟩
          show AW Pp l Ee (rmK 2 (34 * 2)) Ss Mm Aa Bb Me Cc D (wl A cy 11 TM X) A0 7 0 0 (MQ Bb (QG D (wl A cy 11 TM X) A0 (rR (.inl (nI n)) (stB M 8 (numD M (40 * t + a) (40 * u + b) n)) M)) Aa Ss 0 0 A0) 120 [some (.ref (A 0)), some (.int (nI t)), some (.int (nI a)), some (.int (nI u)), some (.int (nI b)), some (.int (nI n)), none] [] (M)
          rw [← hX]
          have l2 : AW Pp l Ee (rmK 2 (34 * 2)) Ss Mm Aa Bb Me Cc D (wl A cy 11 TM X) A0 7 0 0 (MQ Bb (QG D (wl A cy 11 TM X) A0 (rR X1 (stB M 8 (numD M (40 * t + a) (40 * u + b) n)) M)) Aa Ss 0 0 A0) 160 [some (.ref (A 0)), some (.int (nI t)), some (.int (nI a)), some (.int (nI u)), some (.int (nI b)), some (.int (nI n)), some (.int 0)] [] (stB M 9 (pasD M (40 * t + a) n)) := by
            have lp : ∀ n2 k, n + 1 ≤ k + n2 → k ≤ n → AW Pp l Ee (rmK 2 (34 * 2)) Ss Mm Aa Bb Me Cc D (wl A cy 11 TM X) A0 7 0 0 (MQ Bb (QG D (wl A cy 11 TM X) A0 (rR X1 (stB M 8 (numD M (40 * t + a) (40 * u + b) n)) M)) Aa Ss 0 0 A0) 160 [some (.ref (A 0)), some (.int (nI t)), some (.int (nI a)), some (.int (nI u)), some (.int (nI b)), some (.int (nI n)), some (.int (nI k))] [] (CM M (40 * t + a) (40 * u + b) n k) := by
              intro n2
              induction n2 with
              | zero => intro k h1 h2; omega
              | succ n2 ih =>
                intro k h1 h2
                refine a_iload B dX7_copy_160 rfl ?_
                refine a_iload B dX7_copy_162 rfl ?_
                refine a_icmp_ge 195 B dX7_copy_164 (by decide) (fun c164 => ?_) (fun c164 => ?_)
                · have e1 : k = n := by have := (nI_leI (a := n) (b := k) (by omega) (by omega)).mp c164; omega
                  subst e1
                  refine a_iload B dX7_copy_195 rfl ?_
                  exact a_iret B hr hlk dX7_copy_197 (rR_l hX CM_q)
                have hlt0 : k < n := (nI_ltI (a := k) (b := n) (by omega) (by omega)).mp (Int32.not_le.mp c164)
                refine a_aload_n B dX7_copy_167 rfl ?_
                refine a_getR B fl_X7_35 (by decide) rfl rfl dX7_copy_168 ?_
                refine a_bipush (v := 40) B dX7_copy_171 (by decide) ?_
                refine a_iload_n B dX7_copy_173 rfl ?_
                refine a_imul B dX7_copy_174 ?_
                refine a_iload B dX7_copy_175 rfl ?_
                refine a_iadd B dX7_copy_177 ?_
                refine a_iload B dX7_copy_178 rfl ?_
                refine a_iadd B dX7_copy_180 ?_
                refine a_aload_n B dX7_copy_181 rfl ?_
                refine a_getR B fl_X7_38 (by decide) rfl rfl dX7_copy_182 ?_
                refine a_iload B dX7_copy_185 rfl ?_
                refine a_iald k B (by decide) rfl rfl (by omega) (by decide) dX7_copy_187 ?_
                rw [show CM M (40 * t + a) (40 * u + b) n k 9 (0 + k) = M 8 (40 * t + a + k) from by unfold CM pasD; rw [stB_ne (by decide), stB_at, Nat.zero_add, if_pos hlt0]]
                refine a_iast (40 * u + b + k) B twM (by decide) rfl (ix_num3 u b k) (by omega) (by decide) dX7_copy_188 ?_
                refine p_iinc6 1 B dX7_copy_189 (by decide) (by decide) (k := ?_)
                refine a_goto 160 B dX7_copy_192 (by decide) ?_
                rw [nI_1]
                refine a_mem ?_ (ih (k + 1) (by omega) (by omega))
                unfold CM
                rw [upB_stB, Nat.zero_add (40 * u + b + k), num_s]
            refine a_mem ?_ (lp (n + 1) 0 (by omega) (by omega))
            unfold CM
            rw [num_0, show M 8 = stB M 9 (pasD M (40 * t + a) n) 8 from (stB_ne (by decide)).symm, stB_id]
          have lp : ∀ n2 k, n + 1 ≤ k + n2 → k ≤ n → AW Pp l Ee (rmK 2 (34 * 2)) Ss Mm Aa Bb Me Cc D (wl A cy 11 TM X) A0 7 0 0 (MQ Bb (QG D (wl A cy 11 TM X) A0 (rR X1 (stB M 8 (numD M (40 * t + a) (40 * u + b) n)) M)) Aa Ss 0 0 A0) 123 [some (.ref (A 0)), some (.int (nI t)), some (.int (nI a)), some (.int (nI u)), some (.int (nI b)), some (.int (nI n)), some (.int (nI k))] [] (stB M 9 (pasD M (40 * t + a) k)) := by
            intro n2
            induction n2 with
            | zero => intro k h1 h2; omega
            | succ n2 ih =>
              intro k h1 h2
              refine a_iload B dX7_copy_123 rfl ?_
              refine a_iload B dX7_copy_125 rfl ?_
              refine a_icmp_ge 157 B dX7_copy_127 (by decide) (fun c127 => ?_) (fun c127 => ?_)
              · have e1 : k = n := by have := (nI_leI (a := n) (b := k) (by omega) (by omega)).mp c127; omega
                subst e1
                refine a_iconst (v := 0) B dX7_copy_157 (by decide) ?_
                refine p_istore6 B dX7_copy_158 (by decide) (k := ?_)
                exact l2
              have hlt0 : k < n := (nI_ltI (a := k) (b := n) (by omega) (by omega)).mp (Int32.not_le.mp c127)
              refine a_aload_n B dX7_copy_130 rfl ?_
              refine a_getR B fl_X7_38 (by decide) rfl rfl dX7_copy_131 ?_
              refine a_iload B dX7_copy_134 rfl ?_
              refine a_aload_n B dX7_copy_136 rfl ?_
              refine a_getR B fl_X7_35 (by decide) rfl rfl dX7_copy_137 ?_
              refine a_bipush (v := 40) B dX7_copy_140 (by decide) ?_
              refine a_iload_n B dX7_copy_142 rfl ?_
              refine a_imul B dX7_copy_143 ?_
              refine a_iload_n B dX7_copy_144 rfl ?_
              refine a_iadd B dX7_copy_145 ?_
              refine a_iload B dX7_copy_146 rfl ?_
              refine a_iadd B dX7_copy_148 ?_
              refine a_iald (40 * t + a + k) B (by decide) rfl (ix_num3 t a k) (by omega) (by decide) dX7_copy_149 ?_
              rw [Nat.zero_add (40 * t + a + k), stB_ne (show (8 : Nat) ≠ 9 by decide)]
              refine a_iast k B twM (by decide) rfl rfl (by omega) (by decide) dX7_copy_150 ?_
              refine p_iinc6 1 B dX7_copy_151 (by decide) (by decide) (k := ?_)
              refine a_goto 123 B dX7_copy_154 (by decide) ?_
              rw [nI_1]
              refine a_mem ?_ (ih (k + 1) (by omega) (by omega))
              rw [upB_stB, Nat.zero_add k, pas_s]
          refine a_iconst (v := 0) B dX7_copy_120 (by decide) ?_
          refine p_istore6 B dX7_copy_121 (by decide) (k := ?_)
          refine a_mem ?_ (lp (n + 1) 0 (by omega) (by omega))
          rw [pas_0, stB_id]
        refine a_aload_n B dX7_copy_114 rfl ?_
        refine a_iconst (v := 0) B dX7_copy_115 (by decide) ?_
        refine a_callV1r B rfl cf_X7_finds lk_X7_109 in_X7_finds se_X7_finds (wl_rc (p0 := 0) (by decide) rfl rfl rfl) (m_finds 0 (by decide) _) dX7_copy_116 (Nat.le_of_ble_eq_true rfl) ⟨Nat.le_of_ble_eq_true rfl, Nat.le_of_ble_eq_true rfl⟩ ⟨rfl, rfl⟩ ?_
        have hc : cfit (nI a) (nI b) (nI n) (szR M t) (szR M u) = false := by unfold cfit; rw [nn_nI hb0, nn_nI hn0, decide_eq_true ((add_cmp hb0 hn0 hy1).mp (Int32.not_le.mp c111)), Bool.not_true, Bool.and_false]
        exact a_iret B hr hlk dX7_copy_119 (rR_r0 (k := 0) (by unfold copR; rw [show wi (nI t) 3 = true from c4, show wi (nI u) 3 = true from c11, if_pos (show (true && true) = true from rfl), nn_nI (show t < 2 ^ 31 by omega), nn_nI (show u < 2 ^ 31 by omega), if_neg (fun q => q.elim c26x c35x), if_pos c56x, hc]; rfl) rfl rfl)
      have c56x : ¬ M 6 t = M 6 u := by have h := c56; rw [Nat.zero_add, Nat.zero_add] at h; exact h
      refine a_aload_n B dX7_copy_59 rfl ?_
      refine a_iconst (v := 2) B dX7_copy_60 (by decide) ?_
      refine a_callV1r B rfl cf_X7_finds lk_X7_109 in_X7_finds se_X7_finds (wl_rc (p0 := 0) (by decide) rfl rfl rfl) (m_finds 2 (by decide) _) dX7_copy_61 (Nat.le_of_ble_eq_true rfl) ⟨Nat.le_of_ble_eq_true rfl, Nat.le_of_ble_eq_true rfl⟩ ⟨rfl, rfl⟩ ?_
      exact a_iret B hr hlk dX7_copy_64 (rR_r0 (k := 2) (by unfold copR; rw [show wi (nI t) 3 = true from c4, show wi (nI u) 3 = true from c11, if_pos (show (true && true) = true from rfl), nn_nI (show t < 2 ^ 31 by omega), nn_nI (show u < 2 ^ 31 by omega), if_neg (fun q => q.elim c26x c35x), if_neg c56x]) rfl rfl)
    have c35x : M 6 u = 0 := (by have h := c35; rw [Nat.zero_add] at h; exact h)
    refine a_aload_n B dX7_copy_38 rfl ?_
    refine a_iconst (v := 5) B dX7_copy_39 (by decide) ?_
    refine a_callV1r B rfl cf_X7_finds lk_X7_109 in_X7_finds se_X7_finds (wl_rc (p0 := 0) (by decide) rfl rfl rfl) (m_finds 5 (by decide) _) dX7_copy_40 (Nat.le_of_ble_eq_true rfl) ⟨Nat.le_of_ble_eq_true rfl, Nat.le_of_ble_eq_true rfl⟩ ⟨rfl, rfl⟩ ?_
    exact a_iret B hr hlk dX7_copy_43 (rR_r0 (k := 5) (by unfold copR; rw [show wi (nI t) 3 = true from c4, show wi (nI u) 3 = true from c11, if_pos (show (true && true) = true from rfl), nn_nI (show t < 2 ^ 31 by omega), nn_nI (show u < 2 ^ 31 by omega), if_pos (Or.inr c35x)]) rfl rfl)
  have c11 := bI_eq0.mp c11
  refine a_aload_n B dX7_copy_14 rfl ?_
  refine a_iconst (v := 0) B dX7_copy_15 (by decide) ?_
  refine a_callV1r B rfl cf_X7_finds lk_X7_109 in_X7_finds se_X7_finds (wl_rc (p0 := 0) (by decide) rfl rfl rfl) (m_finds 0 (by decide) _) dX7_copy_16 (Nat.le_of_ble_eq_true rfl) ⟨Nat.le_of_ble_eq_true rfl, Nat.le_of_ble_eq_true rfl⟩ ⟨rfl, rfl⟩ ?_
  exact a_iret B hr hlk dX7_copy_19 (rR_r0 (k := 0) (by unfold copR; rw [show wi t1 3 = false from c11, Bool.and_false]; rfl) rfl rfl)
end R21
