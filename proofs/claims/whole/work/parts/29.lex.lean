section C16

def runN (P : Nat → Bool) : Nat → Nat → Nat
  | 0, k => k
  | n + 1, k => if P k then runN P n (k + 1) else k
theorem run_go {P : Nat → Bool} {k b : Nat} (hk : k < b) (h : P k = true) : runN P (b - k) k = runN P (b - (k + 1)) (k + 1) := by
  rw [show b - k = (b - (k + 1)) + 1 by omega, runN, if_pos h]
theorem run_no {P : Nat → Bool} {k b : Nat} (h : P k = false) : runN P (b - k) k = k := by
  cases hn : b - k with
  | zero => rfl
  | succ n => rw [runN, h, if_neg (by decide)]
theorem run_le {P : Nat → Bool} : ∀ n k, k ≤ runN P n k ∧ runN P n k ≤ k + n := by
  intro n
  induction n with
  | zero => intro k; exact ⟨Nat.le_refl _, Nat.le_refl _⟩
  | succ n ih =>
    intro k
    rw [runN]
    split
    · have := ih (k + 1); omega
    · omega
def isL (x : Int32) : Bool := !decide (x < 97) && !decide (122 < x)
def isD (x : Int32) : Bool := !decide (x < 48) && !decide (57 < x)
def numN (g : Nat → Int32) : Nat → Nat → Int32 → Int32
  | 0, _, v => v
  | n + 1, k, v => if isD (g k) then numN g n (k + 1) (mnI (10 * v + g k - 48) 10000) else v
def lxS (g : Nat → Int32) (e : Nat) : Nat := runN (fun k => decide (g k = 32)) (120 - e) e
def lxT (g : Nat → Int32) (s : Nat) : Int32 := if g s < 0 then 0 else if isL (g s) then 1 else if isD (g s) then 2 else if g s = 59 then 3 else 4
def lxE (g : Nat → Int32) (s : Nat) : Nat := if g s < 0 then s else if isL (g s) then runN (fun k => isL (g k)) (120 - s) s else if isD (g s) then runN (fun k => isD (g k)) (120 - s) s else s + 1
def lxV (g : Nat → Int32) (s : Nat) : Int32 := numN g (120 - s) s 0
def rd (q : Dm) (t s e v : Int32) : Dm := fun j => if j = 0 then t else if j = 1 then s else if j = 2 then e else if j = 3 then v else q j
theorem rd_id (q : Dm) : rd q (q 0) (q 1) (q 2) (q 3) = q := by
  funext j; unfold rd; split
  · next h => rw [h]
  · split
    · next h => rw [h]
    · split
      · next h => rw [h]
      · split
        · next h => rw [h]
        · rfl
theorem rd_u0 {q : Dm} {t s e v x : Int32} : upd (rd q t s e v) 0 x = rd q x s e v := by
  funext j; unfold upd rd; split <;> rfl
theorem rd_u1 {q : Dm} {t s e v x : Int32} : upd (rd q t s e v) 1 x = rd q t x e v := by
  funext j; unfold upd rd; split
  · next h => subst h; rfl
  · rfl
theorem rd_u2 {q : Dm} {t s e v x : Int32} : upd (rd q t s e v) 2 x = rd q t s x v := by
  funext j; unfold upd rd; split
  · next h => subst h; rfl
  · rfl
theorem rd_u3 {q : Dm} {t s e v x : Int32} : upd (rd q t s e v) 3 x = rd q t s e x := by
  funext j; unfold upd rd; split
  · next h => subst h; rfl
  · rfl
theorem rd_0 {q : Dm} {t s e v : Int32} : rd q t s e v 0 = t := rfl
theorem rd_1 {q : Dm} {t s e v : Int32} : rd q t s e v 1 = s := rfl
theorem rd_2 {q : Dm} {t s e v : Int32} : rd q t s e v 2 = e := rfl
theorem rd_3 {q : Dm} {t s e v : Int32} : rd q t s e v 3 = v := rfl
theorem rd_5 {q : Dm} {t s e v : Int32} : rd q t s e v 5 = q 5 := rfl
def advD (g : Nat → Int32) (q : Dm) (e : Nat) : Dm := rd q (lxT g (lxS g e)) (nI (lxS g e)) (nI (lxE g (lxS g e))) (if lxT g (lxS g e) = 2 then lxV g (lxS g e) else q 3)
def tapOk (M : Mem) : Prop := ∃ L, L ≤ 120 ∧ M 4 5 = nI L
def tapB (M : Mem) (k : Nat) : Int32 := if k < tapeL M then M 5 k &&& 255 else -1
theorem tapB_rd {M : Mem} {q : Dm} (h : q 5 = M 4 5) : tapB (stB M 4 q) = tapB M := by
  funext k
  unfold tapB tapeL
  rw [stB_at, h, stB_ne (by decide)]
theorem tapB_no {M : Mem} {k : Nat} (h : tapOk M) (hk : 120 ≤ k) : tapB M k = -1 := by
  have := (tapeL_e h).1
  unfold tapB
  rw [if_neg (by omega)]

variable {l : Launch} {sk : (Nat → Nat) × (Nat → Nat)} {D : va_G} {cy : Nat → ClassId} {A : Nat → Nat} {X : va_W}
set_option maxRecDepth 20000 in
theorem k_X5_byteAt (k : Nat) (hk : k ≤ 120) (M : Mem) (hT : tapOk M) : CC l sk D cy A X mX5_byteAt 0 [.ref (A 39), .int (nI k)] M (rI (tapB M k) M) := by
  refine Con.of (lo := [some (.ref (A 39)), some (.int (nI k))]) cf_X5_byteAt (fun _ _ => wl_fst) 0 rfl (Nat.le_of_ble_eq_true rfl) (fun Pp Ee Ss Mm Aa Bb Me Cc A0 B hr hlk => ?_)
  have B : BS sk D cy (wl A cy 51 TC X) A0 Pp Ss Mm Aa Cc RX5 cX5_byteAt 2 := B
  obtain ⟨hL, hML⟩ := tapeL_e hT
  refine a_iload_n B dX5_byteAt_0 rfl ?_
  refine a_if_lt 31 B dX5_byteAt_1 (by decide) (fun c1 => ?_) (fun c1 => ?_)
  · exact absurd c1 (nI_pos (by omega))
  refine a_iload_n B dX5_byteAt_4 rfl ?_
  refine a_aload_n B dX5_byteAt_5 rfl ?_
  refine a_getI B fl_X5_15 (by decide) rfl rfl dX5_byteAt_6 ?_
  rw [hML]
  refine a_icmp_ge 31 B dX5_byteAt_9 (by decide) (fun c9 => ?_) (fun c9 => ?_)
  · have hX : tapB M k = -1 := by unfold tapB; rw [if_neg (fun hh => absurd (nI_lt hh (by omega)) (Int32.not_lt.mpr c9))]
    refine a_iconst (v := (-1)) B dX5_byteAt_31 (by decide) ?_
    exact a_iret B hr hlk dX5_byteAt_32 ⟨congrArg (fun z => some (Value.int z)) (by first | (rw [hX]; done) | (rw [hX, Nat.zero_add])), rfl⟩
  have hkL : k < tapeL M := (nI_ltI (by omega) (by omega)).mp (Int32.not_le.mp c9)
  have hX : tapB M k = M 5 k &&& 255 := by unfold tapB; rw [if_pos hkL]
  refine a_iload_n B dX5_byteAt_12 rfl ?_
  refine a_bipush (v := 120) B dX5_byteAt_13 (by decide) ?_
  refine a_icmp_ge 31 B dX5_byteAt_15 (by decide) (fun c15 => ?_) (fun c15 => ?_)
  · exact absurd (ge_n (b := 120) c15 rfl rfl (by omega) (by omega)) (by omega)
  refine a_aload_n B dX5_byteAt_18 rfl ?_
  refine a_getR B fl_X5_9 (by decide) rfl rfl dX5_byteAt_19 ?_
  refine a_iload_n B dX5_byteAt_22 rfl ?_
  refine a_bald k B (by decide) rfl rfl (by omega) (by decide) dX5_byteAt_23 ?_
  refine a_sipush (v := 255) B dX5_byteAt_24 (by decide) ?_
  refine a_iand B dX5_byteAt_27 ?_
  refine a_goto 32 B dX5_byteAt_28 (by decide) ?_
  exact a_iret B hr hlk dX5_byteAt_32 ⟨congrArg (fun z => some (Value.int z)) (by first | (rw [hX]; done) | (rw [hX, Nat.zero_add])), rfl⟩
set_option maxRecDepth 20000 in
theorem k_X2_isLetter (x : Int32) (M : Mem) : CC l sk D cy A X mX2_isLetter 0 [.int x] M (rI (bI (isL x)) M) := by
  refine Con.of (lo := [some (.int x)]) cf_X2_isLetter (fun _ _ => wl_fst) 0 rfl (Nat.le_of_ble_eq_true rfl) (fun Pp Ee Ss Mm Aa Bb Me Cc A0 B hr hlk => ?_)
  have B : BS sk D cy (wl A cy 51 TC X) A0 Pp Ss Mm Aa Cc RX2 cX2_isLetter 1 := B
  refine a_iload_n B dX2_isLetter_0 rfl ?_
  refine a_bipush (v := 97) B dX2_isLetter_1 (by decide) ?_
  refine a_icmp_lt 16 B dX2_isLetter_3 (by decide) (fun c3 => ?_) (fun c3 => ?_)
  · refine a_iconst (v := 0) B dX2_isLetter_16 (by decide) ?_
    exact a_zret B hr hlk (rfl) dX2_isLetter_17 ⟨congrArg (fun z => some (Value.int z)) (by simp [isL, bI, c3]), rfl⟩
  refine a_iload_n B dX2_isLetter_6 rfl ?_
  refine a_bipush (v := 122) B dX2_isLetter_7 (by decide) ?_
  refine a_icmp_gt 16 B dX2_isLetter_9 (by decide) (fun c9 => ?_) (fun c9 => ?_)
  · refine a_iconst (v := 0) B dX2_isLetter_16 (by decide) ?_
    exact a_zret B hr hlk (rfl) dX2_isLetter_17 ⟨congrArg (fun z => some (Value.int z)) (by simp [isL, bI, c3, c9]), rfl⟩
  refine a_iconst (v := 1) B dX2_isLetter_12 (by decide) ?_
  refine a_goto 17 B dX2_isLetter_13 (by decide) ?_
  exact a_zret B hr hlk (rfl) dX2_isLetter_17 ⟨congrArg (fun z => some (Value.int z)) (by simp [isL, bI, c3, c9]), rfl⟩
set_option maxRecDepth 20000 in
theorem k_X2_isDigit (x : Int32) (M : Mem) : CC l sk D cy A X mX2_isDigit 0 [.int x] M (rI (bI (isD x)) M) := by
  refine Con.of (lo := [some (.int x)]) cf_X2_isDigit (fun _ _ => wl_fst) 0 rfl (Nat.le_of_ble_eq_true rfl) (fun Pp Ee Ss Mm Aa Bb Me Cc A0 B hr hlk => ?_)
  have B : BS sk D cy (wl A cy 51 TC X) A0 Pp Ss Mm Aa Cc RX2 cX2_isDigit 1 := B
  refine a_iload_n B dX2_isDigit_0 rfl ?_
  refine a_bipush (v := 48) B dX2_isDigit_1 (by decide) ?_
  refine a_icmp_lt 16 B dX2_isDigit_3 (by decide) (fun c3 => ?_) (fun c3 => ?_)
  · refine a_iconst (v := 0) B dX2_isDigit_16 (by decide) ?_
    exact a_zret B hr hlk (rfl) dX2_isDigit_17 ⟨congrArg (fun z => some (Value.int z)) (by simp [isD, bI, c3]), rfl⟩
  refine a_iload_n B dX2_isDigit_6 rfl ?_
  refine a_bipush (v := 57) B dX2_isDigit_7 (by decide) ?_
  refine a_icmp_gt 16 B dX2_isDigit_9 (by decide) (fun c9 => ?_) (fun c9 => ?_)
  · refine a_iconst (v := 0) B dX2_isDigit_16 (by decide) ?_
    exact a_zret B hr hlk (rfl) dX2_isDigit_17 ⟨congrArg (fun z => some (Value.int z)) (by simp [isD, bI, c3, c9]), rfl⟩
  refine a_iconst (v := 1) B dX2_isDigit_12 (by decide) ?_
  refine a_goto 17 B dX2_isDigit_13 (by decide) ?_
  exact a_zret B hr hlk (rfl) dX2_isDigit_17 ⟨congrArg (fun z => some (Value.int z)) (by simp [isD, bI, c3, c9]), rfl⟩
theorem k_byteR (k : Nat) (hk : k ≤ 120) (M : Mem) (hT : tapOk M) (q : Dm) (hq : q 5 = M 4 5) : CC l sk D cy A X mX5_byteAt 0 [.ref (A 39), .int (nI k)] (stB M 4 q) (rI (tapB M k) (stB M 4 q)) := by
  have h := k_X5_byteAt (l := l) (sk := sk) (D := D) (cy := cy) (A := A) (X := X) k hk (stB M 4 q) (by obtain ⟨L, h1, h2⟩ := hT; exact ⟨L, h1, by rw [stB_at, hq]; exact h2⟩)
  rw [tapB_rd hq] at h
  exact h
theorem num_go {g : Nat → Int32} {k b : Nat} {v : Int32} (hk : k < b) (h : isD (g k) = true) : numN g (b - k) k v = numN g (b - (k + 1)) (k + 1) (mnI (10 * v + g k - 48) 10000) := by
  rw [show b - k = (b - (k + 1)) + 1 by omega, numN, if_pos h]
theorem num_no {g : Nat → Int32} {k b : Nat} {v : Int32} (h : isD (g k) = false) : numN g (b - k) k v = v := by
  cases hn : b - k with
  | zero => rfl
  | succ n => rw [numN, h, if_neg (by decide)]
set_option maxRecDepth 20000 in
set_option maxHeartbeats 4000000 in
theorem k_X2_advance (M : Mem) (e : Nat) (he : e ≤ 120) (hT : tapOk M) (he2 : M 4 2 = nI e) : CC l sk D cy A X mX2_advance 1 [.ref (A 38)] M (rV (stB M 4 (advD (tapB M) (M 4) e))) := by
  refine Con.of (lo := [some (.ref (A 38)), none]) cf_X2_advance (fun _ _ => wl_fst) 1 rfl (Nat.le_of_ble_eq_true rfl) (fun Pp Ee Ss Mm Aa Bb Me Cc A0 B hr hlk => ?_)
  have B : BS sk D cy (wl A cy 51 TC X) A0 Pp Ss Mm Aa Cc RX2 cX2_advance 2 := B
  obtain ⟨s, hs⟩ : ∃ s, s = lxS (tapB M) e := ⟨_, rfl⟩
  have hs2 : s ≤ 120 := by have := run_le (P := fun k => decide (tapB M k = 32)) (120 - e) e; unfold lxS at hs; omega
  have loopL : lxT (tapB M) s = 1 → lxE (tapB M) s = runN (fun k => isL (tapB M k)) (120 - s) s → ∀ n k, 121 ≤ k + n → k ≤ 120 → runN (fun k => isL (tapB M k)) (120 - k) k = runN (fun k => isL (tapB M k)) (120 - s) s → AW Pp l Ee (rmK 1 (34 * 1)) Ss Mm Aa Bb Me Cc D (wl A cy 51 TC X) A0 2 0 0 (MQ Bb (QG D (wl A cy 51 TC X) A0 (rV (stB M 4 (advD (tapB M) (M 4) e)))) Aa Ss 0 0 A0) 90 [some (.ref (A 38)), some (.int (tapB M s))] [] (stB M 4 (rd (M 4) 1 (nI s) (nI k) (M 4 3))) := by
    intro hTL hEL n
    induction n with
    | zero => intro k h1 h2; omega
    | succ n ih =>
      intro k h1 h2 h3
      refine a_aload_n B dX2_advance_90 rfl ?_
      refine a_getI B fl_X2_25 (by decide) rfl rfl dX2_advance_91 ?_
      refine a_bipush (v := 120) B dX2_advance_94 (by decide) ?_
      try simp only [upB_stB, stB_at, rd_u0, rd_u1, rd_u2, rd_u3, rd_0, rd_1, rd_2, rd_3]
      refine a_icmp_ge 242 B dX2_advance_96 (by decide) (fun c96 => ?_) (fun c96 => ?_)
      · have e1 : k = 120 := by have := ge_n (b := 120) c96 rfl rfl (by omega) (by omega); omega
        subst e1
        have hE0 : lxE (tapB M) (lxS (tapB M) e) = 120 := by rw [← hs, hEL, ← h3]; rfl
        exact a_vret B hr hlk dX2_advance_242 ⟨rfl, by unfold advD; rw [hE0, ← hs, hTL, if_neg (by decide)]⟩
      have hlt0 := lt_n (b := 120) c96 rfl rfl (by omega) (by omega)
      refine a_aload_n B dX2_advance_99 rfl ?_
      refine a_getR B fl_X2_12 (by decide) rfl rfl dX2_advance_100 ?_
      refine a_aload_n B dX2_advance_103 rfl ?_
      refine a_getI B fl_X2_25 (by decide) rfl rfl dX2_advance_104 ?_
      try simp only [upB_stB, stB_at, rd_u0, rd_u1, rd_u2, rd_u3, rd_0, rd_1, rd_2, rd_3]
      refine a_callV1r B rfl cf_X5_byteAt lk_X2_135 in_X5_byteAt se_X5_byteAt (wl_rc (p0 := 39) (by decide) rfl rfl rfl) (k_byteR k (by omega) M hT _ rfl) dX2_advance_107 (Nat.le_of_ble_eq_true rfl) ⟨Nat.le_of_ble_eq_true rfl, Nat.le_of_ble_eq_true rfl⟩ ⟨rfl, rfl⟩ ?_
      try simp only [upB_stB, stB_at, rd_u0, rd_u1, rd_u2, rd_u3, rd_0, rd_1, rd_2, rd_3]
      refine a_callS1r B rfl cf_X2_isLetter lk_X2_143 st_X2_isLetter (k_X2_isLetter _ _) dX2_advance_110 (Nat.le_of_ble_eq_true rfl) ⟨Nat.le_of_ble_eq_true rfl, Nat.le_of_ble_eq_true rfl⟩ ⟨rfl, rfl⟩ ?_
      refine a_if_eq 242 B dX2_advance_113 (by decide) (fun c113 => ?_) (fun c113 => ?_)
      · have c113 := bI_eq0.mp c113
        have hE0 : lxE (tapB M) (lxS (tapB M) e) = k := by rw [← hs, hEL, ← h3]; exact run_no c113
        exact a_vret B hr hlk dX2_advance_242 ⟨rfl, by unfold advD; rw [hE0, ← hs, hTL, if_neg (by decide)]⟩
      have c113 := bI_ne0.mp c113
      refine a_aload_n B dX2_advance_116 rfl ?_
      refine a_dup B dX2_advance_117 rfl ?_
      refine a_getI B fl_X2_25 (by decide) rfl rfl dX2_advance_118 ?_
      refine a_iconst (v := 1) B dX2_advance_121 (by decide) ?_
      refine a_iadd B dX2_advance_122 ?_
      refine a_putI B twC fl_X2_25 fp_2_3 (by decide) rfl rfl dX2_advance_123 ?_
      refine a_goto 90 B dX2_advance_126 (by decide) ?_
      try simp only [upB_stB, stB_at, rd_u0, rd_u1, rd_u2, rd_u3, rd_0, rd_1, rd_2, rd_3]
      rw [nI_1]
      exact ih (k + 1) (by omega) (by omega) ((run_go hlt0 c113).symm.trans h3)
  have loopD : lxT (tapB M) s = 2 → lxE (tapB M) s = runN (fun k => isD (tapB M k)) (120 - s) s → ∀ n k v, 121 ≤ k + n → k ≤ 120 → runN (fun k => isD (tapB M k)) (120 - k) k = runN (fun k => isD (tapB M k)) (120 - s) s → numN (tapB M) (120 - k) k v = lxV (tapB M) s → AW Pp l Ee (rmK 1 (34 * 1)) Ss Mm Aa Bb Me Cc D (wl A cy 51 TC X) A0 2 0 0 (MQ Bb (QG D (wl A cy 51 TC X) A0 (rV (stB M 4 (advD (tapB M) (M 4) e)))) Aa Ss 0 0 A0) 146 [some (.ref (A 38)), some (.int (tapB M s))] [] (stB M 4 (rd (M 4) 2 (nI s) (nI k) v)) := by
    intro hTL hEL n
    induction n with
    | zero => intro k v h1 h2; omega
    | succ n ih =>
      intro k v h1 h2 h3 h4
      refine a_aload_n B dX2_advance_146 rfl ?_
      refine a_getI B fl_X2_25 (by decide) rfl rfl dX2_advance_147 ?_
      refine a_bipush (v := 120) B dX2_advance_150 (by decide) ?_
      try simp only [upB_stB, stB_at, rd_u0, rd_u1, rd_u2, rd_u3, rd_0, rd_1, rd_2, rd_3]
      refine a_icmp_ge 242 B dX2_advance_152 (by decide) (fun c152 => ?_) (fun c152 => ?_)
      · have e1 : k = 120 := by have := ge_n (b := 120) c152 rfl rfl (by omega) (by omega); omega
        subst e1
        have hE0 : lxE (tapB M) (lxS (tapB M) e) = 120 := by rw [← hs, hEL, ← h3]; rfl
        have hV0 : lxV (tapB M) (lxS (tapB M) e) = v := by rw [← hs]; exact h4.symm
        exact a_vret B hr hlk dX2_advance_242 ⟨rfl, by unfold advD; rw [hE0, hV0, ← hs, hTL, if_pos rfl]⟩
      have hlt0 := lt_n (b := 120) c152 rfl rfl (by omega) (by omega)
      refine a_aload_n B dX2_advance_155 rfl ?_
      refine a_getR B fl_X2_12 (by decide) rfl rfl dX2_advance_156 ?_
      refine a_aload_n B dX2_advance_159 rfl ?_
      refine a_getI B fl_X2_25 (by decide) rfl rfl dX2_advance_160 ?_
      try simp only [upB_stB, stB_at, rd_u0, rd_u1, rd_u2, rd_u3, rd_0, rd_1, rd_2, rd_3]
      refine a_callV1r B rfl cf_X5_byteAt lk_X2_135 in_X5_byteAt se_X5_byteAt (wl_rc (p0 := 39) (by decide) rfl rfl rfl) (k_byteR k (by omega) M hT _ rfl) dX2_advance_163 (Nat.le_of_ble_eq_true rfl) ⟨Nat.le_of_ble_eq_true rfl, Nat.le_of_ble_eq_true rfl⟩ ⟨rfl, rfl⟩ ?_
      try simp only [upB_stB, stB_at, rd_u0, rd_u1, rd_u2, rd_u3, rd_0, rd_1, rd_2, rd_3]
      refine a_callS1r B rfl cf_X2_isDigit lk_X2_146 st_X2_isDigit (k_X2_isDigit _ _) dX2_advance_166 (Nat.le_of_ble_eq_true rfl) ⟨Nat.le_of_ble_eq_true rfl, Nat.le_of_ble_eq_true rfl⟩ ⟨rfl, rfl⟩ ?_
      refine a_if_eq 242 B dX2_advance_169 (by decide) (fun c169 => ?_) (fun c169 => ?_)
      · have c169 := bI_eq0.mp c169
        have hE0 : lxE (tapB M) (lxS (tapB M) e) = k := by rw [← hs, hEL, ← h3]; exact run_no c169
        have hV0 : lxV (tapB M) (lxS (tapB M) e) = v := by rw [← hs]; exact h4.symm.trans (num_no c169)
        exact a_vret B hr hlk dX2_advance_242 ⟨rfl, by unfold advD; rw [hE0, hV0, ← hs, hTL, if_pos rfl]⟩
      have c169 := bI_ne0.mp c169
      refine a_aload_n B dX2_advance_172 rfl ?_
      refine a_bipush (v := 10) B dX2_advance_173 (by decide) ?_
      refine a_aload_n B dX2_advance_175 rfl ?_
      refine a_getI B fl_X2_28 (by decide) rfl rfl dX2_advance_176 ?_
      try simp only [upB_stB, stB_at, rd_u0, rd_u1, rd_u2, rd_u3, rd_0, rd_1, rd_2, rd_3]
      refine a_imul B dX2_advance_179 ?_
      refine a_aload_n B dX2_advance_180 rfl ?_
      refine a_getR B fl_X2_12 (by decide) rfl rfl dX2_advance_181 ?_
      refine a_aload_n B dX2_advance_184 rfl ?_
      refine a_getI B fl_X2_25 (by decide) rfl rfl dX2_advance_185 ?_
      try simp only [upB_stB, stB_at, rd_u0, rd_u1, rd_u2, rd_u3, rd_0, rd_1, rd_2, rd_3]
      refine a_callV1r B rfl cf_X5_byteAt lk_X2_135 in_X5_byteAt se_X5_byteAt (wl_rc (p0 := 39) (by decide) rfl rfl rfl) (k_byteR k (by omega) M hT _ rfl) dX2_advance_188 (Nat.le_of_ble_eq_true rfl) ⟨Nat.le_of_ble_eq_true rfl, Nat.le_of_ble_eq_true rfl⟩ ⟨rfl, rfl⟩ ?_
      refine a_iadd B dX2_advance_191 ?_
      refine a_bipush (v := 48) B dX2_advance_192 (by decide) ?_
      refine a_isub B dX2_advance_194 ?_
      refine a_sipush (v := 10000) B dX2_advance_195 (by decide) ?_
      refine a_mmin B lk_X2_149 dX2_advance_198 (by rfl) (by rfl) ⟨by decide, trivial⟩ ⟨rfl, rfl⟩ ?_
      refine a_putI B twC fl_X2_28 fp_2_4 (by decide) rfl rfl dX2_advance_201 ?_
      try simp only [upB_stB, stB_at, rd_u0, rd_u1, rd_u2, rd_u3, rd_0, rd_1, rd_2, rd_3]
      refine a_aload_n B dX2_advance_204 rfl ?_
      refine a_dup B dX2_advance_205 rfl ?_
      refine a_getI B fl_X2_25 (by decide) rfl rfl dX2_advance_206 ?_
      refine a_iconst (v := 1) B dX2_advance_209 (by decide) ?_
      refine a_iadd B dX2_advance_210 ?_
      refine a_putI B twC fl_X2_25 fp_2_3 (by decide) rfl rfl dX2_advance_211 ?_
      refine a_goto 146 B dX2_advance_214 (by decide) ?_
      try simp only [upB_stB, stB_at, rd_u0, rd_u1, rd_u2, rd_u3, rd_0, rd_1, rd_2, rd_3]
      rw [nI_1]
      exact ih (k + 1) _ (by omega) (by omega) ((run_go hlt0 c169).symm.trans h3) ((num_go hlt0 c169).symm.trans h4)
  have rest : AW Pp l Ee (rmK 1 (34 * 1)) Ss Mm Aa Bb Me Cc D (wl A cy 51 TC X) A0 2 0 0 (MQ Bb (QG D (wl A cy 51 TC X) A0 (rV (stB M 4 (advD (tapB M) (M 4) e)))) Aa Ss 0 0 A0) 46 [some (.ref (A 38)), none] [] (stB M 4 (rd (M 4) (M 4 0) (nI s) (nI e) (M 4 3))) := by
    refine a_aload_n B dX2_advance_46 rfl ?_
    refine a_aload_n B dX2_advance_47 rfl ?_
    refine a_getI B fl_X2_22 (by decide) rfl rfl dX2_advance_48 ?_
    refine a_putI B twC fl_X2_25 fp_2_3 (by decide) rfl rfl dX2_advance_51 ?_
    try simp only [upB_stB, stB_at, rd_u0, rd_u1, rd_u2, rd_u3, rd_0, rd_1, rd_2, rd_3]
    refine a_aload_n B dX2_advance_54 rfl ?_
    refine a_getR B fl_X2_12 (by decide) rfl rfl dX2_advance_55 ?_
    refine a_aload_n B dX2_advance_58 rfl ?_
    refine a_getI B fl_X2_22 (by decide) rfl rfl dX2_advance_59 ?_
    try simp only [upB_stB, stB_at, rd_u0, rd_u1, rd_u2, rd_u3, rd_0, rd_1, rd_2, rd_3]
    refine a_callV1r B rfl cf_X5_byteAt lk_X2_135 in_X5_byteAt se_X5_byteAt (wl_rc (p0 := 39) (by decide) rfl rfl rfl) (k_byteR s (by omega) M hT _ rfl) dX2_advance_62 (Nat.le_of_ble_eq_true rfl) ⟨Nat.le_of_ble_eq_true rfl, Nat.le_of_ble_eq_true rfl⟩ ⟨rfl, rfl⟩ ?_
    refine p_istore1 B dX2_advance_65 (by decide) (k := ?_)
    refine a_iload_n B dX2_advance_66 rfl ?_
    refine a_if_ge 78 B dX2_advance_67 (by decide) (fun c67 => ?_) (fun c67 => ?_)
    · have hg : ¬ tapB M s < 0 := Int32.not_lt.mpr c67
      refine a_iload_n B dX2_advance_78 rfl ?_
      refine a_callS1r B rfl cf_X2_isLetter lk_X2_143 st_X2_isLetter (k_X2_isLetter _ _) dX2_advance_79 (Nat.le_of_ble_eq_true rfl) ⟨Nat.le_of_ble_eq_true rfl, Nat.le_of_ble_eq_true rfl⟩ ⟨rfl, rfl⟩ ?_
      refine a_if_eq 129 B dX2_advance_82 (by decide) (fun c82 => ?_) (fun c82 => ?_)
      · have c82 := bI_eq0.mp c82
        refine a_iload_n B dX2_advance_129 rfl ?_
        refine a_callS1r B rfl cf_X2_isDigit lk_X2_146 st_X2_isDigit (k_X2_isDigit _ _) dX2_advance_130 (Nat.le_of_ble_eq_true rfl) ⟨Nat.le_of_ble_eq_true rfl, Nat.le_of_ble_eq_true rfl⟩ ⟨rfl, rfl⟩ ?_
        refine a_if_eq 217 B dX2_advance_133 (by decide) (fun c133 => ?_) (fun c133 => ?_)
        · have c133 := bI_eq0.mp c133
          refine a_aload_n B dX2_advance_217 rfl ?_
          refine a_iload_n B dX2_advance_218 rfl ?_
          refine a_bipush (v := 59) B dX2_advance_219 (by decide) ?_
          refine a_icmp_ne 228 B dX2_advance_221 (by decide) (fun c221 => ?_) (fun c221 => ?_)
          · have hTT : lxT (tapB M) s = 4 := by unfold lxT; rw [if_neg hg, c82, if_neg (by decide), c133, if_neg (by decide), if_neg c221]
            refine a_iconst (v := 4) B dX2_advance_228 (by decide) ?_
            refine a_putI B twC fl_X2_18 fp_2_1 (by decide) rfl rfl dX2_advance_229 ?_
            refine a_aload_n B dX2_advance_232 rfl ?_
            refine a_dup B dX2_advance_233 rfl ?_
            try simp only [upB_stB, stB_at, rd_u0, rd_u1, rd_u2, rd_u3, rd_0, rd_1, rd_2, rd_3]
            refine a_getI B fl_X2_25 (by decide) rfl rfl dX2_advance_234 ?_
            refine a_iconst (v := 1) B dX2_advance_237 (by decide) ?_
            refine a_iadd B dX2_advance_238 ?_
            refine a_putI B twC fl_X2_25 fp_2_3 (by decide) rfl rfl dX2_advance_239 ?_
            try simp only [upB_stB, stB_at, rd_u0, rd_u1, rd_u2, rd_u3, rd_0, rd_1, rd_2, rd_3]
            exact a_vret B hr hlk dX2_advance_242 ⟨rfl, by unfold advD; rw [← hs, hTT, show lxE (tapB M) s = s + 1 by unfold lxE; rw [if_neg hg, c82, if_neg (by decide), c133, if_neg (by decide)], if_neg (by decide), nI_1]⟩
          have hTT : lxT (tapB M) s = 3 := by unfold lxT; rw [if_neg hg, c82, if_neg (by decide), c133, if_neg (by decide), if_pos c221]
          refine a_iconst (v := 3) B dX2_advance_224 (by decide) ?_
          refine a_goto 229 B dX2_advance_225 (by decide) ?_
          refine a_putI B twC fl_X2_18 fp_2_1 (by decide) rfl rfl dX2_advance_229 ?_
          refine a_aload_n B dX2_advance_232 rfl ?_
          refine a_dup B dX2_advance_233 rfl ?_
          try simp only [upB_stB, stB_at, rd_u0, rd_u1, rd_u2, rd_u3, rd_0, rd_1, rd_2, rd_3]
          refine a_getI B fl_X2_25 (by decide) rfl rfl dX2_advance_234 ?_
          refine a_iconst (v := 1) B dX2_advance_237 (by decide) ?_
          refine a_iadd B dX2_advance_238 ?_
          refine a_putI B twC fl_X2_25 fp_2_3 (by decide) rfl rfl dX2_advance_239 ?_
          try simp only [upB_stB, stB_at, rd_u0, rd_u1, rd_u2, rd_u3, rd_0, rd_1, rd_2, rd_3]
          exact a_vret B hr hlk dX2_advance_242 ⟨rfl, by unfold advD; rw [← hs, hTT, show lxE (tapB M) s = s + 1 by unfold lxE; rw [if_neg hg, c82, if_neg (by decide), c133, if_neg (by decide)], if_neg (by decide), nI_1]⟩
        have c133 := bI_ne0.mp c133
        refine a_aload_n B dX2_advance_136 rfl ?_
        refine a_iconst (v := 2) B dX2_advance_137 (by decide) ?_
        refine a_putI B twC fl_X2_18 fp_2_1 (by decide) rfl rfl dX2_advance_138 ?_
        refine a_aload_n B dX2_advance_141 rfl ?_
        refine a_iconst (v := 0) B dX2_advance_142 (by decide) ?_
        refine a_putI B twC fl_X2_28 fp_2_4 (by decide) rfl rfl dX2_advance_143 ?_
        try simp only [upB_stB, stB_at, rd_u0, rd_u1, rd_u2, rd_u3, rd_0, rd_1, rd_2, rd_3]
        have hTT : lxT (tapB M) s = 2 := by unfold lxT; rw [if_neg hg, c82, if_neg (by decide), c133, if_pos rfl]
        have hEE : lxE (tapB M) s = runN (fun k => isD (tapB M k)) (120 - s) s := by unfold lxE; rw [if_neg hg, c82, if_neg (by decide), c133, if_pos rfl]
        exact loopD hTT hEE 121 s 0 (by omega) hs2 rfl rfl
      have c82 := bI_ne0.mp c82
      refine a_aload_n B dX2_advance_85 rfl ?_
      refine a_iconst (v := 1) B dX2_advance_86 (by decide) ?_
      refine a_putI B twC fl_X2_18 fp_2_1 (by decide) rfl rfl dX2_advance_87 ?_
      try simp only [upB_stB, stB_at, rd_u0, rd_u1, rd_u2, rd_u3, rd_0, rd_1, rd_2, rd_3]
      have hTT : lxT (tapB M) s = 1 := by unfold lxT; rw [if_neg hg, c82, if_pos rfl]
      have hEE : lxE (tapB M) s = runN (fun k => isL (tapB M k)) (120 - s) s := by unfold lxE; rw [if_neg hg, c82, if_pos rfl]
      exact loopL hTT hEE 121 s (by omega) hs2 rfl
    have hg : tapB M s < 0 := Int32.not_le.mp c67
    refine a_aload_n B dX2_advance_70 rfl ?_
    refine a_iconst (v := 0) B dX2_advance_71 (by decide) ?_
    refine a_putI B twC fl_X2_18 fp_2_1 (by decide) rfl rfl dX2_advance_72 ?_
    refine a_goto 242 B dX2_advance_75 (by decide) ?_
    try simp only [upB_stB, stB_at, rd_u0, rd_u1, rd_u2, rd_u3, rd_0, rd_1, rd_2, rd_3]
    exact a_vret B hr hlk dX2_advance_242 ⟨rfl, by unfold advD; rw [← hs, show lxT (tapB M) s = 0 by unfold lxT; rw [if_pos hg], show lxE (tapB M) s = s by unfold lxE; rw [if_pos hg], if_neg (by decide)]⟩
  have loop : ∀ n k, 121 ≤ k + n → k ≤ 120 → runN (fun k => decide (tapB M k = 32)) (120 - k) k = runN (fun k => decide (tapB M k = 32)) (120 - e) e → AW Pp l Ee (rmK 1 (34 * 1)) Ss Mm Aa Bb Me Cc D (wl A cy 51 TC X) A0 2 0 0 (MQ Bb (QG D (wl A cy 51 TC X) A0 (rV (stB M 4 (advD (tapB M) (M 4) e)))) Aa Ss 0 0 A0) 8 [some (.ref (A 38)), none] [] (stB M 4 (rd (M 4) (M 4 0) (nI k) (nI e) (M 4 3))) := by
    intro n
    induction n with
    | zero => intro k h1 h2; omega
    | succ n ih =>
      intro k h1 h2 h3
      refine a_aload_n B dX2_advance_8 rfl ?_
      refine a_getI B fl_X2_22 (by decide) rfl rfl dX2_advance_9 ?_
      refine a_bipush (v := 120) B dX2_advance_12 (by decide) ?_
      try simp only [upB_stB, stB_at, rd_u0, rd_u1, rd_u2, rd_u3, rd_0, rd_1, rd_2, rd_3]
      refine a_icmp_ge 46 B dX2_advance_14 (by decide) (fun c14 => ?_) (fun c14 => ?_)
      · have e1 : k = 120 := by have := ge_n (b := 120) c14 rfl rfl (by omega) (by omega); omega
        subst e1
        have e2 : (120 : Nat) = s := by rw [hs]; unfold lxS; exact h3
        rw [e2]
        exact rest
      have hlt0 := lt_n (b := 120) c14 rfl rfl (by omega) (by omega)
      refine a_aload_n B dX2_advance_17 rfl ?_
      refine a_getR B fl_X2_12 (by decide) rfl rfl dX2_advance_18 ?_
      refine a_aload_n B dX2_advance_21 rfl ?_
      refine a_getI B fl_X2_22 (by decide) rfl rfl dX2_advance_22 ?_
      try simp only [upB_stB, stB_at, rd_u0, rd_u1, rd_u2, rd_u3, rd_0, rd_1, rd_2, rd_3]
      refine a_callV1r B rfl cf_X5_byteAt lk_X2_135 in_X5_byteAt se_X5_byteAt (wl_rc (p0 := 39) (by decide) rfl rfl rfl) (k_byteR k (by omega) M hT _ rfl) dX2_advance_25 (Nat.le_of_ble_eq_true rfl) ⟨Nat.le_of_ble_eq_true rfl, Nat.le_of_ble_eq_true rfl⟩ ⟨rfl, rfl⟩ ?_
      try simp only [upB_stB, stB_at, rd_u0, rd_u1, rd_u2, rd_u3, rd_0, rd_1, rd_2, rd_3]
      refine a_bipush (v := 32) B dX2_advance_28 (by decide) ?_
      refine a_icmp_ne 46 B dX2_advance_30 (by decide) (fun c30 => ?_) (fun c30 => ?_)
      · have e2 : k = s := by rw [hs]; unfold lxS; rw [← h3]; exact (run_no (decide_eq_false c30)).symm
        rw [e2]
        exact rest
      refine a_aload_n B dX2_advance_33 rfl ?_
      refine a_dup B dX2_advance_34 rfl ?_
      refine a_getI B fl_X2_22 (by decide) rfl rfl dX2_advance_35 ?_
      refine a_iconst (v := 1) B dX2_advance_38 (by decide) ?_
      refine a_iadd B dX2_advance_39 ?_
      refine a_putI B twC fl_X2_22 fp_2_2 (by decide) rfl rfl dX2_advance_40 ?_
      refine a_goto 8 B dX2_advance_43 (by decide) ?_
      try simp only [upB_stB, stB_at, rd_u0, rd_u1, rd_u2, rd_u3, rd_0, rd_1, rd_2, rd_3]
      rw [nI_1]
      exact ih (k + 1) (by omega) (by omega) ((run_go (P := fun k => decide (tapB M k = 32)) hlt0 (decide_eq_true c30)).symm.trans h3)
  have hM0 : M = stB M 4 (rd (M 4) (M 4 0) (M 4 1) (nI e) (M 4 3)) := by rw [← he2, rd_id, stB_id]
  refine a_mem hM0 ?_
  refine a_aload_n B dX2_advance_0 rfl ?_
  refine a_aload_n B dX2_advance_1 rfl ?_
  refine a_getI B fl_X2_25 (by decide) rfl rfl dX2_advance_2 ?_
  try simp only [upB_stB, stB_at, rd_u0, rd_u1, rd_u2, rd_u3, rd_0, rd_1, rd_2, rd_3]
  refine a_putI B twC fl_X2_22 fp_2_2 (by decide) rfl rfl dX2_advance_5 ?_
  try simp only [upB_stB, stB_at, rd_u0, rd_u1, rd_u2, rd_u3, rd_0, rd_1, rd_2, rd_3]
  exact loop 121 e (by omega) he rfl
end C16
