section R23

def rq (q : Dm) (a s f h l : Int32) : Dm := fun j => if j = 2 then a else if j = 3 then s else if j = 4 then f else if j = 5 then h else if j = 6 then l else q j
theorem rq_id (q : Dm) : rq q (q 2) (q 3) (q 4) (q 5) (q 6) = q := by
  funext j; unfold rq
  split
  · next h => rw [h]
  · split
    · next h => rw [h]
    · split
      · next h => rw [h]
      · split
        · next h => rw [h]
        · split
          · next h => rw [h]
          · rfl
theorem rq_u2 {q : Dm} {a s f h l x : Int32} : upd (rq q a s f h l) 2 x = rq q x s f h l := by
  funext j; unfold upd rq; split <;> rfl
theorem rq_u3 {q : Dm} {a s f h l x : Int32} : upd (rq q a s f h l) 3 x = rq q a x f h l := by
  funext j; unfold upd rq; split
  · next h => subst h; rfl
  · rfl
theorem rq_u4 {q : Dm} {a s f h l x : Int32} : upd (rq q a s f h l) 4 x = rq q a s x h l := by
  funext j; unfold upd rq; split
  · next h => subst h; rfl
  · rfl
theorem rq_u5 {q : Dm} {a s f h l x : Int32} : upd (rq q a s f h l) 5 x = rq q a s f x l := by
  funext j; unfold upd rq; split
  · next h => subst h; rfl
  · rfl
theorem rq_u6 {q : Dm} {a s f h l x : Int32} : upd (rq q a s f h l) 6 x = rq q a s f h x := by
  funext j; unfold upd rq; split
  · next h => subst h; rfl
  · rfl
theorem rq_51 {q : Dm} {a s f h l : Int32} : rq q a s f h l (5 + 1) = l := rfl
theorem rq_u51 {q : Dm} {a s f h l x : Int32} : upd (rq q a s f h l) (5 + 1) x = rq q a s f h x := rq_u6
theorem rq_1 {q : Dm} {a s f h l : Int32} : rq q a s f h l 1 = q 1 := rfl
theorem rq_2 {q : Dm} {a s f h l : Int32} : rq q a s f h l 2 = a := rfl
theorem rq_3 {q : Dm} {a s f h l : Int32} : rq q a s f h l 3 = s := rfl
theorem rq_4 {q : Dm} {a s f h l : Int32} : rq q a s f h l 4 = f := rfl
theorem rq_5 {q : Dm} {a s f h l : Int32} : rq q a s f h l 5 = h := rfl
theorem rq_6 {q : Dm} {a s f h l : Int32} : rq q a s f h l 6 = l := rfl
theorem rq_7 {q : Dm} {a s f h l : Int32} : rq q a s f h l 7 = q 7 := rfl
theorem cmp_G {a b : Int64} : 0 < lg_cmp a b ↔ b < a := by
  unfold lg_cmp
  by_cases h : a > b
  · rw [if_pos h]
    exact ⟨fun _ => h, fun _ => by decide⟩
  · rw [if_neg h]
    refine ⟨fun q => ?_, fun q => absurd q h⟩
    split at q <;> exact absurd q (by decide)
def gM (M : Mem) (k : Nat) : Int32 := if k < tapR M then M 5 k &&& 255 else -1
def tpOk (M : Mem) : Prop := tapR M ≤ 120 ∧ M 10 1 = nI (tapR M) ∧ ∀ k, k < tapR M → ∃ n, n < 256 ∧ M 5 k = (Int8.ofNat n).toInt32
theorem all_at {P : Nat → Bool} : ∀ n, allN P n = true → ∀ k, k < n → P k = true := by
  intro n h k hk
  cases hp : P k with
  | true => rfl
  | false => rw [all_no hp n hk] at h; cases h
def bySp (x : Int32) : Bool := !decide (x &&& 255 < 0) && decide (decide (x = 32) = decide (x &&& 255 = 32)) && decide (decide (x = 59) = decide (x &&& 255 = 59)) && decide (isL x = isL (x &&& 255)) && decide (isD x = isD (x &&& 255)) && (!(isL x || isD x) || decide (x &&& 255 = x))
set_option maxRecDepth 200000 in
theorem by_all : allN (fun n => bySp (Int8.ofNat n).toInt32) 256 = true := by decide +kernel
theorem by_sp {M : Mem} {k : Nat} (h : tpOk M) (hk : k < tapR M) : bySp (M 5 k) = true := by
  obtain ⟨n, hn, e⟩ := h.2.2 k hk
  rw [e]
  exact all_at 256 by_all n hn
theorem by_f {x : Int32} (h : bySp x = true) : ¬ (x &&& 255 < 0) ∧ (x = 32 ↔ x &&& 255 = 32) ∧ (x = 59 ↔ x &&& 255 = 59) ∧ isL x = isL (x &&& 255) ∧ isD x = isD (x &&& 255) ∧ (isL x = true ∨ isD x = true → x &&& 255 = x) := by
  unfold bySp at h
  simp only [Bool.and_eq_true, Bool.not_eq_true', decide_eq_false_iff_not, decide_eq_true_eq, decide_eq_decide, Bool.or_eq_true] at h
  obtain ⟨⟨⟨⟨⟨h1, h2⟩, h3⟩, h4⟩, h5⟩, h6⟩ := h
  refine ⟨h1, h2, h3, h4, h5, fun q => ?_⟩
  rcases h6 with h6 | h6
  · exfalso
    rcases q with q | q <;> rw [q] at h6 <;> simp at h6
  · exact h6
theorem g_in {M : Mem} {k : Nat} (hk : k < tapR M) : gM M k = M 5 k &&& 255 ∧ tapS M k = M 5 k := by
  unfold gM tapS
  rw [if_pos hk, if_pos hk]
  exact ⟨rfl, rfl⟩
theorem g_out {M : Mem} {k : Nat} (hk : ¬ k < tapR M) : gM M k = -1 ∧ tapS M k = -1 := by
  unfold gM tapS
  rw [if_neg hk, if_neg hk]
  exact ⟨rfl, rfl⟩
theorem g_f {M : Mem} (h : tpOk M) (k : Nat) : (gM M k < 0 ↔ tapR M ≤ k) ∧ (tapS M k = 32 ↔ gM M k = 32) ∧ (tapS M k = 59 ↔ gM M k = 59) ∧ isL (tapS M k) = isL (gM M k) ∧ isD (tapS M k) = isD (gM M k) ∧ (isL (gM M k) = true ∨ isD (gM M k) = true → tapS M k = gM M k) := by
  by_cases hk : k < tapR M
  · obtain ⟨e1, e2⟩ := g_in hk
    obtain ⟨h1, h2, h3, h4, h5, h6⟩ := by_f (by_sp h hk)
    rw [e1, e2]
    exact ⟨⟨fun q => absurd q h1, fun q => absurd hk (by omega)⟩, h2, h3, h4, h5, fun q => (h6 (by rw [h4, h5]; exact q)).symm⟩
  · obtain ⟨e1, e2⟩ := g_out hk
    rw [e1, e2]
    exact ⟨⟨fun _ => by omega, fun _ => by decide⟩, Iff.rfl, Iff.rfl, rfl, rfl, fun _ => rfl⟩
theorem g_lt {M : Mem} {k : Nat} (h : tpOk M) (hg : ¬ gM M k < 0) : k < tapR M := Nat.lt_of_not_le (fun q => hg ((g_f h k).1.mpr q))
theorem isL_nn {x : Int32} (h : isL x = true) : ¬ x < 0 := fun q => by
  unfold isL at h
  rw [decide_eq_true (Int32.lt_trans q (show (0 : Int32) < 97 by decide))] at h
  cases h
theorem isD_nn {x : Int32} (h : isD x = true) : ¬ x < 0 := fun q => by
  unfold isD at h
  rw [decide_eq_true (Int32.lt_trans q (show (0 : Int32) < 48 by decide))] at h
  cases h
theorem run_top {P : Nat → Bool} {L : Nat} (hP : ∀ k, P k = true → k < L) : ∀ n k, k ≤ L → runN P n k ≤ L := by
  intro n
  induction n with
  | zero => intro k h; exact h
  | succ n ih =>
    intro k h
    rw [runN]
    split
    · next hk => exact ih _ (hP k hk)
    · exact h
theorem letR_le {x : Int32} : letR x ≤ 0 ↔ isL x = false := by
  unfold letR
  cases hx : isL x with
  | false => exact ⟨fun _ => rfl, fun _ => by rw [if_neg Bool.false_ne_true]; decide⟩
  | true =>
    refine ⟨fun q => ?_, fun q => by cases q⟩
    exfalso
    rw [if_pos rfl] at q
    unfold isL at hx
    simp only [Bool.and_eq_true, Bool.not_eq_true', decide_eq_false_iff_not] at hx
    obtain ⟨b, hb, rfl⟩ : ∃ b, b < 2 ^ 31 ∧ x = nI b := nI_of (fun q => hx.1 (Int32.lt_trans q (by decide)))
    have h1 : 97 ≤ b := Nat.le_of_not_lt (fun q => hx.1 (nI_lt (b := 97) q (by omega)))
    have h2 : b ≤ 122 := Nat.le_of_not_lt (fun q => hx.2 (nI_lt (a := 122) q hb))
    rw [show (97 : Int32) = nI 97 from rfl, pk_sub h1, nI_1] at q
    have := (nI_leI (a := b - 97 + 1) (b := 0) (by omega) (by omega)).mp q
    omega
def wvN (g : Nat → Int32) : Nat → Nat → Int64 → Int64
  | 0, _, v => v
  | n + 1, k, v => if isL (g k) then wvN g n (k + 1) (if 100000000000000000 < v then v else v * 27 + (letR (g k)).toInt64) else v
def nvN (g : Nat → Int32) : Nat → Nat → Int64 → Int64
  | 0, _, v => v
  | n + 1, k, v => if isD (g k) then nvN g n (k + 1) (if 9999 < v then v else v * 10 + (g k).toInt64 - 48) else v
theorem wv_go {g : Nat → Int32} {k b : Nat} {v : Int64} (hk : k < b) (h : isL (g k) = true) : wvN g (b - k) k v = wvN g (b - (k + 1)) (k + 1) (if 100000000000000000 < v then v else v * 27 + (letR (g k)).toInt64) := by
  rw [show b - k = (b - (k + 1)) + 1 by omega, wvN, if_pos h]
theorem wv_no {g : Nat → Int32} {k b : Nat} {v : Int64} (h : isL (g k) = false) : wvN g (b - k) k v = v := by
  cases hn : b - k with
  | zero => rfl
  | succ n => rw [wvN, h, if_neg (by decide)]
theorem nv_go {g : Nat → Int32} {k b : Nat} {v : Int64} (hk : k < b) (h : isD (g k) = true) : nvN g (b - k) k v = nvN g (b - (k + 1)) (k + 1) (if 9999 < v then v else v * 10 + (g k).toInt64 - 48) := by
  rw [show b - k = (b - (k + 1)) + 1 by omega, nvN, if_pos h]
theorem nv_no {g : Nat → Int32} {k b : Nat} {v : Int64} (h : isD (g k) = false) : nvN g (b - k) k v = v := by
  cases hn : b - k with
  | zero => rfl
  | succ n => rw [nvN, h, if_neg (by decide)]
def tokL (g : Nat → Int32) (e : Nat) : Int64 := if tokT g e = 1 then wvN g (120 - tokS g e) (tokS g e) 0 else if tokT g e = 2 then nvN g (120 - tokS g e) (tokS g e) 0 else 0
def tokA (g : Nat → Int32) (e : Nat) : Nat := if tokT g e = 4 then tokS g e else tokE g e
def nxD (g : Nat → Int32) (q : Dm) (e : Nat) : Dm := rq q (nI (tokA g e)) (tokT g e) (nI (tokS g e)) (lhi (tokL g e)) (llo (tokL g e))
theorem tapS_q {M : Mem} {q : Dm} (h : q 1 = M 10 1) : tapS (stB M 10 q) = tapS M ∧ tapR (stB M 10 q) = tapR M := by
  have e : tapR (stB M 10 q) = tapR M := by unfold tapR; rw [stB_at, h]
  refine ⟨?_, e⟩
  funext k
  unfold tapS
  rw [e, stB_ne (by decide)]

variable {l : Launch} {sk : (Nat → Nat) × (Nat → Nat)} {D : va_G} {cy : Nat → ClassId} {A : Nat → Nat} {X : va_W}
theorem m_byteR (k : Nat) (hk : k ≤ 120) (M : Mem) (hT : tpOk M) (q : Dm) (hq : q 1 = M 10 1) : CR l sk D cy A X mX7_byteAt 0 [.ref (A 0), .int (nI k)] (stB M 10 q) (rI (tapS M k) (stB M 10 q)) := by
  obtain ⟨e1, e2⟩ := tapS_q hq
  have h := m_byteAt (l := l) (sk := sk) (D := D) (cy := cy) (A := A) (X := X) k hk (stB M 10 q) (by rw [e2]; exact hT.1) (by rw [stB_at, e2, hq]; exact hT.2.1)
  rw [e1] at h
  exact h
set_option maxRecDepth 20000 in
set_option maxHeartbeats 4000000 in
theorem m_next (M : Mem) (e : Nat) (hT : tpOk M) (he : e ≤ tapR M) (he2 : M 10 2 = nI e) : CR l sk D cy A X mX7_next 1 [.ref (A 0)] M (rV (stB M 10 (nxD (gM M) (M 10) e))) := by
  refine Con.of (lo := [some (.ref (A 0)), none]) cf_X7_next (fun _ _ => wl_fst) 1 rfl (Nat.le_of_ble_eq_true rfl) (fun Pp Ee Ss Mm Aa Bb Me Cc A0 B hr hlk => ?_)
  have B : BS sk D cy (wl A cy 11 TM X) A0 Pp Ss Mm Aa Cc RX7 cX7_next 2 := B
  have hT120 := hT.1
  obtain ⟨s, hs⟩ : ∃ s, s = tokS (gM M) e := ⟨_, rfl⟩
  have hsL : s ≤ tapR M := by rw [hs]; unfold tokS lxS; exact run_top (fun k hk => g_lt hT (by rw [of_decide_eq_true hk]; decide)) _ _ he
  have loopL : lxT (gM M) s = 1 → lxE (gM M) s = runN (fun k => isL (gM M k)) (120 - s) s → ∀ n k v, tapR M + 1 ≤ k + n → k ≤ tapR M → runN (fun k => isL (gM M k)) (120 - k) k = runN (fun k => isL (gM M k)) (120 - s) s → wvN (gM M) (120 - k) k v = wvN (gM M) (120 - s) s 0 → AW Pp l Ee (rmK 1 (34 * 1)) Ss Mm Aa Bb Me Cc D (wl A cy 11 TM X) A0 2 0 0 (MQ Bb (QG D (wl A cy 11 TM X) A0 (rV (stB M 10 (nxD (gM M) (M 10) e)))) Aa Ss 0 0 A0) 103 [some (.ref (A 0)), some (.int (tapS M s))] [] (stB M 10 (rq (M 10) (nI k) 1 (nI s) (lhi v) (llo v))) := by
    intro hTL hEL n
    induction n with
    | zero => intro k v h1 h2; omega
    | succ n ih =>
      intro k v h1 h2 h3 h4
      refine a_aload_n B dX7_next_103 rfl ?_
      refine a_aload_n B dX7_next_104 rfl ?_
      refine a_getI B fl_X7_195 (by decide) rfl rfl dX7_next_105 ?_
      try simp only [upB_stB, stB_at, rq_u2, rq_u3, rq_u4, rq_u5, rq_u6, rq_1, rq_2, rq_3, rq_4, rq_5, rq_6, rq_51, rq_u51, ljn_s]
      refine a_callV1r B rfl cf_X7_byteAt lk_X7_198 in_X7_byteAt se_X7_byteAt (wl_rc (p0 := 0) (by decide) rfl rfl rfl) (m_byteR k (by omega) M hT _ rfl) dX7_next_108 (Nat.le_of_ble_eq_true rfl) ⟨Nat.le_of_ble_eq_true rfl, Nat.le_of_ble_eq_true rfl⟩ ⟨rfl, rfl⟩ ?_
      try simp only [upB_stB, stB_at, rq_u2, rq_u3, rq_u4, rq_u5, rq_u6, rq_1, rq_2, rq_3, rq_4, rq_5, rq_6, rq_51, rq_u51, ljn_s]
      refine a_callS1r B rfl cf_X7_letter lk_X7_211 st_X7_letter (m_letter _ _) dX7_next_111 (Nat.le_of_ble_eq_true rfl) ⟨Nat.le_of_ble_eq_true rfl, Nat.le_of_ble_eq_true rfl⟩ ⟨rfl, rfl⟩ ?_
      refine a_if_le 261 B dX7_next_114 (by decide) (fun c114 => ?_) (fun c114 => ?_)
      · have hl : isL (gM M k) = false := by rw [← (g_f hT k).2.2.2.1]; exact letR_le.mp c114
        have hE0 : lxE (gM M) s = k := by rw [hEL, ← h3]; exact run_no hl
        have hV0 : wvN (gM M) (120 - s) s 0 = v := h4.symm.trans (wv_no hl)
        exact a_vret B hr hlk dX7_next_261 ⟨rfl, by unfold nxD tokA tokL tokT tokE; rw [show lxS (gM M) e = s from hs.symm, show tokS (gM M) e = s from hs.symm, hTL, if_neg (by decide), if_pos rfl, hE0, hV0]⟩
      have hl : isL (gM M k) = true := by cases hq : isL (gM M k) with | true => rfl | false => exact absurd (letR_le.mpr (by rw [(g_f hT k).2.2.2.1]; exact hq)) c114
      have hkL : k < tapR M := g_lt hT (isL_nn hl)
      have hgS : tapS M k = gM M k := (g_f hT k).2.2.2.2.2 (Or.inl hl)
      refine a_aload_n B dX7_next_117 rfl ?_
      refine a_aload_n B dX7_next_118 rfl ?_
      refine a_getL B fl_X7_204 (by decide) rfl rfl dX7_next_119 ?_
      try simp only [upB_stB, stB_at, rq_u2, rq_u3, rq_u4, rq_u5, rq_u6, rq_1, rq_2, rq_3, rq_4, rq_5, rq_6, rq_51, rq_u51, ljn_s]
      refine a_ldc2 B dX7_next_122 kl_X7_214 ?_
      try simp only [upB_stB, stB_at, rq_u2, rq_u3, rq_u4, rq_u5, rq_u6, rq_1, rq_2, rq_3, rq_4, rq_5, rq_6, rq_51, rq_u51, ljn_s]
      refine a_lcmp B dX7_next_125 ?_
      refine a_if_le 136 B dX7_next_126 (by decide) (fun c126 => ?_) (fun c126 => ?_)
      · have hv1 : ¬ 100000000000000000 < v := fun q => absurd (cmp_G.mpr q) (Int32.not_lt.mpr c126)
        refine a_aload_n B dX7_next_136 rfl ?_
        refine a_getL B fl_X7_204 (by decide) rfl rfl dX7_next_137 ?_
        try simp only [upB_stB, stB_at, rq_u2, rq_u3, rq_u4, rq_u5, rq_u6, rq_1, rq_2, rq_3, rq_4, rq_5, rq_6, rq_51, rq_u51, ljn_s]
        refine a_ldc2 B dX7_next_140 kl_X7_216 ?_
        refine a_lmul B dX7_next_143 ?_
        refine a_aload_n B dX7_next_144 rfl ?_
        refine a_aload_n B dX7_next_145 rfl ?_
        refine a_getI B fl_X7_195 (by decide) rfl rfl dX7_next_146 ?_
        try simp only [upB_stB, stB_at, rq_u2, rq_u3, rq_u4, rq_u5, rq_u6, rq_1, rq_2, rq_3, rq_4, rq_5, rq_6, rq_51, rq_u51, ljn_s]
        refine a_callV1r B rfl cf_X7_byteAt lk_X7_198 in_X7_byteAt se_X7_byteAt (wl_rc (p0 := 0) (by decide) rfl rfl rfl) (m_byteR k (by omega) M hT _ rfl) dX7_next_149 (Nat.le_of_ble_eq_true rfl) ⟨Nat.le_of_ble_eq_true rfl, Nat.le_of_ble_eq_true rfl⟩ ⟨rfl, rfl⟩ ?_
        refine a_callS1r B rfl cf_X7_letter lk_X7_211 st_X7_letter (m_letter _ _) dX7_next_152 (Nat.le_of_ble_eq_true rfl) ⟨Nat.le_of_ble_eq_true rfl, Nat.le_of_ble_eq_true rfl⟩ ⟨rfl, rfl⟩ ?_
        refine a_i2l B dX7_next_155 ?_
        refine a_ladd B dX7_next_156 ?_
        try simp only [upB_stB, stB_at, rq_u2, rq_u3, rq_u4, rq_u5, rq_u6, rq_1, rq_2, rq_3, rq_4, rq_5, rq_6, rq_51, rq_u51, ljn_s]
        refine a_putL B twM fl_X7_204 fp_7_11 (by decide) rfl rfl dX7_next_157 ?_
        try simp only [upB_stB, stB_at, rq_u2, rq_u3, rq_u4, rq_u5, rq_u6, rq_1, rq_2, rq_3, rq_4, rq_5, rq_6, rq_51, rq_u51, ljn_s]
        refine a_aload_n B dX7_next_160 rfl ?_
        refine a_dup B dX7_next_161 rfl ?_
        refine a_getI B fl_X7_195 (by decide) rfl rfl dX7_next_162 ?_
        refine a_iconst (v := 1) B dX7_next_165 (by decide) ?_
        refine a_iadd B dX7_next_166 ?_
        try simp only [upB_stB, stB_at, rq_u2, rq_u3, rq_u4, rq_u5, rq_u6, rq_1, rq_2, rq_3, rq_4, rq_5, rq_6, rq_51, rq_u51, ljn_s]
        refine a_putI B twM fl_X7_195 fp_7_8 (by decide) rfl rfl dX7_next_167 ?_
        refine a_goto 103 B dX7_next_170 (by decide) ?_
        try simp only [upB_stB, stB_at, rq_u2, rq_u3, rq_u4, rq_u5, rq_u6, rq_1, rq_2, rq_3, rq_4, rq_5, rq_6, rq_51, rq_u51, ljn_s]
        rw [nI_1]
        have h5 := h4
        rw [wv_go (by omega) hl, if_neg hv1] at h5
        rw [hgS]
        exact ih (k + 1) _ (by omega) (by omega) ((run_go (by omega) hl).symm.trans h3) h5
      have hv1 : 100000000000000000 < v := cmp_G.mp (Int32.not_le.mp c126)
      refine a_aload_n B dX7_next_129 rfl ?_
      refine a_getL B fl_X7_204 (by decide) rfl rfl dX7_next_130 ?_
      try simp only [upB_stB, stB_at, rq_u2, rq_u3, rq_u4, rq_u5, rq_u6, rq_1, rq_2, rq_3, rq_4, rq_5, rq_6, rq_51, rq_u51, ljn_s]
      refine a_goto 157 B dX7_next_133 (by decide) ?_
      try simp only [upB_stB, stB_at, rq_u2, rq_u3, rq_u4, rq_u5, rq_u6, rq_1, rq_2, rq_3, rq_4, rq_5, rq_6, rq_51, rq_u51, ljn_s]
      refine a_putL B twM fl_X7_204 fp_7_11 (by decide) rfl rfl dX7_next_157 ?_
      try simp only [upB_stB, stB_at, rq_u2, rq_u3, rq_u4, rq_u5, rq_u6, rq_1, rq_2, rq_3, rq_4, rq_5, rq_6, rq_51, rq_u51, ljn_s]
      refine a_aload_n B dX7_next_160 rfl ?_
      refine a_dup B dX7_next_161 rfl ?_
      refine a_getI B fl_X7_195 (by decide) rfl rfl dX7_next_162 ?_
      refine a_iconst (v := 1) B dX7_next_165 (by decide) ?_
      refine a_iadd B dX7_next_166 ?_
      try simp only [upB_stB, stB_at, rq_u2, rq_u3, rq_u4, rq_u5, rq_u6, rq_1, rq_2, rq_3, rq_4, rq_5, rq_6, rq_51, rq_u51, ljn_s]
      refine a_putI B twM fl_X7_195 fp_7_8 (by decide) rfl rfl dX7_next_167 ?_
      refine a_goto 103 B dX7_next_170 (by decide) ?_
      try simp only [upB_stB, stB_at, rq_u2, rq_u3, rq_u4, rq_u5, rq_u6, rq_1, rq_2, rq_3, rq_4, rq_5, rq_6, rq_51, rq_u51, ljn_s]
      rw [nI_1]
      have h5 := h4
      rw [wv_go (by omega) hl, if_pos hv1] at h5
      exact ih (k + 1) _ (by omega) (by omega) ((run_go (by omega) hl).symm.trans h3) h5
  have loopD : lxT (gM M) s = 2 → lxE (gM M) s = runN (fun k => isD (gM M k)) (120 - s) s → ∀ n k v, tapR M + 1 ≤ k + n → k ≤ tapR M → runN (fun k => isD (gM M k)) (120 - k) k = runN (fun k => isD (gM M k)) (120 - s) s → nvN (gM M) (120 - k) k v = nvN (gM M) (120 - s) s 0 → AW Pp l Ee (rmK 1 (34 * 1)) Ss Mm Aa Bb Me Cc D (wl A cy 11 TM X) A0 2 0 0 (MQ Bb (QG D (wl A cy 11 TM X) A0 (rV (stB M 10 (nxD (gM M) (M 10) e)))) Aa Ss 0 0 A0) 185 [some (.ref (A 0)), some (.int (tapS M s))] [] (stB M 10 (rq (M 10) (nI k) 2 (nI s) (lhi v) (llo v))) := by
    intro hTL hEL n
    induction n with
    | zero => intro k v h1 h2; omega
    | succ n ih =>
      intro k v h1 h2 h3 h4
      refine a_aload_n B dX7_next_185 rfl ?_
      refine a_aload_n B dX7_next_186 rfl ?_
      refine a_getI B fl_X7_195 (by decide) rfl rfl dX7_next_187 ?_
      try simp only [upB_stB, stB_at, rq_u2, rq_u3, rq_u4, rq_u5, rq_u6, rq_1, rq_2, rq_3, rq_4, rq_5, rq_6, rq_51, rq_u51, ljn_s]
      refine a_callV1r B rfl cf_X7_byteAt lk_X7_198 in_X7_byteAt se_X7_byteAt (wl_rc (p0 := 0) (by decide) rfl rfl rfl) (m_byteR k (by omega) M hT _ rfl) dX7_next_190 (Nat.le_of_ble_eq_true rfl) ⟨Nat.le_of_ble_eq_true rfl, Nat.le_of_ble_eq_true rfl⟩ ⟨rfl, rfl⟩ ?_
      try simp only [upB_stB, stB_at, rq_u2, rq_u3, rq_u4, rq_u5, rq_u6, rq_1, rq_2, rq_3, rq_4, rq_5, rq_6, rq_51, rq_u51, ljn_s]
      refine a_callS1r B rfl cf_X7_isDigit lk_X7_218 st_X7_isDigit (m_isDigit _ _) dX7_next_193 (Nat.le_of_ble_eq_true rfl) ⟨Nat.le_of_ble_eq_true rfl, Nat.le_of_ble_eq_true rfl⟩ ⟨rfl, rfl⟩ ?_
      refine a_if_eq 261 B dX7_next_196 (by decide) (fun c196 => ?_) (fun c196 => ?_)
      · have c196 := bI_eq0.mp c196
        have hl : isD (gM M k) = false := by rw [← (g_f hT k).2.2.2.2.1]; exact c196
        have hE0 : lxE (gM M) s = k := by rw [hEL, ← h3]; exact run_no hl
        have hV0 : nvN (gM M) (120 - s) s 0 = v := h4.symm.trans (nv_no hl)
        exact a_vret B hr hlk dX7_next_261 ⟨rfl, by unfold nxD tokA tokL tokT tokE; rw [show lxS (gM M) e = s from hs.symm, show tokS (gM M) e = s from hs.symm, hTL, if_neg (by decide), if_neg (by decide), if_pos rfl, hE0, hV0]⟩
      have c196 := bI_ne0.mp c196
      have hl : isD (gM M k) = true := by rw [← (g_f hT k).2.2.2.2.1]; exact c196
      have hkL : k < tapR M := g_lt hT (isD_nn hl)
      have hgS : tapS M k = gM M k := (g_f hT k).2.2.2.2.2 (Or.inr hl)
      refine a_aload_n B dX7_next_199 rfl ?_
      refine a_aload_n B dX7_next_200 rfl ?_
      refine a_getL B fl_X7_204 (by decide) rfl rfl dX7_next_201 ?_
      try simp only [upB_stB, stB_at, rq_u2, rq_u3, rq_u4, rq_u5, rq_u6, rq_1, rq_2, rq_3, rq_4, rq_5, rq_6, rq_51, rq_u51, ljn_s]
      refine a_ldc2 B dX7_next_204 kl_X7_221 ?_
      try simp only [upB_stB, stB_at, rq_u2, rq_u3, rq_u4, rq_u5, rq_u6, rq_1, rq_2, rq_3, rq_4, rq_5, rq_6, rq_51, rq_u51, ljn_s]
      refine a_lcmp B dX7_next_207 ?_
      refine a_if_le 218 B dX7_next_208 (by decide) (fun c208 => ?_) (fun c208 => ?_)
      · have hv1 : ¬ 9999 < v := fun q => absurd (cmp_G.mpr q) (Int32.not_lt.mpr c208)
        refine a_aload_n B dX7_next_218 rfl ?_
        refine a_getL B fl_X7_204 (by decide) rfl rfl dX7_next_219 ?_
        try simp only [upB_stB, stB_at, rq_u2, rq_u3, rq_u4, rq_u5, rq_u6, rq_1, rq_2, rq_3, rq_4, rq_5, rq_6, rq_51, rq_u51, ljn_s]
        refine a_ldc2 B dX7_next_222 kl_X7_223 ?_
        refine a_lmul B dX7_next_225 ?_
        refine a_aload_n B dX7_next_226 rfl ?_
        refine a_aload_n B dX7_next_227 rfl ?_
        refine a_getI B fl_X7_195 (by decide) rfl rfl dX7_next_228 ?_
        try simp only [upB_stB, stB_at, rq_u2, rq_u3, rq_u4, rq_u5, rq_u6, rq_1, rq_2, rq_3, rq_4, rq_5, rq_6, rq_51, rq_u51, ljn_s]
        refine a_callV1r B rfl cf_X7_byteAt lk_X7_198 in_X7_byteAt se_X7_byteAt (wl_rc (p0 := 0) (by decide) rfl rfl rfl) (m_byteR k (by omega) M hT _ rfl) dX7_next_231 (Nat.le_of_ble_eq_true rfl) ⟨Nat.le_of_ble_eq_true rfl, Nat.le_of_ble_eq_true rfl⟩ ⟨rfl, rfl⟩ ?_
        refine a_i2l B dX7_next_234 ?_
        refine a_ladd B dX7_next_235 ?_
        refine a_ldc2 B dX7_next_236 kl_X7_225 ?_
        refine a_lsub B dX7_next_239 ?_
        try simp only [upB_stB, stB_at, rq_u2, rq_u3, rq_u4, rq_u5, rq_u6, rq_1, rq_2, rq_3, rq_4, rq_5, rq_6, rq_51, rq_u51, ljn_s]
        refine a_putL B twM fl_X7_204 fp_7_11 (by decide) rfl rfl dX7_next_240 ?_
        try simp only [upB_stB, stB_at, rq_u2, rq_u3, rq_u4, rq_u5, rq_u6, rq_1, rq_2, rq_3, rq_4, rq_5, rq_6, rq_51, rq_u51, ljn_s]
        refine a_aload_n B dX7_next_243 rfl ?_
        refine a_dup B dX7_next_244 rfl ?_
        refine a_getI B fl_X7_195 (by decide) rfl rfl dX7_next_245 ?_
        refine a_iconst (v := 1) B dX7_next_248 (by decide) ?_
        refine a_iadd B dX7_next_249 ?_
        try simp only [upB_stB, stB_at, rq_u2, rq_u3, rq_u4, rq_u5, rq_u6, rq_1, rq_2, rq_3, rq_4, rq_5, rq_6, rq_51, rq_u51, ljn_s]
        refine a_putI B twM fl_X7_195 fp_7_8 (by decide) rfl rfl dX7_next_250 ?_
        refine a_goto 185 B dX7_next_253 (by decide) ?_
        try simp only [upB_stB, stB_at, rq_u2, rq_u3, rq_u4, rq_u5, rq_u6, rq_1, rq_2, rq_3, rq_4, rq_5, rq_6, rq_51, rq_u51, ljn_s]
        rw [nI_1]
        have h5 := h4
        rw [nv_go (by omega) hl, if_neg hv1] at h5
        rw [hgS]
        exact ih (k + 1) _ (by omega) (by omega) ((run_go (by omega) hl).symm.trans h3) h5
      have hv1 : 9999 < v := cmp_G.mp (Int32.not_le.mp c208)
      refine a_aload_n B dX7_next_211 rfl ?_
      refine a_getL B fl_X7_204 (by decide) rfl rfl dX7_next_212 ?_
      try simp only [upB_stB, stB_at, rq_u2, rq_u3, rq_u4, rq_u5, rq_u6, rq_1, rq_2, rq_3, rq_4, rq_5, rq_6, rq_51, rq_u51, ljn_s]
      refine a_goto 240 B dX7_next_215 (by decide) ?_
      try simp only [upB_stB, stB_at, rq_u2, rq_u3, rq_u4, rq_u5, rq_u6, rq_1, rq_2, rq_3, rq_4, rq_5, rq_6, rq_51, rq_u51, ljn_s]
      refine a_putL B twM fl_X7_204 fp_7_11 (by decide) rfl rfl dX7_next_240 ?_
      try simp only [upB_stB, stB_at, rq_u2, rq_u3, rq_u4, rq_u5, rq_u6, rq_1, rq_2, rq_3, rq_4, rq_5, rq_6, rq_51, rq_u51, ljn_s]
      refine a_aload_n B dX7_next_243 rfl ?_
      refine a_dup B dX7_next_244 rfl ?_
      refine a_getI B fl_X7_195 (by decide) rfl rfl dX7_next_245 ?_
      refine a_iconst (v := 1) B dX7_next_248 (by decide) ?_
      refine a_iadd B dX7_next_249 ?_
      try simp only [upB_stB, stB_at, rq_u2, rq_u3, rq_u4, rq_u5, rq_u6, rq_1, rq_2, rq_3, rq_4, rq_5, rq_6, rq_51, rq_u51, ljn_s]
      refine a_putI B twM fl_X7_195 fp_7_8 (by decide) rfl rfl dX7_next_250 ?_
      refine a_goto 185 B dX7_next_253 (by decide) ?_
      try simp only [upB_stB, stB_at, rq_u2, rq_u3, rq_u4, rq_u5, rq_u6, rq_1, rq_2, rq_3, rq_4, rq_5, rq_6, rq_51, rq_u51, ljn_s]
      rw [nI_1]
      have h5 := h4
      rw [nv_go (by omega) hl, if_pos hv1] at h5
      exact ih (k + 1) _ (by omega) (by omega) ((run_go (by omega) hl).symm.trans h3) h5
  have rest : AW Pp l Ee (rmK 1 (34 * 1)) Ss Mm Aa Bb Me Cc D (wl A cy 11 TM X) A0 2 0 0 (MQ Bb (QG D (wl A cy 11 TM X) A0 (rV (stB M 10 (nxD (gM M) (M 10) e)))) Aa Ss 0 0 A0) 26 [some (.ref (A 0)), none] [] (stB M 10 (rq (M 10) (nI s) (M 10 3) (M 10 4) (M 10 5) (M 10 6))) := by
    refine a_aload_n B dX7_next_26 rfl ?_
    refine a_aload_n B dX7_next_27 rfl ?_
    refine a_getI B fl_X7_195 (by decide) rfl rfl dX7_next_28 ?_
    try simp only [upB_stB, stB_at, rq_u2, rq_u3, rq_u4, rq_u5, rq_u6, rq_1, rq_2, rq_3, rq_4, rq_5, rq_6, rq_51, rq_u51, ljn_s]
    refine a_putI B twM fl_X7_201 fp_7_10 (by decide) rfl rfl dX7_next_31 ?_
    refine a_aload_n B dX7_next_34 rfl ?_
    refine a_lconst (v := 0) B dX7_next_35 (by decide) ?_
    try simp only [upB_stB, stB_at, rq_u2, rq_u3, rq_u4, rq_u5, rq_u6, rq_1, rq_2, rq_3, rq_4, rq_5, rq_6, rq_51, rq_u51, ljn_s]
    refine a_putL B twM fl_X7_204 fp_7_11 (by decide) rfl rfl dX7_next_36 ?_
    try simp only [upB_stB, stB_at, rq_u2, rq_u3, rq_u4, rq_u5, rq_u6, rq_1, rq_2, rq_3, rq_4, rq_5, rq_6, rq_51, rq_u51, ljn_s]
    refine a_aload_n B dX7_next_39 rfl ?_
    refine a_aload_n B dX7_next_40 rfl ?_
    refine a_getI B fl_X7_195 (by decide) rfl rfl dX7_next_41 ?_
    try simp only [upB_stB, stB_at, rq_u2, rq_u3, rq_u4, rq_u5, rq_u6, rq_1, rq_2, rq_3, rq_4, rq_5, rq_6, rq_51, rq_u51, ljn_s]
    refine a_callV1r B rfl cf_X7_byteAt lk_X7_198 in_X7_byteAt se_X7_byteAt (wl_rc (p0 := 0) (by decide) rfl rfl rfl) (m_byteR s (by omega) M hT _ rfl) dX7_next_44 (Nat.le_of_ble_eq_true rfl) ⟨Nat.le_of_ble_eq_true rfl, Nat.le_of_ble_eq_true rfl⟩ ⟨rfl, rfl⟩ ?_
    refine p_istore1 B dX7_next_47 (by decide) (k := ?_)
    refine a_aload_n B dX7_next_48 rfl ?_
    refine a_getI B fl_X7_195 (by decide) rfl rfl dX7_next_49 ?_
    try simp only [upB_stB, stB_at, rq_u2, rq_u3, rq_u4, rq_u5, rq_u6, rq_1, rq_2, rq_3, rq_4, rq_5, rq_6, rq_51, rq_u51, ljn_s]
    refine a_aload_n B dX7_next_52 rfl ?_
    refine a_getI B fl_X7_191 (by decide) rfl rfl dX7_next_53 ?_
    try simp only [upB_stB, stB_at, rq_u2, rq_u3, rq_u4, rq_u5, rq_u6, rq_1, rq_2, rq_3, rq_4, rq_5, rq_6, rq_51, rq_u51, ljn_s]
    refine a_icmp_ne 67 B dX7_next_56 (by decide) (fun c56 => ?_) (fun c56 => ?_)
    · have hsL2 : s < tapR M := Nat.lt_of_le_of_ne hsL (fun q => c56 (by rw [hT.2.1, q]))
      have hg : ¬ gM M s < 0 := fun q => by have := (g_f hT s).1.mp q; omega
      refine a_iload_n B dX7_next_67 rfl ?_
      refine a_bipush (v := 59) B dX7_next_68 (by decide) ?_
      refine a_icmp_ne 91 B dX7_next_70 (by decide) (fun c70 => ?_) (fun c70 => ?_)
      · have h59 : ¬ gM M s = 59 := fun q => c70 ((g_f hT s).2.2.1.mpr q)
        refine a_iload_n B dX7_next_91 rfl ?_
        refine a_callS1r B rfl cf_X7_letter lk_X7_211 st_X7_letter (m_letter _ _) dX7_next_92 (Nat.le_of_ble_eq_true rfl) ⟨Nat.le_of_ble_eq_true rfl, Nat.le_of_ble_eq_true rfl⟩ ⟨rfl, rfl⟩ ?_
        refine a_if_le 173 B dX7_next_95 (by decide) (fun c95 => ?_) (fun c95 => ?_)
        · have hl : isL (gM M s) = false := by rw [← (g_f hT s).2.2.2.1]; exact letR_le.mp c95
          refine a_iload_n B dX7_next_173 rfl ?_
          refine a_callS1r B rfl cf_X7_isDigit lk_X7_218 st_X7_isDigit (m_isDigit _ _) dX7_next_174 (Nat.le_of_ble_eq_true rfl) ⟨Nat.le_of_ble_eq_true rfl, Nat.le_of_ble_eq_true rfl⟩ ⟨rfl, rfl⟩ ?_
          refine a_if_eq 256 B dX7_next_177 (by decide) (fun c177 => ?_) (fun c177 => ?_)
          · have c177 := bI_eq0.mp c177
            have hd : isD (gM M s) = false := by rw [← (g_f hT s).2.2.2.2.1]; exact c177
            have hTT : lxT (gM M) s = 4 := by unfold lxT; rw [if_neg hg, hl, if_neg (by decide), hd, if_neg (by decide), if_neg h59]
            refine a_aload_n B dX7_next_256 rfl ?_
            refine a_iconst (v := 4) B dX7_next_257 (by decide) ?_
            refine a_putI B twM fl_X7_208 fp_7_9 (by decide) rfl rfl dX7_next_258 ?_
            try simp only [upB_stB, stB_at, rq_u2, rq_u3, rq_u4, rq_u5, rq_u6, rq_1, rq_2, rq_3, rq_4, rq_5, rq_6, rq_51, rq_u51, ljn_s]
            exact a_vret B hr hlk dX7_next_261 ⟨rfl, by unfold nxD tokA tokL tokT tokE; rw [show lxS (gM M) e = s from hs.symm, show tokS (gM M) e = s from hs.symm, hTT, if_pos rfl, if_neg (by decide), if_neg (by decide)]⟩
          have c177 := bI_ne0.mp c177
          have hd : isD (gM M s) = true := by rw [← (g_f hT s).2.2.2.2.1]; exact c177
          refine a_aload_n B dX7_next_180 rfl ?_
          refine a_iconst (v := 2) B dX7_next_181 (by decide) ?_
          try simp only [upB_stB, stB_at, rq_u2, rq_u3, rq_u4, rq_u5, rq_u6, rq_1, rq_2, rq_3, rq_4, rq_5, rq_6, rq_51, rq_u51, ljn_s]
          refine a_putI B twM fl_X7_208 fp_7_9 (by decide) rfl rfl dX7_next_182 ?_
          try simp only [upB_stB, stB_at, rq_u2, rq_u3, rq_u4, rq_u5, rq_u6, rq_1, rq_2, rq_3, rq_4, rq_5, rq_6, rq_51, rq_u51, ljn_s]
          have hTT : lxT (gM M) s = 2 := by unfold lxT; rw [if_neg hg, hl, if_neg (by decide), hd, if_pos rfl]
          have hEE : lxE (gM M) s = runN (fun k => isD (gM M k)) (120 - s) s := by unfold lxE; rw [if_neg hg, hl, if_neg (by decide), hd, if_pos rfl]
          exact loopD hTT hEE (tapR M + 1) s 0 (by omega) hsL rfl rfl
        have hl : isL (gM M s) = true := by cases hq : isL (gM M s) with | true => rfl | false => exact absurd (letR_le.mpr (by rw [(g_f hT s).2.2.2.1]; exact hq)) c95
        refine a_aload_n B dX7_next_98 rfl ?_
        refine a_iconst (v := 1) B dX7_next_99 (by decide) ?_
        try simp only [upB_stB, stB_at, rq_u2, rq_u3, rq_u4, rq_u5, rq_u6, rq_1, rq_2, rq_3, rq_4, rq_5, rq_6, rq_51, rq_u51, ljn_s]
        refine a_putI B twM fl_X7_208 fp_7_9 (by decide) rfl rfl dX7_next_100 ?_
        try simp only [upB_stB, stB_at, rq_u2, rq_u3, rq_u4, rq_u5, rq_u6, rq_1, rq_2, rq_3, rq_4, rq_5, rq_6, rq_51, rq_u51, ljn_s]
        have hTT : lxT (gM M) s = 1 := by unfold lxT; rw [if_neg hg, hl, if_pos rfl]
        have hEE : lxE (gM M) s = runN (fun k => isL (gM M k)) (120 - s) s := by unfold lxE; rw [if_neg hg, hl, if_pos rfl]
        exact loopL hTT hEE (tapR M + 1) s 0 (by omega) hsL rfl rfl
      have h59 : gM M s = 59 := (g_f hT s).2.2.1.mp c70
      have hTT : lxT (gM M) s = 3 := by unfold lxT; rw [if_neg hg, h59]; decide
      refine a_aload_n B dX7_next_73 rfl ?_
      refine a_iconst (v := 3) B dX7_next_74 (by decide) ?_
      try simp only [upB_stB, stB_at, rq_u2, rq_u3, rq_u4, rq_u5, rq_u6, rq_1, rq_2, rq_3, rq_4, rq_5, rq_6, rq_51, rq_u51, ljn_s]
      refine a_putI B twM fl_X7_208 fp_7_9 (by decide) rfl rfl dX7_next_75 ?_
      try simp only [upB_stB, stB_at, rq_u2, rq_u3, rq_u4, rq_u5, rq_u6, rq_1, rq_2, rq_3, rq_4, rq_5, rq_6, rq_51, rq_u51, ljn_s]
      refine a_aload_n B dX7_next_78 rfl ?_
      refine a_dup B dX7_next_79 rfl ?_
      refine a_getI B fl_X7_195 (by decide) rfl rfl dX7_next_80 ?_
      refine a_iconst (v := 1) B dX7_next_83 (by decide) ?_
      refine a_iadd B dX7_next_84 ?_
      try simp only [upB_stB, stB_at, rq_u2, rq_u3, rq_u4, rq_u5, rq_u6, rq_1, rq_2, rq_3, rq_4, rq_5, rq_6, rq_51, rq_u51, ljn_s]
      refine a_putI B twM fl_X7_195 fp_7_8 (by decide) rfl rfl dX7_next_85 ?_
      try simp only [upB_stB, stB_at, rq_u2, rq_u3, rq_u4, rq_u5, rq_u6, rq_1, rq_2, rq_3, rq_4, rq_5, rq_6, rq_51, rq_u51, ljn_s]
      refine a_goto 261 B dX7_next_88 (by decide) ?_
      try simp only [upB_stB, stB_at, rq_u2, rq_u3, rq_u4, rq_u5, rq_u6, rq_1, rq_2, rq_3, rq_4, rq_5, rq_6, rq_51, rq_u51, ljn_s]
      exact a_vret B hr hlk dX7_next_261 ⟨rfl, by unfold nxD tokA tokL tokT tokE; rw [show lxS (gM M) e = s from hs.symm, show tokS (gM M) e = s from hs.symm, hTT, if_neg (by decide), if_neg (by decide), if_neg (by decide), show lxE (gM M) s = s + 1 by unfold lxE; rw [if_neg hg, h59, if_neg (by decide), if_neg (by decide)], nI_1]⟩
    have hsL2 : s = tapR M := by rw [hT.2.1] at c56; exact nI_inj (by omega) (by omega) c56
    have hg : gM M s < 0 := (g_f hT s).1.mpr (by omega)
    have hTT : lxT (gM M) s = 0 := by unfold lxT; rw [if_pos hg]
    refine a_aload_n B dX7_next_59 rfl ?_
    refine a_iconst (v := 0) B dX7_next_60 (by decide) ?_
    refine a_putI B twM fl_X7_208 fp_7_9 (by decide) rfl rfl dX7_next_61 ?_
    try simp only [upB_stB, stB_at, rq_u2, rq_u3, rq_u4, rq_u5, rq_u6, rq_1, rq_2, rq_3, rq_4, rq_5, rq_6, rq_51, rq_u51, ljn_s]
    refine a_goto 261 B dX7_next_64 (by decide) ?_
    try simp only [upB_stB, stB_at, rq_u2, rq_u3, rq_u4, rq_u5, rq_u6, rq_1, rq_2, rq_3, rq_4, rq_5, rq_6, rq_51, rq_u51, ljn_s]
    exact a_vret B hr hlk dX7_next_261 ⟨rfl, by unfold nxD tokA tokL tokT tokE; rw [show lxS (gM M) e = s from hs.symm, show tokS (gM M) e = s from hs.symm, hTT, if_neg (by decide), if_neg (by decide), if_neg (by decide), show lxE (gM M) s = s by unfold lxE; rw [if_pos hg]]⟩
  have loop : ∀ n k, tapR M + 1 ≤ k + n → k ≤ tapR M → runN (fun k => decide (gM M k = 32)) (120 - k) k = runN (fun k => decide (gM M k = 32)) (120 - e) e → AW Pp l Ee (rmK 1 (34 * 1)) Ss Mm Aa Bb Me Cc D (wl A cy 11 TM X) A0 2 0 0 (MQ Bb (QG D (wl A cy 11 TM X) A0 (rV (stB M 10 (nxD (gM M) (M 10) e)))) Aa Ss 0 0 A0) 0 [some (.ref (A 0)), none] [] (stB M 10 (rq (M 10) (nI k) (M 10 3) (M 10 4) (M 10 5) (M 10 6))) := by
    intro n
    induction n with
    | zero => intro k h1 h2; omega
    | succ n ih =>
      intro k h1 h2 h3
      refine a_aload_n B dX7_next_0 rfl ?_
      refine a_aload_n B dX7_next_1 rfl ?_
      refine a_getI B fl_X7_195 (by decide) rfl rfl dX7_next_2 ?_
      try simp only [upB_stB, stB_at, rq_u2, rq_u3, rq_u4, rq_u5, rq_u6, rq_1, rq_2, rq_3, rq_4, rq_5, rq_6, rq_51, rq_u51, ljn_s]
      refine a_callV1r B rfl cf_X7_byteAt lk_X7_198 in_X7_byteAt se_X7_byteAt (wl_rc (p0 := 0) (by decide) rfl rfl rfl) (m_byteR k (by omega) M hT _ rfl) dX7_next_5 (Nat.le_of_ble_eq_true rfl) ⟨Nat.le_of_ble_eq_true rfl, Nat.le_of_ble_eq_true rfl⟩ ⟨rfl, rfl⟩ ?_
      refine a_bipush (v := 32) B dX7_next_8 (by decide) ?_
      refine a_icmp_ne 26 B dX7_next_10 (by decide) (fun c10 => ?_) (fun c10 => ?_)
      · have hgk : ¬ gM M k = 32 := fun q => c10 ((g_f hT k).2.1.mpr q)
        have e2 : k = s := by rw [hs]; unfold tokS lxS; rw [← h3]; exact (run_no (decide_eq_false hgk)).symm
        rw [e2]
        exact rest
      have hgk : gM M k = 32 := (g_f hT k).2.1.mp c10
      have hkL : k < tapR M := g_lt hT (by rw [hgk]; decide)
      refine a_aload_n B dX7_next_13 rfl ?_
      refine a_dup B dX7_next_14 rfl ?_
      refine a_getI B fl_X7_195 (by decide) rfl rfl dX7_next_15 ?_
      try simp only [upB_stB, stB_at, rq_u2, rq_u3, rq_u4, rq_u5, rq_u6, rq_1, rq_2, rq_3, rq_4, rq_5, rq_6, rq_51, rq_u51, ljn_s]
      refine a_iconst (v := 1) B dX7_next_18 (by decide) ?_
      refine a_iadd B dX7_next_19 ?_
      try simp only [upB_stB, stB_at, rq_u2, rq_u3, rq_u4, rq_u5, rq_u6, rq_1, rq_2, rq_3, rq_4, rq_5, rq_6, rq_51, rq_u51, ljn_s]
      refine a_putI B twM fl_X7_195 fp_7_8 (by decide) rfl rfl dX7_next_20 ?_
      refine a_goto 0 B dX7_next_23 (by decide) ?_
      try simp only [upB_stB, stB_at, rq_u2, rq_u3, rq_u4, rq_u5, rq_u6, rq_1, rq_2, rq_3, rq_4, rq_5, rq_6, rq_51, rq_u51, ljn_s]
      rw [nI_1]
      exact ih (k + 1) (by omega) (by omega) ((run_go (P := fun k => decide (gM M k = 32)) (by omega) (decide_eq_true hgk)).symm.trans h3)
  have hM0 : M = stB M 10 (rq (M 10) (nI e) (M 10 3) (M 10 4) (M 10 5) (M 10 6)) := by rw [← he2, rq_id, stB_id]
  refine a_mem hM0 ?_
  exact loop (tapR M + 1) e (by omega) he rfl
end R23
