section R17

def letR (x : Int32) : Int32 := if isL x then x - 97 + 1 else 0
def tapS (M : Mem) (k : Nat) : Int32 := if k < tapR M then M 5 k else -1
theorem cmp_0 {a b : Int64} : lg_cmp a b = 0 ↔ a = b := by
  unfold lg_cmp
  by_cases h : a > b
  · rw [if_pos h]
    exact ⟨fun q => absurd q (by decide), fun q => (Int64.lt_irrefl (q ▸ h)).elim⟩
  · rw [if_neg h]
    by_cases h2 : a = b
    · rw [if_pos h2]; exact ⟨fun _ => h2, fun _ => rfl⟩
    · rw [if_neg h2]; exact ⟨fun q => absurd q (by decide), fun q => absurd q h2⟩
def valL (M : Mem) : Int64 := ljn (M 10 5) (M 10 6)
def isWR (M : Mem) (x : Int64) : Bool := decide (M 10 3 = 1) && decide (valL M = x)
def wroD (q : Dm) : Dm := upd q 7 (if q 7 < 0 then q 4 else q 7)

variable {l : Launch} {sk : (Nat → Nat) × (Nat → Nat)} {D : va_G} {cy : Nat → ClassId} {A : Nat → Nat} {X : va_W}
set_option maxRecDepth 20000 in
theorem m_letter (x : Int32) (M : Mem) : CR l sk D cy A X mX7_letter 0 [.int x] M (rI (letR x) M) := by
  refine Con.of (lo := [some (.int x)]) cf_X7_letter (fun _ _ => wl_fst) 0 rfl (Nat.le_of_ble_eq_true rfl) (fun Pp Ee Ss Mm Aa Bb Me Cc A0 B hr hlk => ?_)
  have B : BS sk D cy (wl A cy 11 TM X) A0 Pp Ss Mm Aa Cc RX7 cX7_letter 1 := B
  refine a_iload_n B dX7_letter_0 rfl ?_
  refine a_bipush (v := 97) B dX7_letter_1 (by decide) ?_
  refine a_icmp_lt 21 B dX7_letter_3 (by decide) (fun c3 => ?_) (fun c3 => ?_)
  · refine a_iconst (v := 0) B dX7_letter_21 (by decide) ?_
    exact a_iret B hr hlk dX7_letter_22 ⟨congrArg (fun z => some (Value.int z)) (by simp [letR, isL, c3]), rfl⟩
  refine a_iload_n B dX7_letter_6 rfl ?_
  refine a_bipush (v := 122) B dX7_letter_7 (by decide) ?_
  refine a_icmp_gt 21 B dX7_letter_9 (by decide) (fun c9 => ?_) (fun c9 => ?_)
  · refine a_iconst (v := 0) B dX7_letter_21 (by decide) ?_
    exact a_iret B hr hlk dX7_letter_22 ⟨congrArg (fun z => some (Value.int z)) (by simp [letR, isL, c3, c9]), rfl⟩
  refine a_iload_n B dX7_letter_12 rfl ?_
  refine a_bipush (v := 97) B dX7_letter_13 (by decide) ?_
  refine a_isub B dX7_letter_15 ?_
  refine a_iconst (v := 1) B dX7_letter_16 (by decide) ?_
  refine a_iadd B dX7_letter_17 ?_
  refine a_goto 22 B dX7_letter_18 (by decide) ?_
  exact a_iret B hr hlk dX7_letter_22 ⟨congrArg (fun z => some (Value.int z)) (by simp [letR, isL, c3, c9]), rfl⟩
set_option maxRecDepth 20000 in
theorem m_isDigit (x : Int32) (M : Mem) : CR l sk D cy A X mX7_isDigit 0 [.int x] M (rI (bI (isD x)) M) := by
  refine Con.of (lo := [some (.int x)]) cf_X7_isDigit (fun _ _ => wl_fst) 0 rfl (Nat.le_of_ble_eq_true rfl) (fun Pp Ee Ss Mm Aa Bb Me Cc A0 B hr hlk => ?_)
  have B : BS sk D cy (wl A cy 11 TM X) A0 Pp Ss Mm Aa Cc RX7 cX7_isDigit 1 := B
  refine a_iload_n B dX7_isDigit_0 rfl ?_
  refine a_bipush (v := 48) B dX7_isDigit_1 (by decide) ?_
  refine a_icmp_lt 16 B dX7_isDigit_3 (by decide) (fun c3 => ?_) (fun c3 => ?_)
  · refine a_iconst (v := 0) B dX7_isDigit_16 (by decide) ?_
    exact a_zret B hr hlk (rfl) dX7_isDigit_17 ⟨congrArg (fun z => some (Value.int z)) (by simp [isD, bI, c3]), rfl⟩
  refine a_iload_n B dX7_isDigit_6 rfl ?_
  refine a_bipush (v := 57) B dX7_isDigit_7 (by decide) ?_
  refine a_icmp_gt 16 B dX7_isDigit_9 (by decide) (fun c9 => ?_) (fun c9 => ?_)
  · refine a_iconst (v := 0) B dX7_isDigit_16 (by decide) ?_
    exact a_zret B hr hlk (rfl) dX7_isDigit_17 ⟨congrArg (fun z => some (Value.int z)) (by simp [isD, bI, c3, c9]), rfl⟩
  refine a_iconst (v := 1) B dX7_isDigit_12 (by decide) ?_
  refine a_goto 17 B dX7_isDigit_13 (by decide) ?_
  exact a_zret B hr hlk (rfl) dX7_isDigit_17 ⟨congrArg (fun z => some (Value.int z)) (by simp [isD, bI, c3, c9]), rfl⟩
set_option maxRecDepth 20000 in
theorem m_byteAt (k : Nat) (hk : k ≤ 120) (M : Mem) (hL : tapR M ≤ 120) (hML : M 10 1 = nI (tapR M)) : CR l sk D cy A X mX7_byteAt 0 [.ref (A 0), .int (nI k)] M (rI (tapS M k) M) := by
  refine Con.of (lo := [some (.ref (A 0)), some (.int (nI k))]) cf_X7_byteAt (fun _ _ => wl_fst) 0 rfl (Nat.le_of_ble_eq_true rfl) (fun Pp Ee Ss Mm Aa Bb Me Cc A0 B hr hlk => ?_)
  have B : BS sk D cy (wl A cy 11 TM X) A0 Pp Ss Mm Aa Cc RX7 cX7_byteAt 2 := B
  refine a_iload_n B dX7_byteAt_0 rfl ?_
  refine a_aload_n B dX7_byteAt_1 rfl ?_
  refine a_getI B fl_X7_191 (by decide) rfl rfl dX7_byteAt_2 ?_
  rw [hML]
  refine a_icmp_ge 17 B dX7_byteAt_5 (by decide) (fun c5 => ?_) (fun c5 => ?_)
  · have hX : tapS M k = -1 := by unfold tapS; rw [if_neg (fun hh => absurd (nI_lt hh (by omega)) (Int32.not_lt.mpr c5))]
    refine a_iconst (v := (-1)) B dX7_byteAt_17 (by decide) ?_
    exact a_iret B hr hlk dX7_byteAt_18 ⟨congrArg (fun z => some (Value.int z)) (by first | (rw [hX]; done) | (rw [hX, Nat.zero_add])), rfl⟩
  have hkL : k < tapR M := (nI_ltI (by omega) (by omega)).mp (Int32.not_le.mp c5)
  have hX : tapS M k = M 5 k := by unfold tapS; rw [if_pos hkL]
  refine a_aload_n B dX7_byteAt_8 rfl ?_
  refine a_getR B fl_X7_25 (by decide) rfl rfl dX7_byteAt_9 ?_
  refine a_iload_n B dX7_byteAt_12 rfl ?_
  refine a_bald k B (by decide) rfl rfl (by omega) (by decide) dX7_byteAt_13 ?_
  refine a_goto 18 B dX7_byteAt_14 (by decide) ?_
  exact a_iret B hr hlk dX7_byteAt_18 ⟨congrArg (fun z => some (Value.int z)) (by first | (rw [hX]; done) | (rw [hX, Nat.zero_add])), rfl⟩
set_option maxRecDepth 20000 in
theorem m_isWord (x : Int64) (M : Mem) : CR l sk D cy A X mX7_isWord 0 [.ref (A 0), .long x] M (rI (bI (isWR M x)) M) := by
  refine Con.of (lo := [some (.ref (A 0)), some (.long x), none]) cf_X7_isWord (fun _ _ => wl_fst) 0 rfl (Nat.le_of_ble_eq_true rfl) (fun Pp Ee Ss Mm Aa Bb Me Cc A0 B hr hlk => ?_)
  have B : BS sk D cy (wl A cy 11 TM X) A0 Pp Ss Mm Aa Cc RX7 cX7_isWord 3 := B
  refine a_aload_n B dX7_isWord_0 rfl ?_
  refine a_getI B fl_X7_208 (by decide) rfl rfl dX7_isWord_1 ?_
  refine a_iconst (v := 1) B dX7_isWord_4 (by decide) ?_
  refine a_icmp_ne 21 B dX7_isWord_5 (by decide) (fun c5 => ?_) (fun c5 => ?_)
  · refine a_iconst (v := 0) B dX7_isWord_21 (by decide) ?_
    exact a_zret B hr hlk (rfl) dX7_isWord_22 ⟨congrArg (fun z => some (Value.int z)) (by unfold isWR; rw [decide_eq_false c5]; rfl), rfl⟩
  refine a_aload_n B dX7_isWord_8 rfl ?_
  refine a_getL B fl_X7_204 (by decide) rfl rfl dX7_isWord_9 ?_
  refine a_lload_n B dX7_isWord_12 rfl ?_
  refine a_lcmp B dX7_isWord_13 ?_
  refine a_if_ne 21 B dX7_isWord_14 (by decide) (fun c14 => ?_) (fun c14 => ?_)
  · refine a_iconst (v := 0) B dX7_isWord_21 (by decide) ?_
    exact a_zret B hr hlk (rfl) dX7_isWord_22 ⟨congrArg (fun z => some (Value.int z)) (by unfold isWR; rw [decide_eq_false (show ¬ valL M = x from fun q => c14 (cmp_0.mpr q)), Bool.and_false]; rfl), rfl⟩
  refine a_iconst (v := 1) B dX7_isWord_17 (by decide) ?_
  refine a_goto 22 B dX7_isWord_18 (by decide) ?_
  exact a_zret B hr hlk (rfl) dX7_isWord_22 ⟨congrArg (fun z => some (Value.int z)) (by unfold isWR; rw [decide_eq_true c5, decide_eq_true (show valL M = x from cmp_0.mp c14)]; rfl), rfl⟩
set_option maxRecDepth 20000 in
theorem m_wrongHere (M : Mem) : CR l sk D cy A X mX7_wrongHere 0 [.ref (A 0)] M (rV (stB M 10 (wroD (M 10)))) := by
  refine Con.of (lo := [some (.ref (A 0))]) cf_X7_wrongHere (fun _ _ => wl_fst) 0 rfl (Nat.le_of_ble_eq_true rfl) (fun Pp Ee Ss Mm Aa Bb Me Cc A0 B hr hlk => ?_)
  have B : BS sk D cy (wl A cy 11 TM X) A0 Pp Ss Mm Aa Cc RX7 cX7_wrongHere 1 := B
  refine a_aload_n B dX7_wrongHere_0 rfl ?_
  refine a_aload_n B dX7_wrongHere_1 rfl ?_
  refine a_getI B fl_X7_227 (by decide) rfl rfl dX7_wrongHere_2 ?_
  refine a_if_ge 15 B dX7_wrongHere_5 (by decide) (fun c5 => ?_) (fun c5 => ?_)
  · refine a_aload_n B dX7_wrongHere_15 rfl ?_
    refine a_getI B fl_X7_227 (by decide) rfl rfl dX7_wrongHere_16 ?_
    refine a_putI B twM fl_X7_227 fp_7_12 (by decide) rfl rfl dX7_wrongHere_19 ?_
    exact a_vret B hr hlk dX7_wrongHere_22 ⟨rfl, by unfold wroD; rw [if_neg (Int32.not_lt.mpr c5)]; exact upB_st⟩
  refine a_aload_n B dX7_wrongHere_8 rfl ?_
  refine a_getI B fl_X7_201 (by decide) rfl rfl dX7_wrongHere_9 ?_
  refine a_goto 19 B dX7_wrongHere_12 (by decide) ?_
  refine a_putI B twM fl_X7_227 fp_7_12 (by decide) rfl rfl dX7_wrongHere_19 ?_
  exact a_vret B hr hlk dX7_wrongHere_22 ⟨rfl, by unfold wroD; rw [if_pos (Int32.not_le.mp c5)]; exact upB_st⟩
end R17
