section C15
theorem fl_J0_9 : Cond.fieldLink RJ0 9 "java/lang/String" "value" "[B" ∈ GW := gw_of (List.mem_append_right _ (List.mem_of_getElem? (i := 1295) (by decide +kernel))) rfl
theorem fl_J0_15 : Cond.fieldLink RJ0 15 "java/lang/String" "coder" "B" ∈ GW := gw_of (List.mem_append_right _ (List.mem_of_getElem? (i := 1296) (by decide +kernel))) rfl
theorem fs_J0_38 : Cond.fieldLink RJ0 38 "java/lang/String" "COMPACT_STRINGS" "Z" ∈ GW := gw_of (List.mem_append_right _ (List.mem_of_getElem? (i := 660) (by decide +kernel))) rfl
theorem fs_J0_1053 : Cond.fieldLink RJ0 1053 "jdk/internal/util/Preconditions" "SIOOBE_FORMATTER" "Ljava/util/function/BiFunction;" ∈ GW := gw_of (List.mem_append_right _ (List.mem_of_getElem? (i := 676) (by decide +kernel))) rfl

section MMS
variable {σ : Type} {p : Program} {l : Launch} {e : Env} {R : Room} {s : State} {m : MethodId} {args : Array Value} {below : List Frame} {meth : Method} {c : Code} {sk : (Nat → Nat) × (Nat → Nat)} {D : va_G} {cy : Nat → ClassId} {A0 : Nat → Prop} {own : String} {cc : ByteArray} {nL cells slots : Nat} {Q : State → Prop} {pc : Nat} {lo : List (Option Value)} {st : List Value} {wd : σ → va_W} {M : σ}
def slN (i : Nat) : Nat := strL.getD i 0
def sbN (i j : Nat) : Int32 := (strB.getD i []).getD j 0
theorem sl_le : ∀ i, i < 13 → slN i ≤ 7 := by decide
theorem a_ldcS {index : Nat} (i : Nat) (B : BS sk D cy wd A0 p s m args c RX2 cc nL) (hi : i < 13) (hx : strI.getD i 0 = index) (hdg : decode cc pc = .ok (.ldc index, 2)) (k : AW p l e R s m args below meth c D wd A0 nL cells slots Q (pc + 2) lo (.ref (sk.1 i) :: st) M) : AW p l e R s m args below meth c D wd A0 nL cells slots Q pc lo st M := by
  intro H locs ls hP hS hL
  subst hx
  exact va_ldcS B.1.1 B.1.2.1 B.1.2.2.2.1 (B.2.2.2.2.1.2.2.2.1 i hi) hdg (k H locs ls hP hS hL)
theorem a_kval {index : Nat} {i : Nat} (B : BS sk D cy wd A0 p s m args c own cc nL) (hi : i < 13) (hl : Cond.fieldLink own index "java/lang/String" "value" "[B" ∈ GW) (hdg : decode cc pc = .ok (.getfield index, 3)) (k : AW p l e R s m args below meth c D wd A0 nL cells slots Q (pc + 3) lo (.ref (sk.2 i) :: st) M) : AW p l e R s m args below meth c D wd A0 nL cells slots Q pc lo (.ref (sk.1 i) :: st) M := by
  intro H locs ls hP hS hL
  exact vk_getf B.1.1 B.1.2.1 (B.2.2.2.2.1.2.2.2.2.1 i hi).2.2.1 hS B.1.2.2.2.1 (B.1.2.2.2.2 _ hl) (fun x hx => hx) hdg (k H locs ls hP hS hL)
theorem a_kcod {index : Nat} {i : Nat} (B : BS sk D cy wd A0 p s m args c own cc nL) (hi : i < 13) (hl : Cond.fieldLink own index "java/lang/String" "coder" "B" ∈ GW) (hdg : decode cc pc = .ok (.getfield index, 3)) (k : AW p l e R s m args below meth c D wd A0 nL cells slots Q (pc + 3) lo (.int 0 :: st) M) : AW p l e R s m args below meth c D wd A0 nL cells slots Q pc lo (.ref (sk.1 i) :: st) M := by
  intro H locs ls hP hS hL
  exact vk_getf B.1.1 B.1.2.1 (B.2.2.2.2.1.2.2.2.2.1 i hi).2.1 hS B.1.2.2.2.1 (B.1.2.2.2.2 _ hl) (fun x hx => hx) hdg (k H locs ls hP hS hL)
theorem a_klen {i : Nat} (B : BS sk D cy wd A0 p s m args c own cc nL) (hi : i < 13) (hdg : decode cc pc = .ok (.arraylength, 1)) (k : AW p l e R s m args below meth c D wd A0 nL cells slots Q (pc + 1) lo (.int (nI (slN i)) :: st) M) : AW p l e R s m args below meth c D wd A0 nL cells slots Q pc lo (.ref (sk.2 i) :: st) M := by
  intro H locs ls hP hS hL
  exact va_tlen B.1.1 B.1.2.1 (B.2.2.2.2.1.2.2.2.2.1 i hi).2.2.2 hS rfl hdg (k H locs ls hP hS hL)
theorem a_kbald {i j : Nat} {x : Int32} (B : BS sk D cy wd A0 p s m args c own cc nL) (hi : i < 13) (hx : x = nI j) (hj : j < slN i) (hdg : decode cc pc = .ok (.baload, 1)) (k : AW p l e R s m args below meth c D wd A0 nL cells slots Q (pc + 1) lo (.int (sbN i j) :: st) M) : AW p l e R s m args below meth c D wd A0 nL cells slots Q pc lo (.int x :: .ref (sk.2 i) :: st) M := by
  intro H locs ls hP hS hL
  subst hx
  have h7 := sl_le i hi
  exact va_tb B.1.1 B.1.2.1 (B.2.2.2.2.1.2.2.2.2.1 i hi).2.2.2 hS (vp_in_nI hj (by have : strL.getD i 0 ≤ 7 := h7; omega)) (by rw [nI_clamp (by omega)]; rfl) hdg (k H locs ls hP hS hL)
theorem a_compact {index : Nat} (B : BS sk D cy wd A0 p s m args c own cc nL) (hl : Cond.fieldLink own index "java/lang/String" "COMPACT_STRINGS" "Z" ∈ GW) (hdg : decode cc pc = .ok (.getstatic index, 3)) (k : AW p l e R s m args below meth c D wd A0 nL cells slots Q (pc + 3) lo (.int 1 :: st) M) : AW p l e R s m args below meth c D wd A0 nL cells slots Q pc lo st M := by
  intro H locs ls hP hS hL
  exact va_gets B.1.1 B.1.2.1 B.2.2.2.2.1.2.1 hS B.1.2.2.2.1 (B.1.2.2.2.2 _ hl) (fun x hx => hx) hdg (k H locs ls hP hS hL)
theorem a_fmt {index : Nat} (B : BS sk D cy wd A0 p s m args c own cc nL) (hl : Cond.fieldLink own index "jdk/internal/util/Preconditions" "SIOOBE_FORMATTER" "Ljava/util/function/BiFunction;" ∈ GW) (hdg : decode cc pc = .ok (.getstatic index, 3)) (k : AW p l e R s m args below meth c D wd A0 nL cells slots Q (pc + 3) lo (.null :: st) M) (k2 : ∀ t, AW p l e R s m args below meth c D wd A0 nL cells slots Q (pc + 3) lo (.ref t :: st) M) : AW p l e R s m args below meth c D wd A0 nL cells slots Q pc lo st M := by
  intro H locs ls hP hS hL
  rcases B.2.2.2.2.1.2.2.1 with h | ⟨t, h⟩
  · exact va_gets B.1.1 B.1.2.1 h hS B.1.2.2.2.1 (B.1.2.2.2.2 _ hl) (fun x hx => hx) hdg (k H locs ls hP hS hL)
  · exact va_gets B.1.1 B.1.2.1 h hS B.1.2.2.2.1 (B.1.2.2.2.2 _ hl) (fun x hx => hx) hdg (k2 t H locs ls hP hS hL)
theorem a_callVk {y : MD} {n h h1 lc1 index i : Nat} {As : List Value} {st0 : List Value} {r : Value} {M2 : σ} (B : BS sk D cy wd A0 p s m args c own cc nL) (hR0 : R = rmK h1 lc1) (hi0 : i < 13) (hy : y.1.cls = "java/lang/String") (hF : CF y n) (hl : Cond.methodLink own index y.1 ∈ GW) (hi : Cond.instanceMethod y.1 ∈ GW) (hse : Cond.selects y.1.cls y.1 y.1 ∈ GW) (hC : Con l sk D cy wd y h (34 * h) (.ref (sk.1 i) :: As) M (rt1 (some r) M2))
    (hdg : decode cc pc = .ok (.invokevirtual index, 3)) (hst : st0 = As.reverse ++ .ref (sk.1 i) :: st) (hn : As.length = n) (hw : (st.map fun v => v.category).sum ≤ 8) (hR : h + 1 ≤ h1 ∧ 8 + (y.2.2.1 + 11) + 34 * h ≤ lc1) (hcs : cells = 0 ∧ slots = 0)
    (kk : AW p l e R s m args below meth c D wd A0 nL cells slots Q (pc + 3) (lo) (r :: st) (M2)) : AW p l e R s m args below meth c D wd A0 nL cells slots Q (pc) (lo) (st0) (M) := by
  intro H locs ls hP hS hL
  have hrec := vk_recv B.2.2.2.2.1.2.2.2.2 hi0 hS
  rw [← hy] at hrec
  exact a_run B hP hS hL (va_runV (As := As) (rest := st) B.1 (hC H.size) ⟨cw_of B hF hl (by subst hR0; exact hR), B.1.2.2.2.2 _ hi, B.1.2.2.2.2 _ hse⟩ ⟨preK_blind, hrec, fun U hU hW => ⟨rfl, preK_at B hP hS U hU hW⟩⟩ rfl hn hL.1 hst (lv_room hw) hdg (by obtain ⟨rfl, rfl⟩ := hcs; exact ⟨Nat.zero_le _, Nat.zero_le _⟩)) (fun v M9 hh => by obtain ⟨rfl, rfl⟩ := hh; exact kk)
end MMS

variable {l : Launch} {sk : (Nat → Nat) × (Nat → Nat)} {D : va_G} {cy : Nat → ClassId} {A : Nat → Nat} {X : va_W}
set_option maxRecDepth 20000 in
theorem k_J0_coder_7d493 (i : Nat) (hi : i < 13) (M : Mem) : CC l sk D cy A X mJ0_coder_7d493 0 [.ref (sk.1 i)] M (rI 0 M) := by
  refine Con.of (lo := [some (.ref (sk.1 i))]) cf_J0_coder_7d493 (fun _ _ => wl_fst) 0 rfl (Nat.le_of_ble_eq_true rfl) (fun Pp Ee Ss Mm Aa Bb Me Cc A0 B hr hlk => ?_)
  have B : BS sk D cy (wl A cy 51 TC X) A0 Pp Ss Mm Aa Cc RJ0 cJ0_coder_7d493 1 := B
  refine a_compact B fs_J0_38 dJ0_coder_7d493_0 ?_
  refine a_if_eq 13 B dJ0_coder_7d493_3 (by decide) (fun c3 => ?_) (fun c3 => ?_)
  · exact absurd c3 (by decide)
  refine a_aload_n B dJ0_coder_7d493_6 rfl ?_
  refine a_kcod B hi fl_J0_15 dJ0_coder_7d493_7 ?_
  refine a_goto 14 B dJ0_coder_7d493_10 (by decide) ?_
  exact a_zret B hr hlk (rfl) dJ0_coder_7d493_14 ⟨congrArg (fun z => some (Value.int z)) (rfl), rfl⟩
set_option maxRecDepth 20000 in
theorem k_J0_isLatin1_aae02 (i : Nat) (hi : i < 13) (M : Mem) : CC l sk D cy A X mJ0_isLatin1_aae02 0 [.ref (sk.1 i)] M (rI 1 M) := by
  refine Con.of (lo := [some (.ref (sk.1 i))]) cf_J0_isLatin1_aae02 (fun _ _ => wl_fst) 0 rfl (Nat.le_of_ble_eq_true rfl) (fun Pp Ee Ss Mm Aa Bb Me Cc A0 B hr hlk => ?_)
  have B : BS sk D cy (wl A cy 51 TC X) A0 Pp Ss Mm Aa Cc RJ0 cJ0_isLatin1_aae02 1 := B
  refine a_compact B fs_J0_38 dJ0_isLatin1_aae02_0 ?_
  refine a_if_eq 17 B dJ0_isLatin1_aae02_3 (by decide) (fun c3 => ?_) (fun c3 => ?_)
  · exact absurd c3 (by decide)
  refine a_aload_n B dJ0_isLatin1_aae02_6 rfl ?_
  refine a_kcod B hi fl_J0_15 dJ0_isLatin1_aae02_7 ?_
  refine a_if_ne 17 B dJ0_isLatin1_aae02_10 (by decide) (fun c10 => ?_) (fun c10 => ?_)
  · exact absurd rfl c10
  refine a_iconst (v := 1) B dJ0_isLatin1_aae02_13 (by decide) ?_
  refine a_goto 18 B dJ0_isLatin1_aae02_14 (by decide) ?_
  exact a_zret B hr hlk (rfl) dJ0_isLatin1_aae02_18 ⟨congrArg (fun z => some (Value.int z)) (rfl), rfl⟩
theorem sl_sh : ∀ i, i < 13 → nI (slN i) >>> (0 &&& 31) = nI (slN i) := by decide
theorem sl_sh2 : ∀ i, i < 13 → nI (slN i) >>> 0 = nI (slN i) := by decide
set_option maxRecDepth 20000 in
theorem k_J0_length_8abf5 (i : Nat) (hi : i < 13) (M : Mem) : CC l sk D cy A X mJ0_length_8abf5 1 [.ref (sk.1 i)] M (rI (nI (slN i)) M) := by
  refine Con.of (lo := [some (.ref (sk.1 i))]) cf_J0_length_8abf5 (fun _ _ => wl_fst) 0 rfl (Nat.le_of_ble_eq_true rfl) (fun Pp Ee Ss Mm Aa Bb Me Cc A0 B hr hlk => ?_)
  have B : BS sk D cy (wl A cy 51 TC X) A0 Pp Ss Mm Aa Cc RJ0 cJ0_length_8abf5 1 := B
  refine a_aload_n B dJ0_length_8abf5_0 rfl ?_
  refine a_kval B hi fl_J0_9 dJ0_length_8abf5_1 ?_
  refine a_klen B hi dJ0_length_8abf5_4 ?_
  refine a_aload_n B dJ0_length_8abf5_5 rfl ?_
  refine a_callVk B rfl hi rfl cf_J0_coder_7d493 lk_J0_335 in_J0_coder_7d493 se_J0_coder_7d493 (k_J0_coder_7d493 i hi M) dJ0_length_8abf5_6 rfl rfl (Nat.le_of_ble_eq_true rfl) ⟨Nat.le_of_ble_eq_true rfl, Nat.le_of_ble_eq_true rfl⟩ ⟨rfl, rfl⟩ ?_
  refine a_ishr B dJ0_length_8abf5_9 ?_
  exact a_zret B hr hlk (rfl) dJ0_length_8abf5_10 ⟨congrArg (fun z => some (Value.int z)) (by first | exact sl_sh2 i hi | exact sl_sh i hi), rfl⟩
set_option maxRecDepth 20000 in
theorem k_J3_n (x n1 : Int32) (h1 : ¬ x < 0) (h2 : x < n1) (M : Mem) : CC l sk D cy A X mJ3_checkIndex_8e157 0 [.int x, .int n1, .null] M (rI x M) := by
  refine Con.of (lo := [some (.int x), some (.int n1), some (.null)]) cf_J3_checkIndex_8e157 (fun _ _ => wl_fst) 0 rfl (Nat.le_of_ble_eq_true rfl) (fun Pp Ee Ss Mm Aa Bb Me Cc A0 B hr hlk => ?_)
  have B : BS sk D cy (wl A cy 51 TC X) A0 Pp Ss Mm Aa Cc RJ3 cJ3_checkIndex_8e157 3 := B
  refine a_iload_n B dJ3_checkIndex_8e157_0 rfl ?_
  refine a_if_lt 9 B dJ3_checkIndex_8e157_1 (by decide) (fun c1 => ?_) (fun c1 => ?_)
  · exact absurd c1 h1
  refine a_iload_n B dJ3_checkIndex_8e157_4 rfl ?_
  refine a_iload_n B dJ3_checkIndex_8e157_5 rfl ?_
  refine a_icmp_lt 16 B dJ3_checkIndex_8e157_6 (by decide) (fun c6 => ?_) (fun c6 => ?_)
  · refine a_iload_n B dJ3_checkIndex_8e157_16 rfl ?_
    exact a_zret B hr hlk (rfl) dJ3_checkIndex_8e157_17 ⟨congrArg (fun z => some (Value.int z)) (rfl), rfl⟩
  exact absurd h2 c6
set_option maxRecDepth 20000 in
theorem k_J3_r (x n1 : Int32) (h1 : ¬ x < 0) (h2 : x < n1) (t : Nat) (M : Mem) : CC l sk D cy A X mJ3_checkIndex_8e157 0 [.int x, .int n1, .ref t] M (rI x M) := by
  refine Con.of (lo := [some (.int x), some (.int n1), some (.ref t)]) cf_J3_checkIndex_8e157 (fun _ _ => wl_fst) 0 rfl (Nat.le_of_ble_eq_true rfl) (fun Pp Ee Ss Mm Aa Bb Me Cc A0 B hr hlk => ?_)
  have B : BS sk D cy (wl A cy 51 TC X) A0 Pp Ss Mm Aa Cc RJ3 cJ3_checkIndex_8e157 3 := B
  refine a_iload_n B dJ3_checkIndex_8e157_0 rfl ?_
  refine a_if_lt 9 B dJ3_checkIndex_8e157_1 (by decide) (fun c1 => ?_) (fun c1 => ?_)
  · exact absurd c1 h1
  refine a_iload_n B dJ3_checkIndex_8e157_4 rfl ?_
  refine a_iload_n B dJ3_checkIndex_8e157_5 rfl ?_
  refine a_icmp_lt 16 B dJ3_checkIndex_8e157_6 (by decide) (fun c6 => ?_) (fun c6 => ?_)
  · refine a_iload_n B dJ3_checkIndex_8e157_16 rfl ?_
    exact a_zret B hr hlk (rfl) dJ3_checkIndex_8e157_17 ⟨congrArg (fun z => some (Value.int z)) (rfl), rfl⟩
  exact absurd h2 c6
set_option maxRecDepth 20000 in
set_option maxHeartbeats 4000000 in
theorem k_J0_checkIndex_df160 (x n1 : Int32) (h1 : ¬ x < 0) (h2 : x < n1) (M : Mem) : CC l sk D cy A X mJ0_checkIndex_df160 1 [.int x, .int n1] M (rV M) := by
  refine Con.of (lo := [some (.int x), some (.int n1)]) cf_J0_checkIndex_df160 (fun _ _ => wl_fst) 0 rfl (Nat.le_of_ble_eq_true rfl) (fun Pp Ee Ss Mm Aa Bb Me Cc A0 B hr hlk => ?_)
  have B : BS sk D cy (wl A cy 51 TC X) A0 Pp Ss Mm Aa Cc RJ0 cJ0_checkIndex_df160 2 := B
  refine a_iload_n B dJ0_checkIndex_df160_0 rfl ?_
  refine a_iload_n B dJ0_checkIndex_df160_1 rfl ?_
  refine a_fmt B fs_J0_1053 dJ0_checkIndex_df160_2 ?_ (fun t => ?_)
  · refine a_callS3r B rfl cf_J3_checkIndex_8e157 lk_J0_1059 st_J3_checkIndex_8e157 (k_J3_n x n1 h1 h2 M) dJ0_checkIndex_df160_5 (Nat.le_of_ble_eq_true rfl) ⟨Nat.le_of_ble_eq_true rfl, Nat.le_of_ble_eq_true rfl⟩ ⟨rfl, rfl⟩ ?_
    refine a_pop B dJ0_checkIndex_df160_8 rfl ?_
    exact a_vret B hr hlk dJ0_checkIndex_df160_9 ⟨rfl, rfl⟩
  · refine a_callS3r B rfl cf_J3_checkIndex_8e157 lk_J0_1059 st_J3_checkIndex_8e157 (k_J3_r x n1 h1 h2 t M) dJ0_checkIndex_df160_5 (Nat.le_of_ble_eq_true rfl) ⟨Nat.le_of_ble_eq_true rfl, Nat.le_of_ble_eq_true rfl⟩ ⟨rfl, rfl⟩ ?_
    refine a_pop B dJ0_checkIndex_df160_8 rfl ?_
    exact a_vret B hr hlk dJ0_checkIndex_df160_9 ⟨rfl, rfl⟩
theorem sb_ch : ∀ i, i < 13 → ∀ j, j < slN i → ((sbN i j &&& 255).toUInt32 % 65536).toInt32 = sbN i j ∧ narrow .char (.int (sbN i j)) = .int (sbN i j) := by decide
set_option maxRecDepth 20000 in
theorem k_J1_charAt_3b067 (i j : Nat) (hi : i < 13) (hj : j < slN i) (M : Mem) : CC l sk D cy A X mJ1_charAt_3b067 2 [.ref (sk.2 i), .int (nI j)] M (rI (sbN i j) M) := by
  refine Con.of (lo := [some (.ref (sk.2 i)), some (.int (nI j))]) cf_J1_charAt_3b067 (fun _ _ => wl_fst) 0 rfl (Nat.le_of_ble_eq_true rfl) (fun Pp Ee Ss Mm Aa Bb Me Cc A0 B hr hlk => ?_)
  have B : BS sk D cy (wl A cy 51 TC X) A0 Pp Ss Mm Aa Cc RJ1 cJ1_charAt_3b067 2 := B
  have h7 := sl_le i hi
  refine a_iload_n B dJ1_charAt_3b067_0 rfl ?_
  refine a_aload_n B dJ1_charAt_3b067_1 rfl ?_
  refine a_klen B hi dJ1_charAt_3b067_2 ?_
  refine a_callS2v B rfl cf_J0_checkIndex_df160 lk_J1_9 st_J0_checkIndex_df160 (k_J0_checkIndex_df160 _ _ (nI_pos (by omega)) (nI_lt hj (by omega)) _) dJ1_charAt_3b067_3 (Nat.le_of_ble_eq_true rfl) ⟨Nat.le_of_ble_eq_true rfl, Nat.le_of_ble_eq_true rfl⟩ ⟨rfl, rfl⟩ ?_
  refine a_aload_n B dJ1_charAt_3b067_6 rfl ?_
  refine a_iload_n B dJ1_charAt_3b067_7 rfl ?_
  refine a_kbald B hi rfl hj dJ1_charAt_3b067_8 ?_
  refine a_sipush (v := 255) B dJ1_charAt_3b067_9 (by decide) ?_
  refine a_iand B dJ1_charAt_3b067_12 ?_
  refine a_i2c B dJ1_charAt_3b067_13 (sb_ch i hi j hj).1 ?_
  exact a_zret B hr hlk ((sb_ch i hi j hj).2) dJ1_charAt_3b067_14 ⟨congrArg (fun z => some (Value.int z)) (rfl), rfl⟩
set_option maxRecDepth 20000 in
theorem k_J0_charAt_5068e (i j : Nat) (hi : i < 13) (hj : j < slN i) (M : Mem) : CC l sk D cy A X mJ0_charAt_5068e 3 [.ref (sk.1 i), .int (nI j)] M (rI (sbN i j) M) := by
  refine Con.of (lo := [some (.ref (sk.1 i)), some (.int (nI j))]) cf_J0_charAt_5068e (fun _ _ => wl_fst) 0 rfl (Nat.le_of_ble_eq_true rfl) (fun Pp Ee Ss Mm Aa Bb Me Cc A0 B hr hlk => ?_)
  have B : BS sk D cy (wl A cy 51 TC X) A0 Pp Ss Mm Aa Cc RJ0 cJ0_charAt_5068e 2 := B
  refine a_aload_n B dJ0_charAt_5068e_0 rfl ?_
  refine a_callVk B rfl hi rfl cf_J0_isLatin1_aae02 lk_J0_492 in_J0_isLatin1_aae02 se_J0_isLatin1_aae02 (k_J0_isLatin1_aae02 i hi M) dJ0_charAt_5068e_1 rfl rfl (Nat.le_of_ble_eq_true rfl) ⟨Nat.le_of_ble_eq_true rfl, Nat.le_of_ble_eq_true rfl⟩ ⟨rfl, rfl⟩ ?_
  refine a_if_eq 16 B dJ0_charAt_5068e_4 (by decide) (fun c4 => ?_) (fun c4 => ?_)
  · exact absurd c4 (by decide)
  refine a_aload_n B dJ0_charAt_5068e_7 rfl ?_
  refine a_kval B hi fl_J0_9 dJ0_charAt_5068e_8 ?_
  refine a_iload_n B dJ0_charAt_5068e_11 rfl ?_
  refine a_callS2r B rfl cf_J1_charAt_3b067 lk_J0_495 st_J1_charAt_3b067 (k_J1_charAt_3b067 i j hi hj _) dJ0_charAt_5068e_12 (Nat.le_of_ble_eq_true rfl) ⟨Nat.le_of_ble_eq_true rfl, Nat.le_of_ble_eq_true rfl⟩ ⟨rfl, rfl⟩ ?_
  exact a_zret B hr hlk ((sb_ch i hi j hj).2) dJ0_charAt_5068e_15 ⟨congrArg (fun z => some (Value.int z)) (rfl), rfl⟩
end C15
