section LW3
theorem nw_L_7 : NWK RL 7 6 7 [.null, .null, .int 0, .null, .null, .null, .null] := ⟨RX6, TX6, tyX6, rfl, gi_X6, tyX6_ok, gw_of (List.mem_append_right _ (List.mem_of_getElem? (i := 17) (by decide +kernel))) rfl, gw_of (List.mem_append_right _ (List.mem_of_getElem? (i := 18) (by decide +kernel))) rfl, ii_X6, fun j hj => by rcases (show j = 0 ∨ j = 1 ∨ j = 2 ∨ j = 3 ∨ j = 4 ∨ j = 5 ∨ j = 6 by omega) with rfl | rfl | rfl | rfl | rfl | rfl | rfl <;> rfl⟩
theorem nw_L_10 : NWK RL 10 7 17 [.null, .null, .null, .null, .int 0, .null, .null, .int 0, .int 0, .int 0, .int 0, .long 0, .int 0, .null, .null, .null, .null] := ⟨RX7, TX7, tyX7, rfl, gi_X7, tyX7_ok, gw_of (List.mem_append_right _ (List.mem_of_getElem? (i := 831) (by decide +kernel))) rfl, gw_of (List.mem_append_right _ (List.mem_of_getElem? (i := 832) (by decide +kernel))) rfl, ii_X7, fun j hj => by rcases (show j = 0 ∨ j = 1 ∨ j = 2 ∨ j = 3 ∨ j = 4 ∨ j = 5 ∨ j = 6 ∨ j = 7 ∨ j = 8 ∨ j = 9 ∨ j = 10 ∨ j = 11 ∨ j = 12 ∨ j = 13 ∨ j = 14 ∨ j = 15 ∨ j = 16 by omega) with rfl | rfl | rfl | rfl | rfl | rfl | rfl | rfl | rfl | rfl | rfl | rfl | rfl | rfl | rfl | rfl | rfl <;> rfl⟩
def ALLD (Rel : Mem → Mem → Prop) (l : Launch) (sk : (Nat → Nat) × (Nat → Nat)) (D : va_G) (cy : Nat → ClassId) (Ac Ar : Nat → Nat) (Mc Mr : Mem) : Prop := ∀ xa xb xc xd xe : Int32, DUO Rel l sk D cy Ac Ar mX6_set mX7_set [.int xa, .int xb] Value.int Mc Mr ∧ DUO Rel l sk D cy Ac Ar mX6_list mX7_list [.int xa, .int xb] Value.int Mc Mr ∧ DUO Rel l sk D cy Ac Ar mX6_listed mX7_listed [.int xa] Value.int Mc Mr ∧ DUO Rel l sk D cy Ac Ar mX6_priest mX7_priest [.int xa, .int xb] Value.int Mc Mr ∧ DUO Rel l sk D cy Ac Ar mX6_of mX7_of [.int xa, .int xb] Value.int Mc Mr ∧ DUO Rel l sk D cy Ac Ar mX6_change mX7_change [.int xa, .int xb, .int xc] Value.int Mc Mr ∧ DUO Rel l sk D cy Ac Ar mX6_swells mX7_swells [.int xa, .int xb] Value.int Mc Mr ∧ DUO Rel l sk D cy Ac Ar mX6_goes mX7_goes [.int xa] Value.int Mc Mr ∧ DUO Rel l sk D cy Ac Ar mX6_dies mX7_dies [.int xa] Value.int Mc Mr ∧ DUO Rel l sk D cy Ac Ar mX6_go mX7_go [.int xa] Value.int Mc Mr ∧ DUO Rel l sk D cy Ac Ar mX6_now mX7_now [.int xa] Value.int Mc Mr ∧ DUO Rel l sk D cy Ac Ar mX6_ahead mX7_ahead [.int xa, .int xb, .int xc] Value.int Mc Mr ∧ DUO Rel l sk D cy Ac Ar mX6_ill mX7_ill [.int xa] Value.int Mc Mr ∧ DUO Rel l sk D cy Ac Ar mX6_out mX7_out [.int xa] Value.int Mc Mr ∧ DUO Rel l sk D cy Ac Ar mX6_wise mX7_wise [.int xa, .int xb] Value.int Mc Mr ∧ DUO Rel l sk D cy Ac Ar mX6_when mX7_when [.int xa, .int xb] Value.int Mc Mr ∧ DUO Rel l sk D cy Ac Ar mX6_wordsFor mX7_wordsFor [.int xa, .int xb] Value.int Mc Mr ∧ DUO Rel l sk D cy Ac Ar mX6_waterFor mX7_waterFor [.int xa] Value.int Mc Mr ∧ DUO Rel l sk D cy Ac Ar mX6_spare mX7_spare [.int xa, .int xb] Value.int Mc Mr ∧ DUO Rel l sk D cy Ac Ar mX6_kindFor mX7_kindFor [.int xa, .int xb] Value.int Mc Mr ∧ DUO Rel l sk D cy Ac Ar mX6_fast mX7_fast [.int xa] Value.int Mc Mr ∧ DUO Rel l sk D cy Ac Ar mX6_cover mX7_cover [.int xa] Value.int Mc Mr ∧ DUO Rel l sk D cy Ac Ar mX6_fits mX7_fits [.int xa, .int xb] Value.int Mc Mr ∧ DUO Rel l sk D cy Ac Ar mX6_words mX7_words [.int xa, .int xb] Value.int Mc Mr ∧ DUO Rel l sk D cy Ac Ar mX6_kinds mX7_kinds [.int xa, .int xb] Value.int Mc Mr ∧ DUO Rel l sk D cy Ac Ar mX6_come mX7_come [.int xa] Value.int Mc Mr ∧ DUO Rel l sk D cy Ac Ar mX6_odds mX7_odds [.int xa, .int xb, .int xc] Value.long Mc Mr ∧ DUO Rel l sk D cy Ac Ar mX6_seed mX7_seed [.int xa] Value.int Mc Mr ∧ DUO Rel l sk D cy Ac Ar mX6_feed mX7_feed [.int xa, .int xb] Value.int Mc Mr ∧ DUO Rel l sk D cy Ac Ar mX6_wipe mX7_wipe [] Value.int Mc Mr ∧ DUO Rel l sk D cy Ac Ar mX6_text mX7_text [] Value.int Mc Mr ∧ DUO Rel l sk D cy Ac Ar mX6_hold mX7_hold [.int xa, .int xb] Value.int Mc Mr ∧ DUO Rel l sk D cy Ac Ar mX6_as mX7_as [.int xa, .int xb] Value.int Mc Mr ∧ DUO Rel l sk D cy Ac Ar mX6_sheet mX7_sheet [.int xa, .int xb, .int xc] Value.int Mc Mr ∧ DUO Rel l sk D cy Ac Ar mX6_write mX7_write [.int xa, .int xb, .int xc] Value.int Mc Mr ∧ DUO Rel l sk D cy Ac Ar mX6_copy mX7_copy [.int xa, .int xb, .int xc, .int xd, .int xe] Value.int Mc Mr ∧ DUO Rel l sk D cy Ac Ar mX6_load mX7_load [.int xa] Value.int Mc Mr ∧ DUO Rel l sk D cy Ac Ar mX6_judge mX7_judge [.int xa] Value.int Mc Mr ∧ DUO Rel l sk D cy Ac Ar mX6_image mX7_image [] Value.int Mc Mr ∧ DUO Rel l sk D cy Ac Ar mX6_undo mX7_undo [] Value.int Mc Mr ∧ DUO Rel l sk D cy Ac Ar mX6_tear mX7_tear [] Value.int Mc Mr ∧ DUO Rel l sk D cy Ac Ar mX6_count mX7_count [.int xa] Value.int Mc Mr ∧ DUO Rel l sk D cy Ac Ar mX6_status mX7_status [.int xa] Value.int Mc Mr
variable {p : Program} {l : Launch} {e : Env} {s : State} {m : MethodId} {below : List Frame} {meth : Method} {c : Code} {sk : (Nat → Nat) × (Nat → Nat)} {D : va_G} {cy : Nat → ClassId} {A0 : Nat → Prop} {Ac Ar : Nat → Nat} {Mc Mr : Mem} {Rel : Mem → Mem → Prop} {b L i : Nat} {xs : Nat → Int32} {Q : State → Prop}
theorem lt_L : ∀ L, L < 6 → nI L - 6 < 0 := by decide
set_option maxRecDepth 20000 in
set_option maxHeartbeats 4000000 in
theorem law_loop (B : BS sk D cy (lwd cy Ac Ar) A0 p s m #[Value.ref b] c RL cL_law 4) (hX : va_X b L xs s s.heap) (hbl : b < s.heap.size) (hbA : ¬ A0 b) (hL : L ≤ 3072) (hall : ∀ Mc Mr, Rel Mc Mr → ALLD Rel l sk D cy Ac Ar Mc Mr) (hret : ∀ lo M, AW p l e room_1 s m #[Value.ref b] below meth c D (lwd cy Ac Ar) A0 4 62 1194 Q 1466 lo [] M) : ∀ n i Mc Mr, L + 1 ≤ i + n → i ≤ L → Rel Mc Mr → AW p l e room_1 s m #[Value.ref b] below meth c D (lwd cy Ac Ar) A0 4 62 1194 Q 18 [some (.ref b), some (.ref (Ac 0)), some (.ref (Ar 0)), some (.int (nI i))] [] (Mc, Mr) := by
  intro n
  induction n with
  | zero => intro i Mc Mr h1 h2; omega
  | succ n ih =>
    intro i Mc Mr h1 h2 hRel
    refine a_iload_n B dL_law_18 rfl ?_
    refine a_aload_n B dL_law_19 rfl ?_
    refine l_slen B hX hbl hbA dL_law_20 ?_
    refine a_bipush (v := 6) B dL_law_21 (by decide) ?_
    refine a_isub B dL_law_23 ?_
    refine a_icmp_gt 1466 B dL_law_24 (by decide) (fun c24 => ?_) (fun c24 => ?_)
    · exact hret _ _
    have hL6 : 6 ≤ L := by
      rcases Nat.lt_or_ge L 6 with q | q
      · exfalso
        exact c24 (Int32.lt_of_lt_of_le (lt_L L q) (Int32.not_lt.mp (nI_pos (by omega))))
      · exact q
    have hi : i + 6 ≤ L := by
      rw [show (6 : Int32) = nI 6 from rfl, pk_sub hL6] at c24
      have := Nat.le_of_not_lt (fun q => c24 (nI_lt (a := L - 6) q (by omega)))
      omega
    obtain ⟨h0d, h1d, h2d, h3d, h4d, h5d, h6d, h7d, h8d, h9d, h10d, h11d, h12d, h13d, h14d, h15d, h16d, h17d, h18d, h19d, h20d, h21d, h22d, h23d, h24d, h25d, h26d, h27d, h28d, h29d, h30d, h31d, h32d, h33d, h34d, h35d, h36d, h37d, h38d, h39d, h40d, h41d, h42d⟩ := hall Mc Mr hRel (xs (i + 1)) (xs (i + 2)) (xs (i + 3)) (xs (i + 4)) (xs (i + 5))
    have kk : ∀ M1 M2, Rel M1 M2 → AW p l e room_1 s m #[Value.ref b] below meth c D (lwd cy Ac Ar) A0 4 62 1194 Q 1460 [some (.ref b), some (.ref (Ac 0)), some (.ref (Ar 0)), some (.int (nI i))] [] (M1, M2) := by
      intro M1 M2 hR
      refine p_iinc3 6 B dL_law_1460 (by decide) (by decide) (k := ?_)
      refine a_goto 18 B dL_law_1463 (by decide) ?_
      rw [show nI i + 6 = nI (i + 6) from nI_add i 6]
      exact ih (i + 6) M1 M2 (by omega) hi hR
    refine a_aload_n B dL_law_27 rfl ?_
    refine a_iload_n B dL_law_28 rfl ?_
    refine l_sld i B hX hbl hbA rfl (by omega) hL dL_law_29 ?_
    refine a_bipush (v := 63) B dL_law_30 (by decide) ?_
    refine a_iand B dL_law_32 ?_
    by_cases s0 : xs i &&& 63 = 0
    · refine a_tblIn 220 B dL_law_33 (by rw [s0]; decide) (by rw [s0]; decide) (by rw [s0]; rfl) (by decide) ?_
      exact lc_set B hX hbl hbA hi hL h0d kk
    by_cases s1 : xs i &&& 63 = 1
    · refine a_tblIn 253 B dL_law_33 (by rw [s1]; decide) (by rw [s1]; decide) (by rw [s1]; rfl) (by decide) ?_
      exact lc_list B hX hbl hbA hi hL h1d kk
    by_cases s2 : xs i &&& 63 = 2
    · refine a_tblIn 286 B dL_law_33 (by rw [s2]; decide) (by rw [s2]; decide) (by rw [s2]; rfl) (by decide) ?_
      exact lc_listed B hX hbl hbA hi hL h2d kk
    by_cases s3 : xs i &&& 63 = 3
    · refine a_tblIn 309 B dL_law_33 (by rw [s3]; decide) (by rw [s3]; decide) (by rw [s3]; rfl) (by decide) ?_
      exact lc_priest B hX hbl hbA hi hL h3d kk
    by_cases s4 : xs i &&& 63 = 4
    · refine a_tblIn 342 B dL_law_33 (by rw [s4]; decide) (by rw [s4]; decide) (by rw [s4]; rfl) (by decide) ?_
      exact lc_of B hX hbl hbA hi hL h4d kk
    by_cases s5 : xs i &&& 63 = 5
    · refine a_tblIn 375 B dL_law_33 (by rw [s5]; decide) (by rw [s5]; decide) (by rw [s5]; rfl) (by decide) ?_
      exact lc_change B hX hbl hbA hi hL h5d kk
    by_cases s6 : xs i &&& 63 = 6
    · refine a_tblIn 418 B dL_law_33 (by rw [s6]; decide) (by rw [s6]; decide) (by rw [s6]; rfl) (by decide) ?_
      exact lc_swells B hX hbl hbA hi hL h6d kk
    by_cases s7 : xs i &&& 63 = 7
    · refine a_tblIn 451 B dL_law_33 (by rw [s7]; decide) (by rw [s7]; decide) (by rw [s7]; rfl) (by decide) ?_
      exact lc_goes B hX hbl hbA hi hL h7d kk
    by_cases s8 : xs i &&& 63 = 8
    · refine a_tblIn 474 B dL_law_33 (by rw [s8]; decide) (by rw [s8]; decide) (by rw [s8]; rfl) (by decide) ?_
      exact lc_dies B hX hbl hbA hi hL h8d kk
    by_cases s9 : xs i &&& 63 = 9
    · refine a_tblIn 497 B dL_law_33 (by rw [s9]; decide) (by rw [s9]; decide) (by rw [s9]; rfl) (by decide) ?_
      exact lc_go B hX hbl hbA hi hL h9d kk
    by_cases s10 : xs i &&& 63 = 10
    · refine a_tblIn 520 B dL_law_33 (by rw [s10]; decide) (by rw [s10]; decide) (by rw [s10]; rfl) (by decide) ?_
      exact lc_now B hX hbl hbA hi hL h10d kk
    by_cases s11 : xs i &&& 63 = 11
    · refine a_tblIn 543 B dL_law_33 (by rw [s11]; decide) (by rw [s11]; decide) (by rw [s11]; rfl) (by decide) ?_
      exact lc_ahead B hX hbl hbA hi hL h11d kk
    by_cases s12 : xs i &&& 63 = 12
    · refine a_tblIn 586 B dL_law_33 (by rw [s12]; decide) (by rw [s12]; decide) (by rw [s12]; rfl) (by decide) ?_
      exact lc_ill B hX hbl hbA hi hL h12d kk
    by_cases s13 : xs i &&& 63 = 13
    · refine a_tblIn 609 B dL_law_33 (by rw [s13]; decide) (by rw [s13]; decide) (by rw [s13]; rfl) (by decide) ?_
      exact lc_out B hX hbl hbA hi hL h13d kk
    by_cases s14 : xs i &&& 63 = 14
    · refine a_tblIn 632 B dL_law_33 (by rw [s14]; decide) (by rw [s14]; decide) (by rw [s14]; rfl) (by decide) ?_
      exact lc_wise B hX hbl hbA hi hL h14d kk
    by_cases s15 : xs i &&& 63 = 15
    · refine a_tblIn 665 B dL_law_33 (by rw [s15]; decide) (by rw [s15]; decide) (by rw [s15]; rfl) (by decide) ?_
      exact lc_when B hX hbl hbA hi hL h15d kk
    by_cases s16 : xs i &&& 63 = 16
    · refine a_tblIn 698 B dL_law_33 (by rw [s16]; decide) (by rw [s16]; decide) (by rw [s16]; rfl) (by decide) ?_
      exact lc_wordsFor B hX hbl hbA hi hL h16d kk
    by_cases s17 : xs i &&& 63 = 17
    · refine a_tblIn 731 B dL_law_33 (by rw [s17]; decide) (by rw [s17]; decide) (by rw [s17]; rfl) (by decide) ?_
      exact lc_waterFor B hX hbl hbA hi hL h17d kk
    by_cases s18 : xs i &&& 63 = 18
    · refine a_tblIn 754 B dL_law_33 (by rw [s18]; decide) (by rw [s18]; decide) (by rw [s18]; rfl) (by decide) ?_
      exact lc_spare B hX hbl hbA hi hL h18d kk
    by_cases s19 : xs i &&& 63 = 19
    · refine a_tblIn 787 B dL_law_33 (by rw [s19]; decide) (by rw [s19]; decide) (by rw [s19]; rfl) (by decide) ?_
      exact lc_kindFor B hX hbl hbA hi hL h19d kk
    by_cases s20 : xs i &&& 63 = 20
    · refine a_tblIn 820 B dL_law_33 (by rw [s20]; decide) (by rw [s20]; decide) (by rw [s20]; rfl) (by decide) ?_
      exact lc_fast B hX hbl hbA hi hL h20d kk
    by_cases s21 : xs i &&& 63 = 21
    · refine a_tblIn 843 B dL_law_33 (by rw [s21]; decide) (by rw [s21]; decide) (by rw [s21]; rfl) (by decide) ?_
      exact lc_cover B hX hbl hbA hi hL h21d kk
    by_cases s22 : xs i &&& 63 = 22
    · refine a_tblIn 866 B dL_law_33 (by rw [s22]; decide) (by rw [s22]; decide) (by rw [s22]; rfl) (by decide) ?_
      exact lc_fits B hX hbl hbA hi hL h22d kk
    by_cases s23 : xs i &&& 63 = 23
    · refine a_tblIn 899 B dL_law_33 (by rw [s23]; decide) (by rw [s23]; decide) (by rw [s23]; rfl) (by decide) ?_
      exact lc_words B hX hbl hbA hi hL h23d kk
    by_cases s24 : xs i &&& 63 = 24
    · refine a_tblIn 932 B dL_law_33 (by rw [s24]; decide) (by rw [s24]; decide) (by rw [s24]; rfl) (by decide) ?_
      exact lc_kinds B hX hbl hbA hi hL h24d kk
    by_cases s25 : xs i &&& 63 = 25
    · refine a_tblIn 965 B dL_law_33 (by rw [s25]; decide) (by rw [s25]; decide) (by rw [s25]; rfl) (by decide) ?_
      exact lc_come B hX hbl hbA hi hL h25d kk
    by_cases s26 : xs i &&& 63 = 26
    · refine a_tblIn 988 B dL_law_33 (by rw [s26]; decide) (by rw [s26]; decide) (by rw [s26]; rfl) (by decide) ?_
      exact lc_odds B hX hbl hbA hi hL h26d kk
    by_cases s27 : xs i &&& 63 = 27
    · refine a_tblIn 1032 B dL_law_33 (by rw [s27]; decide) (by rw [s27]; decide) (by rw [s27]; rfl) (by decide) ?_
      exact lc_seed B hX hbl hbA hi hL h27d kk
    by_cases s28 : xs i &&& 63 = 28
    · refine a_tblIn 1055 B dL_law_33 (by rw [s28]; decide) (by rw [s28]; decide) (by rw [s28]; rfl) (by decide) ?_
      exact lc_feed B hX hbl hbA hi hL h28d kk
    by_cases s29 : xs i &&& 63 = 29
    · refine a_tblIn 1088 B dL_law_33 (by rw [s29]; decide) (by rw [s29]; decide) (by rw [s29]; rfl) (by decide) ?_
      exact lc_wipe B hX hbl hbA hi hL h29d kk
    by_cases s30 : xs i &&& 63 = 30
    · refine a_tblIn 1101 B dL_law_33 (by rw [s30]; decide) (by rw [s30]; decide) (by rw [s30]; rfl) (by decide) ?_
      exact lc_text B hX hbl hbA hi hL h30d kk
    by_cases s31 : xs i &&& 63 = 31
    · refine a_tblIn 1114 B dL_law_33 (by rw [s31]; decide) (by rw [s31]; decide) (by rw [s31]; rfl) (by decide) ?_
      exact lc_hold B hX hbl hbA hi hL h31d kk
    by_cases s32 : xs i &&& 63 = 32
    · refine a_tblIn 1147 B dL_law_33 (by rw [s32]; decide) (by rw [s32]; decide) (by rw [s32]; rfl) (by decide) ?_
      exact lc_as B hX hbl hbA hi hL h32d kk
    by_cases s33 : xs i &&& 63 = 33
    · refine a_tblIn 1180 B dL_law_33 (by rw [s33]; decide) (by rw [s33]; decide) (by rw [s33]; rfl) (by decide) ?_
      exact lc_sheet B hX hbl hbA hi hL h33d kk
    by_cases s34 : xs i &&& 63 = 34
    · refine a_tblIn 1223 B dL_law_33 (by rw [s34]; decide) (by rw [s34]; decide) (by rw [s34]; rfl) (by decide) ?_
      exact lc_write B hX hbl hbA hi hL h34d kk
    by_cases s35 : xs i &&& 63 = 35
    · refine a_tblIn 1266 B dL_law_33 (by rw [s35]; decide) (by rw [s35]; decide) (by rw [s35]; rfl) (by decide) ?_
      exact lc_copy B hX hbl hbA hi hL h35d kk
    by_cases s36 : xs i &&& 63 = 36
    · refine a_tblIn 1329 B dL_law_33 (by rw [s36]; decide) (by rw [s36]; decide) (by rw [s36]; rfl) (by decide) ?_
      exact lc_load B hX hbl hbA hi hL h36d kk
    by_cases s37 : xs i &&& 63 = 37
    · refine a_tblIn 1352 B dL_law_33 (by rw [s37]; decide) (by rw [s37]; decide) (by rw [s37]; rfl) (by decide) ?_
      exact lc_judge B hX hbl hbA hi hL h37d kk
    by_cases s38 : xs i &&& 63 = 38
    · refine a_tblIn 1375 B dL_law_33 (by rw [s38]; decide) (by rw [s38]; decide) (by rw [s38]; rfl) (by decide) ?_
      exact lc_image B hX hbl hbA hi hL h38d kk
    by_cases s39 : xs i &&& 63 = 39
    · refine a_tblIn 1388 B dL_law_33 (by rw [s39]; decide) (by rw [s39]; decide) (by rw [s39]; rfl) (by decide) ?_
      exact lc_undo B hX hbl hbA hi hL h39d kk
    by_cases s40 : xs i &&& 63 = 40
    · refine a_tblIn 1401 B dL_law_33 (by rw [s40]; decide) (by rw [s40]; decide) (by rw [s40]; rfl) (by decide) ?_
      exact lc_tear B hX hbl hbA hi hL h40d kk
    by_cases s41 : xs i &&& 63 = 41
    · refine a_tblIn 1414 B dL_law_33 (by rw [s41]; decide) (by rw [s41]; decide) (by rw [s41]; rfl) (by decide) ?_
      exact lc_count B hX hbl hbA hi hL h41d kk
    by_cases s42 : xs i &&& 63 = 42
    · refine a_tblIn 1437 B dL_law_33 (by rw [s42]; decide) (by rw [s42]; decide) (by rw [s42]; rfl) (by decide) ?_
      exact lc_status B hX hbl hbA hi hL h42d kk
    refine a_tblOut 1460 B dL_law_33 (by have h0 := lv_neT s0 (show (0 : Int32).toInt = 0 by decide); have h1 := lv_neT s1 (show (1 : Int32).toInt = 1 by decide); have h2 := lv_neT s2 (show (2 : Int32).toInt = 2 by decide); have h3 := lv_neT s3 (show (3 : Int32).toInt = 3 by decide); have h4 := lv_neT s4 (show (4 : Int32).toInt = 4 by decide); have h5 := lv_neT s5 (show (5 : Int32).toInt = 5 by decide); have h6 := lv_neT s6 (show (6 : Int32).toInt = 6 by decide); have h7 := lv_neT s7 (show (7 : Int32).toInt = 7 by decide); have h8 := lv_neT s8 (show (8 : Int32).toInt = 8 by decide); have h9 := lv_neT s9 (show (9 : Int32).toInt = 9 by decide); have h10 := lv_neT s10 (show (10 : Int32).toInt = 10 by decide); have h11 := lv_neT s11 (show (11 : Int32).toInt = 11 by decide); have h12 := lv_neT s12 (show (12 : Int32).toInt = 12 by decide); have h13 := lv_neT s13 (show (13 : Int32).toInt = 13 by decide); have h14 := lv_neT s14 (show (14 : Int32).toInt = 14 by decide); have h15 := lv_neT s15 (show (15 : Int32).toInt = 15 by decide); have h16 := lv_neT s16 (show (16 : Int32).toInt = 16 by decide); have h17 := lv_neT s17 (show (17 : Int32).toInt = 17 by decide); have h18 := lv_neT s18 (show (18 : Int32).toInt = 18 by decide); have h19 := lv_neT s19 (show (19 : Int32).toInt = 19 by decide); have h20 := lv_neT s20 (show (20 : Int32).toInt = 20 by decide); have h21 := lv_neT s21 (show (21 : Int32).toInt = 21 by decide); have h22 := lv_neT s22 (show (22 : Int32).toInt = 22 by decide); have h23 := lv_neT s23 (show (23 : Int32).toInt = 23 by decide); have h24 := lv_neT s24 (show (24 : Int32).toInt = 24 by decide); have h25 := lv_neT s25 (show (25 : Int32).toInt = 25 by decide); have h26 := lv_neT s26 (show (26 : Int32).toInt = 26 by decide); have h27 := lv_neT s27 (show (27 : Int32).toInt = 27 by decide); have h28 := lv_neT s28 (show (28 : Int32).toInt = 28 by decide); have h29 := lv_neT s29 (show (29 : Int32).toInt = 29 by decide); have h30 := lv_neT s30 (show (30 : Int32).toInt = 30 by decide); have h31 := lv_neT s31 (show (31 : Int32).toInt = 31 by decide); have h32 := lv_neT s32 (show (32 : Int32).toInt = 32 by decide); have h33 := lv_neT s33 (show (33 : Int32).toInt = 33 by decide); have h34 := lv_neT s34 (show (34 : Int32).toInt = 34 by decide); have h35 := lv_neT s35 (show (35 : Int32).toInt = 35 by decide); have h36 := lv_neT s36 (show (36 : Int32).toInt = 36 by decide); have h37 := lv_neT s37 (show (37 : Int32).toInt = 37 by decide); have h38 := lv_neT s38 (show (38 : Int32).toInt = 38 by decide); have h39 := lv_neT s39 (show (39 : Int32).toInt = 39 by decide); have h40 := lv_neT s40 (show (40 : Int32).toInt = 40 by decide); have h41 := lv_neT s41 (show (41 : Int32).toInt = 41 by decide); have h42 := lv_neT s42 (show (42 : Int32).toInt = 42 by decide); omega) (by decide) ?_
    exact kk Mc Mr hRel
theorem lwd_fst {M M' : Mem × Mem} : (lwd cy Ac Ar M').map Prod.fst = (lwd cy Ac Ar M).map Prod.fst := by
  simp [lwd, wl]
  rfl
set_option maxRecDepth 20000 in
theorem law_main (B : BS sk D cy (UW []) A0 p s m #[Value.ref b] c RL cL_law 4) (hao : va_AO "RicePriests$Priest" s ∧ va_AO "RicePriests$Sheet" s) (hX : va_X b L xs s s.heap) (hbl : b < s.heap.size) (hbA : ¬ A0 b) (hL : L ≤ 3072) (hall : ∀ Ac Ar Mc Mr, Rel Mc Mr → ALLD Rel l sk D cy Ac Ar Mc Mr) (hrel : Rel M0c M0m) (hret : ∀ (wd : Mem × Mem → va_W) lo M, AW p l e room_1 s m #[Value.ref b] below meth c D wd A0 4 62 1194 Q 1466 lo [] M) : AW p l e room_1 s m #[Value.ref b] below meth c D (UW []) A0 4 0 0 Q 0 [some (.ref b), none, none, none] [] () := by
  refine u_new (W' := fun q => [(q, .inr (6, [.null, .null, .int 0, .null, .null, .null, .null]))]) B nw_L_7 (fun _ => rfl) (Nat.le_of_ble_eq_true rfl) (Nat.le_of_ble_eq_true rfl) dL_law_0 (fun qc B => ?_)
  refine a_dup B dL_law_3 rfl ?_
  refine u_call (X := []) B hao cf_X6_init rfl (Or.inl lk_L_9) in_X6_init rfl rfl (k_X6_init qc) dL_law_4 (Nat.le_of_ble_eq_true rfl) ⟨Nat.le_of_ble_eq_true rfl, Nat.le_of_ble_eq_true rfl⟩ ⟨Nat.le_of_ble_eq_true rfl, Nat.le_of_ble_eq_true rfl⟩ (fun W1 hW1 B => ?_)
  obtain ⟨Ac, hAc, rfl⟩ := hW1
  refine p_astore1 B dL_law_7 (by decide) (k := ?_)
  refine u_new (W' := fun q => wl Ac cy 51 TC [] M0c ++ [(q, .inr (7, [.null, .null, .null, .null, .int 0, .null, .null, .int 0, .int 0, .int 0, .int 0, .long 0, .int 0, .null, .null, .null, .null]))]) B nw_L_10 (fun _ => rfl) (Nat.le_of_ble_eq_true rfl) (Nat.le_of_ble_eq_true rfl) dL_law_8 (fun qr B => ?_)
  refine a_dup B dL_law_11 rfl ?_
  refine u_call (X := wl Ac cy 51 TC [] M0c) B hao cf_X7_init rfl (Or.inl lk_L_12) in_X7_init rfl rfl (k_X7_init qr) dL_law_12 (Nat.le_of_ble_eq_true rfl) ⟨Nat.le_of_ble_eq_true rfl, Nat.le_of_ble_eq_true rfl⟩ ⟨Nat.le_of_ble_eq_true rfl, Nat.le_of_ble_eq_true rfl⟩ (fun W1 hW1 B => ?_)
  obtain ⟨Ar, hAr, rfl⟩ := hW1
  have hw : wl Ac cy 51 TC [] M0c ++ wl Ar cy 11 TM [] M0m = lwd cy Ac Ar (M0c, M0m) := by
    unfold lwd wl
    rw [List.append_nil]
  refine u_as hw ?_
  have B2 : BS sk D cy (lwd cy Ac Ar) A0 p s m #[Value.ref b] c RL cL_law 4 := ⟨B.1, B.2.1, B.2.2.1, fun M => va_D_fst lwd_fst (hw ▸ B.2.2.2.1 ()), B.2.2.2.2.1, B.2.2.2.2.2.1, fun M M' => lwd_fst⟩
  subst hAc
  subst hAr
  have key : AW p l e room_1 s m #[Value.ref b] below meth c D (lwd cy Ac Ar) A0 4 62 1194 Q 15 [some (.ref b), some (.ref (Ac 0)), none, none] [.ref (Ar 0)] (M0c, M0m) := by
    refine p_astore2 B2 dL_law_15 (by decide) (k := ?_)
    refine a_iconst (v := 0) B2 dL_law_16 (by decide) ?_
    refine p_istore3 B2 dL_law_17 (by decide) (k := ?_)
    exact law_loop B2 hX hbl hbA hL (hall Ac Ar) (fun lo M => hret _ lo M) (L + 1) 0 M0c M0m (by omega) (by omega) hrel
  exact fun H locs ls hP hS hLs => key H locs ls hP hS hLs
end LW3
