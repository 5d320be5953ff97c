section R22
def kiHR (M : Mem) : Int32 := if isWR M 239329775 then 0 else if isWR M 54562550 then 1 else if isWR M 2149867513 then 2 else if isWR M 10553888 then 3 else if isWR M 10124021 then 4 else if isWR M 33861013 then 5 else if isWR M 126232693 then 6 else -1
variable {l : Launch} {sk : (Nat → Nat) × (Nat → Nat)} {D : va_G} {cy : Nat → ClassId} {A : Nat → Nat} {X : va_W}
set_option maxRecDepth 20000 in
theorem m_kindHere (M : Mem) : CR l sk D cy A X mX7_kindHere 1 [.ref (A 0)] M (rI (kiHR M) M) := by
  refine Con.of (lo := [some (.ref (A 0))]) cf_X7_kindHere (fun _ _ => wl_fst) 0 rfl (Nat.le_of_ble_eq_true rfl) (fun Pp Ee Ss Mm Aa Bb Me Cc A0 B hr hlk => ?_)
  have B : BS sk D cy (wl A cy 11 TM X) A0 Pp Ss Mm Aa Cc RX7 cX7_kindHere 1 := B
  refine a_aload_n B dX7_kindHere_0 rfl ?_
  refine a_ldc2 B dX7_kindHere_1 kl_X7_230 ?_
  refine a_callV1r B rfl cf_X7_isWord lk_X7_232 in_X7_isWord se_X7_isWord (wl_rc (p0 := 0) (by decide) rfl rfl rfl) (m_isWord _ _) dX7_kindHere_4 (Nat.le_of_ble_eq_true rfl) ⟨Nat.le_of_ble_eq_true rfl, Nat.le_of_ble_eq_true rfl⟩ ⟨rfl, rfl⟩ ?_
  refine a_if_eq 14 B dX7_kindHere_7 (by decide) (fun c7 => ?_) (fun c7 => ?_)
  · have c7 := bI_eq0.mp c7
    refine a_aload_n B dX7_kindHere_14 rfl ?_
    refine a_ldc2 B dX7_kindHere_15 kl_X7_236 ?_
    refine a_callV1r B rfl cf_X7_isWord lk_X7_232 in_X7_isWord se_X7_isWord (wl_rc (p0 := 0) (by decide) rfl rfl rfl) (m_isWord _ _) dX7_kindHere_18 (Nat.le_of_ble_eq_true rfl) ⟨Nat.le_of_ble_eq_true rfl, Nat.le_of_ble_eq_true rfl⟩ ⟨rfl, rfl⟩ ?_
    refine a_if_eq 28 B dX7_kindHere_21 (by decide) (fun c21 => ?_) (fun c21 => ?_)
    · have c21 := bI_eq0.mp c21
      refine a_aload_n B dX7_kindHere_28 rfl ?_
      refine a_ldc2 B dX7_kindHere_29 kl_X7_238 ?_
      refine a_callV1r B rfl cf_X7_isWord lk_X7_232 in_X7_isWord se_X7_isWord (wl_rc (p0 := 0) (by decide) rfl rfl rfl) (m_isWord _ _) dX7_kindHere_32 (Nat.le_of_ble_eq_true rfl) ⟨Nat.le_of_ble_eq_true rfl, Nat.le_of_ble_eq_true rfl⟩ ⟨rfl, rfl⟩ ?_
      refine a_if_eq 42 B dX7_kindHere_35 (by decide) (fun c35 => ?_) (fun c35 => ?_)
      · have c35 := bI_eq0.mp c35
        refine a_aload_n B dX7_kindHere_42 rfl ?_
        refine a_ldc2 B dX7_kindHere_43 kl_X7_240 ?_
        refine a_callV1r B rfl cf_X7_isWord lk_X7_232 in_X7_isWord se_X7_isWord (wl_rc (p0 := 0) (by decide) rfl rfl rfl) (m_isWord _ _) dX7_kindHere_46 (Nat.le_of_ble_eq_true rfl) ⟨Nat.le_of_ble_eq_true rfl, Nat.le_of_ble_eq_true rfl⟩ ⟨rfl, rfl⟩ ?_
        refine a_if_eq 56 B dX7_kindHere_49 (by decide) (fun c49 => ?_) (fun c49 => ?_)
        · have c49 := bI_eq0.mp c49
          refine a_aload_n B dX7_kindHere_56 rfl ?_
          refine a_ldc2 B dX7_kindHere_57 kl_X7_242 ?_
          refine a_callV1r B rfl cf_X7_isWord lk_X7_232 in_X7_isWord se_X7_isWord (wl_rc (p0 := 0) (by decide) rfl rfl rfl) (m_isWord _ _) dX7_kindHere_60 (Nat.le_of_ble_eq_true rfl) ⟨Nat.le_of_ble_eq_true rfl, Nat.le_of_ble_eq_true rfl⟩ ⟨rfl, rfl⟩ ?_
          refine a_if_eq 70 B dX7_kindHere_63 (by decide) (fun c63 => ?_) (fun c63 => ?_)
          · have c63 := bI_eq0.mp c63
            refine a_aload_n B dX7_kindHere_70 rfl ?_
            refine a_ldc2 B dX7_kindHere_71 kl_X7_244 ?_
            refine a_callV1r B rfl cf_X7_isWord lk_X7_232 in_X7_isWord se_X7_isWord (wl_rc (p0 := 0) (by decide) rfl rfl rfl) (m_isWord _ _) dX7_kindHere_74 (Nat.le_of_ble_eq_true rfl) ⟨Nat.le_of_ble_eq_true rfl, Nat.le_of_ble_eq_true rfl⟩ ⟨rfl, rfl⟩ ?_
            refine a_if_eq 84 B dX7_kindHere_77 (by decide) (fun c77 => ?_) (fun c77 => ?_)
            · have c77 := bI_eq0.mp c77
              refine a_aload_n B dX7_kindHere_84 rfl ?_
              refine a_ldc2 B dX7_kindHere_85 kl_X7_246 ?_
              refine a_callV1r B rfl cf_X7_isWord lk_X7_232 in_X7_isWord se_X7_isWord (wl_rc (p0 := 0) (by decide) rfl rfl rfl) (m_isWord _ _) dX7_kindHere_88 (Nat.le_of_ble_eq_true rfl) ⟨Nat.le_of_ble_eq_true rfl, Nat.le_of_ble_eq_true rfl⟩ ⟨rfl, rfl⟩ ?_
              refine a_if_eq 99 B dX7_kindHere_91 (by decide) (fun c91 => ?_) (fun c91 => ?_)
              · have c91 := bI_eq0.mp c91
                refine a_iconst (v := (-1)) B dX7_kindHere_99 (by decide) ?_
                exact a_iret B hr hlk dX7_kindHere_100 ⟨congrArg (fun z => some (Value.int z)) (by unfold kiHR; simp only [c7, c21, c35, c49, c63, c77, c91, if_true, Bool.false_eq_true, if_false]), rfl⟩
              have c91 := bI_ne0.mp c91
              refine a_bipush (v := 6) B dX7_kindHere_94 (by decide) ?_
              refine a_goto 100 B dX7_kindHere_96 (by decide) ?_
              exact a_iret B hr hlk dX7_kindHere_100 ⟨congrArg (fun z => some (Value.int z)) (by unfold kiHR; simp only [c7, c21, c35, c49, c63, c77, c91, if_true, Bool.false_eq_true, if_false]), rfl⟩
            have c77 := bI_ne0.mp c77
            refine a_iconst (v := 5) B dX7_kindHere_80 (by decide) ?_
            refine a_goto 100 B dX7_kindHere_81 (by decide) ?_
            exact a_iret B hr hlk dX7_kindHere_100 ⟨congrArg (fun z => some (Value.int z)) (by unfold kiHR; simp only [c7, c21, c35, c49, c63, c77, if_true, Bool.false_eq_true, if_false]), rfl⟩
          have c63 := bI_ne0.mp c63
          refine a_iconst (v := 4) B dX7_kindHere_66 (by decide) ?_
          refine a_goto 100 B dX7_kindHere_67 (by decide) ?_
          exact a_iret B hr hlk dX7_kindHere_100 ⟨congrArg (fun z => some (Value.int z)) (by unfold kiHR; simp only [c7, c21, c35, c49, c63, if_true, Bool.false_eq_true, if_false]), rfl⟩
        have c49 := bI_ne0.mp c49
        refine a_iconst (v := 3) B dX7_kindHere_52 (by decide) ?_
        refine a_goto 100 B dX7_kindHere_53 (by decide) ?_
        exact a_iret B hr hlk dX7_kindHere_100 ⟨congrArg (fun z => some (Value.int z)) (by unfold kiHR; simp only [c7, c21, c35, c49, if_true, Bool.false_eq_true, if_false]), rfl⟩
      have c35 := bI_ne0.mp c35
      refine a_iconst (v := 2) B dX7_kindHere_38 (by decide) ?_
      refine a_goto 100 B dX7_kindHere_39 (by decide) ?_
      exact a_iret B hr hlk dX7_kindHere_100 ⟨congrArg (fun z => some (Value.int z)) (by unfold kiHR; simp only [c7, c21, c35, if_true, Bool.false_eq_true, if_false]), rfl⟩
    have c21 := bI_ne0.mp c21
    refine a_iconst (v := 1) B dX7_kindHere_24 (by decide) ?_
    refine a_goto 100 B dX7_kindHere_25 (by decide) ?_
    exact a_iret B hr hlk dX7_kindHere_100 ⟨congrArg (fun z => some (Value.int z)) (by unfold kiHR; simp only [c7, c21, if_true, Bool.false_eq_true, if_false]), rfl⟩
  have c7 := bI_ne0.mp c7
  refine a_iconst (v := 0) B dX7_kindHere_10 (by decide) ?_
  refine a_goto 100 B dX7_kindHere_11 (by decide) ?_
  exact a_iret B hr hlk dX7_kindHere_100 ⟨congrArg (fun z => some (Value.int z)) (by unfold kiHR; simp only [c7, if_true, Bool.false_eq_true, if_false]), rfl⟩
end R22
