
section MMX
variable {σ : Type} {p : Program} {l : Launch} {e : Env} {R : Room} {s : State} {m : MethodId} {args : Array Value} {below : List Frame} {meth : Method} {c : Code} {sk : (Nat → Nat) × (Nat → Nat)} {D : va_G} {cy : Nat → ClassId} {A0 : Nat → Prop} {own : String} {cc : ByteArray} {nL cells slots : Nat} {Q : State → Prop} {pc : Nat} {lo : List (Option Value)} {st : List Value} {wd : σ → va_W} {M : σ}
def ulS (x : Int64) (n : Int32) : Int64 := (x.toUInt64 >>> (n.toInt64.toUInt64 &&& Int64.toUInt64 63)).toInt64
theorem a_lushr {x : Int64} {y : Int32} (B : BS sk D cy wd A0 p s m args c own cc nL) (hdg : decode cc pc = .ok (.lushr, 1))  (k : AW p l e R s m args below meth c D wd A0 nL cells slots Q (pc + 1) lo (.long (ulS x y) :: st) M) : AW p l e R s m args below meth c D wd A0 nL cells slots Q pc lo (.int y :: .long x :: st) M := by
  intro H locs ls hP hS hL
  exact lv_lushr B.1.1 B.1.2.1 hdg rfl (k H locs ls hP hS hL)
theorem a_above {index : Nat} (B : BS sk D cy wd A0 p s m args c own cc nL) (hl : Cond.fieldLink own index "RicePriests$Priest" "ABOVE" "[I" ∈ GW) (hdg : decode cc pc = .ok (.getstatic index, 3)) (k : ∀ t, va_T .int t 7 (fun j => .int (abvL.getD j 0)) A0 s s.heap → AW p l e R s m args below meth c D wd A0 nL cells slots Q (pc + 3) lo (.ref t :: st) M) : AW p l e R s m args below meth c D wd A0 nL cells slots Q pc lo st M := by
  intro H locs ls hP hS hL
  obtain ⟨⟨t, h1, h2⟩, -⟩ := B.2.2.2.2.1
  exact va_gets B.1.1 B.1.2.1 h1 hS B.1.2.2.2.1 (B.1.2.2.2.2 _ hl) (fun x hx => hx) hdg (k t h2 H locs ls hP hS hL)
theorem a_tald {t n : Nat} {x : Int32} (B : BS sk D cy wd A0 p s m args c own cc nL) (hT : va_T .int t 7 (fun j => .int (abvL.getD j 0)) A0 s s.heap) (hx : x = nI n) (hn : n < 7) (hdg : decode cc pc = .ok (.iaload, 1)) (k : AW p l e R s m args below meth c D wd A0 nL cells slots Q (pc + 1) lo (.int (abvL.getD n 0) :: st) M) : AW p l e R s m args below meth c D wd A0 nL cells slots Q pc lo (.int x :: .ref t :: st) M := by
  intro H locs ls hP hS hL
  subst hx
  exact va_ti B.1.1 B.1.2.1 hT hS (vp_in_nI hn (by omega)) (by rw [nI_clamp (by omega)]) hdg (k H locs ls hP hS hL)
end MMX

section C13

def bitL (x : Int64) : Int32 :=
  let a := x - (ulS x 1 &&& 6148914691236517205)
  let b := (a &&& 3689348814741910323) + (ulS a 2 &&& 3689348814741910323)
  let c := (b + ulS b 4) &&& 1085102592571150095
  let d := c + ulS c 8
  let e := d + ulS d 16
  let f := e + ulS e 32
  f.toInt32 &&& 127
def mbit (m : Int64) (k : Nat) : Bool := !decide (lg_cmp (m >>> ((nI k).toInt64 &&& 63) &&& 1) 0 = 0)
def whyX (M : Mem) (s v : Int32) : Option Nat := if wi s 3 then (if M (7 + nn s) 0 = 0 then some 5 else if isP (M 0) v then none else some 0) else some 0
def fitP (M : Mem) (s v : Int32) : Nat → Bool := fitQ (M 0) (nn v) (tlS M (nn s)) (szN M (nn s))
def fitX (M : Mem) (s v : Int32) : Oc := match whyX M s v with
  | some k => .inr k
  | none => .inl (bitL (mskL (fitP M s v) 41))
def wrdX (M : Mem) (s v : Int32) : Oc := match whyX M s v with
  | some k => .inr k
  | none => nS (fstN (mbit (mskL (fitP M s v) 41)) 41)
def kndX (M : Mem) (s v : Int32) : Oc := match whyX M s v with
  | some k => .inr k
  | none => .inl (mskI (knQ (M 0) (nn v) (tlS M (nn s)) (szN M (nn s))) 7)
def oneR (w : Int32) : Nat → Int32 → Bool
  | 0, _ => false
  | n + 1, o => if wi o 6 then (if o = w then true else oneR w n (abvL.getD (nn o) 0)) else false
def asX (d : Dm) (sp kind : Int32) : Oc := if wi sp 9 && wi kind 6 then (if isP d (d (60 + nn sp)) then (if oneR kind 7 (d (12 + nn (d (60 + nn sp)))) then .inl (d (60 + nn sp)) else .inr 2) else .inr 5) else .inr 0
theorem stg {M : Mem} {b : Nat} {d : Dm} (h : Inv (M 2)) (hb : 2 ≠ b) : Inv (stB M b d 2) := by rw [stB_ne hb]; exact h

variable {l : Launch} {sk : (Nat → Nat) × (Nat → Nat)} {D : va_G} {cy : Nat → ClassId} {A : Nat → Nat} {X : va_W}
set_option maxRecDepth 20000 in
theorem k_J13_bitCount_95d88 (x : Int64) (M : Mem) : CC l sk D cy A X mJ13_bitCount_95d88 0 [.long x] M (rI (bitL x) M) := by
  refine Con.of (lo := [some (.long x), none]) cf_J13_bitCount_95d88 (fun _ _ => wl_fst) 0 rfl (Nat.le_of_ble_eq_true rfl) (fun Pp Ee Ss Mm Aa Bb Me Cc A0 B hr hlk => ?_)
  have B : BS sk D cy (wl A cy 51 TC X) A0 Pp Ss Mm Aa Cc RJ13 cJ13_bitCount_95d88 2 := B
  refine a_lload_n B dJ13_bitCount_95d88_0 rfl ?_
  refine a_lload_n B dJ13_bitCount_95d88_1 rfl ?_
  refine a_iconst (v := 1) B dJ13_bitCount_95d88_2 (by decide) ?_
  refine a_lushr B dJ13_bitCount_95d88_3 ?_
  refine a_ldc2 B dJ13_bitCount_95d88_4 kl_J13_314 ?_
  refine a_land B dJ13_bitCount_95d88_7 ?_
  refine a_lsub B dJ13_bitCount_95d88_8 ?_
  refine p_lstore0 B dJ13_bitCount_95d88_9 (by decide) (k := ?_)
  refine a_lload_n B dJ13_bitCount_95d88_10 rfl ?_
  refine a_ldc2 B dJ13_bitCount_95d88_11 kl_J13_316 ?_
  refine a_land B dJ13_bitCount_95d88_14 ?_
  refine a_lload_n B dJ13_bitCount_95d88_15 rfl ?_
  refine a_iconst (v := 2) B dJ13_bitCount_95d88_16 (by decide) ?_
  refine a_lushr B dJ13_bitCount_95d88_17 ?_
  refine a_ldc2 B dJ13_bitCount_95d88_18 kl_J13_316 ?_
  refine a_land B dJ13_bitCount_95d88_21 ?_
  refine a_ladd B dJ13_bitCount_95d88_22 ?_
  refine p_lstore0 B dJ13_bitCount_95d88_23 (by decide) (k := ?_)
  refine a_lload_n B dJ13_bitCount_95d88_24 rfl ?_
  refine a_lload_n B dJ13_bitCount_95d88_25 rfl ?_
  refine a_iconst (v := 4) B dJ13_bitCount_95d88_26 (by decide) ?_
  refine a_lushr B dJ13_bitCount_95d88_27 ?_
  refine a_ladd B dJ13_bitCount_95d88_28 ?_
  refine a_ldc2 B dJ13_bitCount_95d88_29 kl_J13_318 ?_
  refine a_land B dJ13_bitCount_95d88_32 ?_
  refine p_lstore0 B dJ13_bitCount_95d88_33 (by decide) (k := ?_)
  refine a_lload_n B dJ13_bitCount_95d88_34 rfl ?_
  refine a_lload_n B dJ13_bitCount_95d88_35 rfl ?_
  refine a_bipush (v := 8) B dJ13_bitCount_95d88_36 (by decide) ?_
  refine a_lushr B dJ13_bitCount_95d88_38 ?_
  refine a_ladd B dJ13_bitCount_95d88_39 ?_
  refine p_lstore0 B dJ13_bitCount_95d88_40 (by decide) (k := ?_)
  refine a_lload_n B dJ13_bitCount_95d88_41 rfl ?_
  refine a_lload_n B dJ13_bitCount_95d88_42 rfl ?_
  refine a_bipush (v := 16) B dJ13_bitCount_95d88_43 (by decide) ?_
  refine a_lushr B dJ13_bitCount_95d88_45 ?_
  refine a_ladd B dJ13_bitCount_95d88_46 ?_
  refine p_lstore0 B dJ13_bitCount_95d88_47 (by decide) (k := ?_)
  refine a_lload_n B dJ13_bitCount_95d88_48 rfl ?_
  refine a_lload_n B dJ13_bitCount_95d88_49 rfl ?_
  refine a_bipush (v := 32) B dJ13_bitCount_95d88_50 (by decide) ?_
  refine a_lushr B dJ13_bitCount_95d88_52 ?_
  refine a_ladd B dJ13_bitCount_95d88_53 ?_
  refine p_lstore0 B dJ13_bitCount_95d88_54 (by decide) (k := ?_)
  refine a_lload_n B dJ13_bitCount_95d88_55 rfl ?_
  refine a_l2i B dJ13_bitCount_95d88_56 ?_
  refine a_bipush (v := 127) B dJ13_bitCount_95d88_57 (by decide) ?_
  refine a_iand B dJ13_bitCount_95d88_59 ?_
  exact a_iret B hr hlk dJ13_bitCount_95d88_60 ⟨congrArg (fun z => some (Value.int z)) (rfl), rfl⟩
set_option maxRecDepth 20000 in
set_option maxHeartbeats 4000000 in
theorem k_X1_isOneOf (q : Nat) (hq8 : q < 8) (w : Int32) (M : Mem) : CC l sk D cy A X mX1_isOneOf 2 [.ref (A (5 + 12 * 0 + q)), .int w] M (rI (bI (oneR w 7 (M 0 (12 + q)))) M) := by
  refine Con.of (lo := [some (.ref (A (5 + 12 * 0 + q))), some (.int w), none, none]) cf_X1_isOneOf (fun _ _ => wl_fst) 2 rfl (Nat.le_of_ble_eq_true rfl) (fun Pp Ee Ss Mm Aa Bb Me Cc A0 B hr hlk => ?_)
  have B : BS sk D cy (wl A cy 51 TC X) A0 Pp Ss Mm Aa Cc RX1 cX1_isOneOf 4 := B
  have loop : ∀ n k o, 8 ≤ k + n → k ≤ 7 → oneR w (7 - k) o = oneR w 7 (M 0 (12 + q)) → AW Pp l Ee (rmK 2 (34 * 2)) Ss Mm Aa Bb Me Cc D (wl A cy 51 TC X) A0 4 0 0 (MQ Bb (QG D (wl A cy 51 TC X) A0 (rI (bI (oneR w 7 (M 0 (12 + q)))) M)) Aa Ss 0 0 A0) 7 [some (.ref (A (5 + 12 * 0 + q))), some (.int w), some (.int o), some (.int (nI k))] [] (M) := by
    intro n
    induction n with
    | zero => intro k o h1 h2; omega
    | succ n ih =>
      intro k o h1 h2 h3
      refine a_iload_n B dX1_isOneOf_7 rfl ?_
      refine a_bipush (v := 7) B dX1_isOneOf_8 (by decide) ?_
      refine a_icmp_ge 39 B dX1_isOneOf_10 (by decide) (fun c10 => ?_) (fun c10 => ?_)
      · have e1 : k = 7 := by have := ge_n (b := 7) c10 rfl rfl (by omega) (by omega); omega
        subst e1
        refine a_iconst (v := 0) B dX1_isOneOf_39 (by decide) ?_
        exact a_zret B hr hlk rfl dX1_isOneOf_40 ⟨by rw [← h3]; rfl, rfl⟩
      have hlt0 := lt_n (b := 7) c10 rfl rfl (by omega) (by omega)
      have e7 : oneR w (7 - k) o = if wi o 6 then (if o = w then true else oneR w (7 - (k + 1)) (abvL.getD (nn o) 0)) else false := by rw [show 7 - k = (7 - (k + 1)) + 1 by omega]; rfl
      refine a_iload_n B dX1_isOneOf_13 rfl ?_
      refine a_callS1r B rfl cf_X1_isKind lk_X1_15 st_X1_isKind (k_X1_isKind _ _) dX1_isOneOf_14 (Nat.le_of_ble_eq_true rfl) ⟨Nat.le_of_ble_eq_true rfl, Nat.le_of_ble_eq_true rfl⟩ ⟨rfl, rfl⟩ ?_
      refine a_if_eq 39 B dX1_isOneOf_17 (by decide) (fun c17 => ?_) (fun c17 => ?_)
      · have c17 := bI_eq0.mp c17
        refine a_iconst (v := 0) B dX1_isOneOf_39 (by decide) ?_
        exact a_zret B hr hlk rfl dX1_isOneOf_40 ⟨by rw [← h3, e7, c17, if_neg (by decide)]; rfl, rfl⟩
      have c17 := bI_ne0.mp c17
      obtain ⟨on, hon, hoe⟩ := wi_T (t := 6) c17 (by omega)
      refine a_iload_n B dX1_isOneOf_20 rfl ?_
      refine a_iload_n B dX1_isOneOf_21 rfl ?_
      refine a_icmp_ne 27 B dX1_isOneOf_22 (by decide) (fun c22 => ?_) (fun c22 => ?_)
      · refine a_above B fs_X1_38 dX1_isOneOf_27 (fun sT hsT => ?_)
        refine a_iload_n B dX1_isOneOf_30 rfl ?_
        refine a_tald B hsT hoe (by omega) dX1_isOneOf_31 ?_
        refine p_istore2 B dX1_isOneOf_32 (by decide) (k := ?_)
        refine p_iinc3 1 B dX1_isOneOf_33 (by decide) (by decide) (k := ?_)
        refine a_goto 7 B dX1_isOneOf_36 (by decide) ?_
        rw [nI_1]
        refine ih (k + 1) _ (by omega) (by omega) ?_
        rw [← h3, e7, c17, if_pos rfl, if_neg c22, hoe, nn_nI (by omega)]
      refine a_iconst (v := 1) B dX1_isOneOf_25 (by decide) ?_
      exact a_zret B hr hlk rfl dX1_isOneOf_26 ⟨by rw [← h3, e7, c17, if_pos rfl, if_pos c22]; rfl, rfl⟩
  refine a_aload_n B dX1_isOneOf_0 rfl ?_
  refine a_getI B fl_X1_19 (by omega) (tcP 0 (by decide) q hq8) rfl dX1_isOneOf_1 ?_
  refine p_istore2 B dX1_isOneOf_4 (by decide) (k := ?_)
  refine a_iconst (v := 0) B dX1_isOneOf_5 (by decide) ?_
  refine p_istore3 B dX1_isOneOf_6 (by decide) (k := ?_)
  exact loop 8 0 _ (by omega) (by omega) rfl
set_option maxRecDepth 20000 in
set_option maxHeartbeats 4000000 in
theorem k_X6_as (sp kind : Int32) (M : Mem) (hJ : CI M) : CC l sk D cy A X mX6_as 3 [.ref (A 0), .int sp, .int kind] M (rQ (asX (M 0) sp kind) M M) := by
  refine Con.of (lo := [some (.ref (A 0)), some (.int sp), some (.int kind), none, none]) cf_X6_as (fun _ _ => wl_fst) 2 rfl (Nat.le_of_ble_eq_true rfl) (fun Pp Ee Ss Mm Aa Bb Me Cc A0 B hr hlk => ?_)
  have B : BS sk D cy (wl A cy 51 TC X) A0 Pp Ss Mm Aa Cc RX6 cX6_as 5 := B
  obtain ⟨hI0, hI1, hI2, hT, hZ⟩ := hJ
  refine a_iload_n B dX6_as_0 rfl ?_
  refine a_bipush (v := 9) B dX6_as_1 (by decide) ?_
  refine a_callS2r B rfl cf_X6_within lk_X6_48 st_X6_within (k_X6_within _ _ _) dX6_as_3 (Nat.le_of_ble_eq_true rfl) ⟨Nat.le_of_ble_eq_true rfl, Nat.le_of_ble_eq_true rfl⟩ ⟨rfl, rfl⟩ ?_
  refine a_if_eq 16 B dX6_as_6 (by decide) (fun c6 => ?_) (fun c6 => ?_)
  · have c6 := bI_eq0.mp c6
    refine a_aload_n B dX6_as_16 rfl ?_
    refine a_ldc B dX6_as_17 kc_X6_59 ?_
    refine a_callV1r B rfl cf_X6_tell lk_X6_60 in_X6_tell se_X6_tell (wl_rc (p0 := 0) (by decide) rfl rfl rfl) (k_X6_tell 0 (by decide) _ (by decide) _) dX6_as_19 (Nat.le_of_ble_eq_true rfl) ⟨Nat.le_of_ble_eq_true rfl, Nat.le_of_ble_eq_true rfl⟩ ⟨rfl, rfl⟩ ?_
    exact a_iret B hr hlk dX6_as_22 (rQr0 (k := 0) (by simp [asX, c6]) (by decide) hI2 rfl)
  have c6 := bI_ne0.mp c6
  refine a_iload_n B dX6_as_9 rfl ?_
  refine a_callS1r B rfl cf_X1_isKind lk_X6_71 st_X1_isKind (k_X1_isKind _ _) dX6_as_10 (Nat.le_of_ble_eq_true rfl) ⟨Nat.le_of_ble_eq_true rfl, Nat.le_of_ble_eq_true rfl⟩ ⟨rfl, rfl⟩ ?_
  refine a_if_ne 23 B dX6_as_13 (by decide) (fun c13 => ?_) (fun c13 => ?_)
  · have c13 := bI_ne0.mp c13
    obtain ⟨z, hzt, hze⟩ := wi_T (t := 9) c6 (by omega)
    subst hze
    refine a_aload_n B dX6_as_23 rfl ?_
    refine a_getR B fl_X6_12 (by decide) rfl rfl dX6_as_24 ?_
    refine a_getR B fl_X6_262 (by decide) rfl rfl dX6_as_27 ?_
    refine a_iload_n B dX6_as_30 rfl ?_
    refine a_iald z B (by decide) rfl rfl (by omega) (by decide) dX6_as_31 ?_
    refine p_istore3 B dX6_as_32 (by decide) (k := ?_)
    have ez : nn (nI z) = z := nn_nI (by omega)
    rcases at_cases hI0 (M 0 (60 + z)) with ⟨q, hqn, hq8, hvq, hip, hlt⟩ | ⟨hn, hip⟩
    · have hX : asX (M 0) (nI z) kind = if oneR kind 7 (M 0 (12 + q)) then .inl (M 0 (60 + z)) else .inr 2 := by have hip2 : isP (M 0) (nI q) = true := hvq ▸ hip; simp [asX, c6, c13, ez, hip2, hvq, nn_nI (show q < 2 ^ 31 by omega)]
      rw [hvq] at hX ⊢
      refine a_aload_n B dX6_as_33 rfl ?_
      refine a_getR B fl_X6_12 (by decide) rfl rfl dX6_as_34 ?_
      refine a_iload_n B dX6_as_37 rfl ?_
      refine a_callV1r B rfl cf_X0_at lk_X6_81 in_X0_at se_X0_at (wl_rc (p0 := 1) (by decide) rfl rfl rfl) (k_X0_at 0 q (by decide) hq8 _ hlt) dX6_as_38 (Nat.le_of_ble_eq_true rfl) ⟨Nat.le_of_ble_eq_true rfl, Nat.le_of_ble_eq_true rfl⟩ ⟨rfl, rfl⟩ ?_
      refine p_astore4 B dX6_as_41 (by decide) (k := ?_)
      refine a_aload B dX6_as_43 rfl ?_
      refine a_ifnonnull 56 B dX6_as_45 (by decide) ?_
      refine a_aload B dX6_as_56 rfl ?_
      refine a_iload_n B dX6_as_58 rfl ?_
      refine a_callV1r B rfl cf_X1_isOneOf lk_X6_266 in_X1_isOneOf se_X1_isOneOf (wl_rc (p0 := 5 + 12 * 0 + q) (by omega) (tcP 0 (by decide) q hq8) rfl rfl) (k_X1_isOneOf q hq8 _ _) dX6_as_59 (Nat.le_of_ble_eq_true rfl) ⟨Nat.le_of_ble_eq_true rfl, Nat.le_of_ble_eq_true rfl⟩ ⟨rfl, rfl⟩ ?_
      refine a_if_eq 69 B dX6_as_62 (by decide) (fun c62 => ?_) (fun c62 => ?_)
      · have c62 := bI_eq0.mp c62
        refine a_aload_n B dX6_as_69 rfl ?_
        refine a_ldcw B dX6_as_70 kc_X6_269 ?_
        refine a_callV1r B rfl cf_X6_tell lk_X6_60 in_X6_tell se_X6_tell (wl_rc (p0 := 0) (by decide) rfl rfl rfl) (k_X6_tell 2 (by decide) _ (by decide) _) dX6_as_73 (Nat.le_of_ble_eq_true rfl) ⟨Nat.le_of_ble_eq_true rfl, Nat.le_of_ble_eq_true rfl⟩ ⟨rfl, rfl⟩ ?_
        exact a_iret B hr hlk dX6_as_76 (rQr0 (k := 2) (by rw [hX, c62]; rfl) (by decide) hI2 rfl)
      have c62 := bI_ne0.mp c62
      refine a_iload_n B dX6_as_65 rfl ?_
      refine a_goto 76 B dX6_as_66 (by decide) ?_
      exact a_iret B hr hlk dX6_as_76 (rQl0 (by rw [hX, c62]; rfl) (hI2) (rfl))
    · have hX : asX (M 0) (nI z) kind = .inr 5 := by simp [asX, c6, c13, ez, hip]
      refine a_aload_n B dX6_as_33 rfl ?_
      refine a_getR B fl_X6_12 (by decide) rfl rfl dX6_as_34 ?_
      refine a_iload_n B dX6_as_37 rfl ?_
      refine a_callV1r B rfl cf_X0_at lk_X6_81 in_X0_at se_X0_at (wl_rc (p0 := 1) (by decide) rfl rfl rfl) (k_X0_atN 0 (by decide) _ _ hn) dX6_as_38 (Nat.le_of_ble_eq_true rfl) ⟨Nat.le_of_ble_eq_true rfl, Nat.le_of_ble_eq_true rfl⟩ ⟨rfl, rfl⟩ ?_
      refine p_astoreN4 B dX6_as_41 (by decide) (k := ?_)
      refine a_aloadN B dX6_as_43 rfl ?_
      refine a_ifnonnullN B dX6_as_45 ?_
      refine a_aload_n B dX6_as_48 rfl ?_
      refine a_ldcw B dX6_as_49 kc_X6_265 ?_
      refine a_callV1r B rfl cf_X6_tell lk_X6_60 in_X6_tell se_X6_tell (wl_rc (p0 := 0) (by decide) rfl rfl rfl) (k_X6_tell 5 (by decide) _ (by decide) _) dX6_as_52 (Nat.le_of_ble_eq_true rfl) ⟨Nat.le_of_ble_eq_true rfl, Nat.le_of_ble_eq_true rfl⟩ ⟨rfl, rfl⟩ ?_
      exact a_iret B hr hlk dX6_as_55 (rQr0 (k := 5) (hX) (by decide) hI2 rfl)
  have c13 := bI_eq0.mp c13
  refine a_aload_n B dX6_as_16 rfl ?_
  refine a_ldc B dX6_as_17 kc_X6_59 ?_
  refine a_callV1r B rfl cf_X6_tell lk_X6_60 in_X6_tell se_X6_tell (wl_rc (p0 := 0) (by decide) rfl rfl rfl) (k_X6_tell 0 (by decide) _ (by decide) _) dX6_as_19 (Nat.le_of_ble_eq_true rfl) ⟨Nat.le_of_ble_eq_true rfl, Nat.le_of_ble_eq_true rfl⟩ ⟨rfl, rfl⟩ ?_
  exact a_iret B hr hlk dX6_as_22 (rQr0 (k := 0) (by simp [asX, c6, c13]) (by decide) hI2 rfl)
set_option maxRecDepth 20000 in
set_option maxHeartbeats 4000000 in
theorem k_X6_fits (s1 v : Int32) (M : Mem) (hJ : CI M) : CC l sk D cy A X mX6_fits 6 [.ref (A 0), .int s1, .int v] M (rQ (fitX M s1 v) M M) := by
  refine Con.of (lo := [some (.ref (A 0)), some (.int s1), some (.int v), none, none]) cf_X6_fits (fun _ _ => wl_fst) 2 rfl (Nat.le_of_ble_eq_true rfl) (fun Pp Ee Ss Mm Aa Bb Me Cc A0 B hr hlk => ?_)
  have B : BS sk D cy (wl A cy 51 TC X) A0 Pp Ss Mm Aa Cc RX6 cX6_fits 5 := B
  obtain ⟨hI0, hI1, hI2, hT, hZ⟩ := hJ
  rcases wi_cases (t := 3) s1 (by omega) with ⟨t, ht3, hse, hs⟩ | hs
  · subst hse
    have ht : t < 4 := by omega
    have hs : wi (nI t) 3 = true := hs
    have hz := hZ t ht
    have ent : nn (nI t) = t := nn_nI (by omega)
    by_cases h0 : M (7 + t) 0 = 0
    · have hw : whyX M (nI t) v = some 5 := by unfold whyX; rw [hs, if_pos rfl, ent, if_pos h0]
      refine a_aload_n B dX6_fits_0 rfl ?_
      refine a_iload_n B dX6_fits_1 rfl ?_
      refine a_callV1r B rfl cf_X6_sheetAt lk_X6_180 in_X6_sheetAt se_X6_sheetAt (wl_rc (p0 := 0) (by decide) rfl rfl rfl) (k_X6_sheetAt t ht _) dX6_fits_2 (Nat.le_of_ble_eq_true rfl) ⟨Nat.le_of_ble_eq_true rfl, Nat.le_of_ble_eq_true rfl⟩ ⟨rfl, rfl⟩ ?_
      refine p_astore3 B dX6_fits_5 (by decide) (k := ?_)
      refine a_aload_n B dX6_fits_6 rfl ?_
      refine a_aload_n B dX6_fits_7 rfl ?_
      refine a_iload_n B dX6_fits_8 rfl ?_
      refine a_callV2r B rfl cf_X6_wrongFulness lk_X6_184 in_X6_wrongFulness se_X6_wrongFulness (wl_rc (p0 := 0) (by decide) rfl rfl rfl) (k_X6_wrongFulness t ht _ _ hI0) dX6_fits_9 (Nat.le_of_ble_eq_true rfl) ⟨Nat.le_of_ble_eq_true rfl, Nat.le_of_ble_eq_true rfl⟩ ⟨rfl, rfl⟩ ?_
      rw [if_pos h0]
      refine p_istore4 B dX6_fits_12 (by decide) (k := ?_)
      refine a_iload B dX6_fits_14 rfl ?_
      refine a_if_ne 38 B dX6_fits_16 (by decide) (fun c16 => ?_) (fun c16 => ?_)
      · refine a_aload_n B dX6_fits_38 rfl ?_
        refine a_iload B dX6_fits_39 rfl ?_
        refine a_callV1r B rfl cf_X6_tell lk_X6_60 in_X6_tell se_X6_tell (wl_rc (p0 := 0) (by decide) rfl rfl rfl) (k_X6_tell 5 (by decide) _ rfl _) dX6_fits_41 (Nat.le_of_ble_eq_true rfl) ⟨Nat.le_of_ble_eq_true rfl, Nat.le_of_ble_eq_true rfl⟩ ⟨rfl, rfl⟩ ?_
        exact a_iret B hr hlk dX6_fits_44 (rQr0 (k := 5) (by unfold fitX; rw [hw]) (by decide) hI2 rfl)
      exact absurd c16 (by decide)
    rcases at_cases hI0 v with ⟨q, hqn, hq8, hvq, hip, hlt⟩ | ⟨hn, hip⟩
    · subst hvq
      have hw : whyX M (nI t) (nI q) = none := by unfold whyX; rw [hs, if_pos rfl, ent, if_neg h0, if_pos hip]
      have eq8 : nn (nI q) = q := nn_nI (by omega)
      refine a_aload_n B dX6_fits_0 rfl ?_
      refine a_iload_n B dX6_fits_1 rfl ?_
      refine a_callV1r B rfl cf_X6_sheetAt lk_X6_180 in_X6_sheetAt se_X6_sheetAt (wl_rc (p0 := 0) (by decide) rfl rfl rfl) (k_X6_sheetAt t ht _) dX6_fits_2 (Nat.le_of_ble_eq_true rfl) ⟨Nat.le_of_ble_eq_true rfl, Nat.le_of_ble_eq_true rfl⟩ ⟨rfl, rfl⟩ ?_
      refine p_astore3 B dX6_fits_5 (by decide) (k := ?_)
      refine a_aload_n B dX6_fits_6 rfl ?_
      refine a_aload_n B dX6_fits_7 rfl ?_
      refine a_iload_n B dX6_fits_8 rfl ?_
      refine a_callV2r B rfl cf_X6_wrongFulness lk_X6_184 in_X6_wrongFulness se_X6_wrongFulness (wl_rc (p0 := 0) (by decide) rfl rfl rfl) (k_X6_wrongFulness t ht _ _ hI0) dX6_fits_9 (Nat.le_of_ble_eq_true rfl) ⟨Nat.le_of_ble_eq_true rfl, Nat.le_of_ble_eq_true rfl⟩ ⟨rfl, rfl⟩ ?_
      rw [if_neg h0, if_pos hip]
      refine p_istore4 B dX6_fits_12 (by decide) (k := ?_)
      refine a_iload B dX6_fits_14 rfl ?_
      refine a_if_ne 38 B dX6_fits_16 (by decide) (fun c16 => ?_) (fun c16 => ?_)
      · exact absurd rfl c16
      refine a_aload_n B dX6_fits_19 rfl ?_
      refine a_getR B fl_X6_26 (by decide) rfl rfl dX6_fits_20 ?_
      refine a_aload_n B dX6_fits_23 rfl ?_
      refine a_getR B fl_X6_12 (by decide) rfl rfl dX6_fits_24 ?_
      refine a_iload_n B dX6_fits_27 rfl ?_
      refine a_aload_n B dX6_fits_28 rfl ?_
      refine a_callV3p B rfl cf_X3_fittingWords lk_X6_188 in_X3_fittingWords se_X3_fittingWords (wl_rc (p0 := 37) (by decide) rfl rfl rfl) (k_X3_fittingWords _ hI0 hI2 q hqn t ht hz) dX6_fits_29 (Nat.le_of_ble_eq_true rfl) ⟨Nat.le_of_ble_eq_true rfl, Nat.le_of_ble_eq_true rfl⟩ ⟨rfl, rfl⟩ ?_
      rintro _ _ ⟨rfl, dq, hIq, rfl⟩
      show AW Pp l Ee _ Ss Mm Aa Bb Me Cc D _ A0 _ 0 0 _ _ _ (_ :: _) _
      have hfp : fitP M (nI t) (nI q) = fitQ (M 0) q (tlS M t) (szN M t) := by unfold fitP; rw [ent, eq8]
      rw [← hfp]
      refine a_callS1r B rfl cf_J13_bitCount_95d88 lk_X6_192 st_J13_bitCount_95d88 (k_J13_bitCount_95d88 _ _) dX6_fits_32 (Nat.le_of_ble_eq_true rfl) ⟨Nat.le_of_ble_eq_true rfl, Nat.le_of_ble_eq_true rfl⟩ ⟨rfl, rfl⟩ ?_
      refine a_goto 44 B dX6_fits_35 (by decide) ?_
      exact a_iret B hr hlk dX6_fits_44 (rQl (by unfold fitX; rw [hw]) hIq rfl)
    · have hw : whyX M (nI t) v = some 0 := by unfold whyX; rw [hs, if_pos rfl, ent, if_neg h0, hip, if_neg (by decide)]
      refine a_aload_n B dX6_fits_0 rfl ?_
      refine a_iload_n B dX6_fits_1 rfl ?_
      refine a_callV1r B rfl cf_X6_sheetAt lk_X6_180 in_X6_sheetAt se_X6_sheetAt (wl_rc (p0 := 0) (by decide) rfl rfl rfl) (k_X6_sheetAt t ht _) dX6_fits_2 (Nat.le_of_ble_eq_true rfl) ⟨Nat.le_of_ble_eq_true rfl, Nat.le_of_ble_eq_true rfl⟩ ⟨rfl, rfl⟩ ?_
      refine p_astore3 B dX6_fits_5 (by decide) (k := ?_)
      refine a_aload_n B dX6_fits_6 rfl ?_
      refine a_aload_n B dX6_fits_7 rfl ?_
      refine a_iload_n B dX6_fits_8 rfl ?_
      refine a_callV2r B rfl cf_X6_wrongFulness lk_X6_184 in_X6_wrongFulness se_X6_wrongFulness (wl_rc (p0 := 0) (by decide) rfl rfl rfl) (k_X6_wrongFulness t ht _ _ hI0) dX6_fits_9 (Nat.le_of_ble_eq_true rfl) ⟨Nat.le_of_ble_eq_true rfl, Nat.le_of_ble_eq_true rfl⟩ ⟨rfl, rfl⟩ ?_
      rw [if_neg h0, hip, if_neg (show ¬ false = true by decide)]
      refine p_istore4 B dX6_fits_12 (by decide) (k := ?_)
      refine a_iload B dX6_fits_14 rfl ?_
      refine a_if_ne 38 B dX6_fits_16 (by decide) (fun c16 => ?_) (fun c16 => ?_)
      · refine a_aload_n B dX6_fits_38 rfl ?_
        refine a_iload B dX6_fits_39 rfl ?_
        refine a_callV1r B rfl cf_X6_tell lk_X6_60 in_X6_tell se_X6_tell (wl_rc (p0 := 0) (by decide) rfl rfl rfl) (k_X6_tell 0 (by decide) _ rfl _) dX6_fits_41 (Nat.le_of_ble_eq_true rfl) ⟨Nat.le_of_ble_eq_true rfl, Nat.le_of_ble_eq_true rfl⟩ ⟨rfl, rfl⟩ ?_
        exact a_iret B hr hlk dX6_fits_44 (rQr0 (k := 0) (by unfold fitX; rw [hw]) (by decide) hI2 rfl)
      exact absurd c16 (by decide)
  · have hs : wi s1 3 = false := hs
    have hw : whyX M s1 v = some 0 := by unfold whyX; rw [hs, if_neg (by decide)]
    refine a_aload_n B dX6_fits_0 rfl ?_
    refine a_iload_n B dX6_fits_1 rfl ?_
    refine a_callV1r B rfl cf_X6_sheetAt lk_X6_180 in_X6_sheetAt se_X6_sheetAt (wl_rc (p0 := 0) (by decide) rfl rfl rfl) (k_X6_sheetAtN _ hs _) dX6_fits_2 (Nat.le_of_ble_eq_true rfl) ⟨Nat.le_of_ble_eq_true rfl, Nat.le_of_ble_eq_true rfl⟩ ⟨rfl, rfl⟩ ?_
    refine p_astoreN3 B dX6_fits_5 (by decide) (k := ?_)
    refine a_aload_n B dX6_fits_6 rfl ?_
    refine a_aload_nN B dX6_fits_7 rfl ?_
    refine a_iload_n B dX6_fits_8 rfl ?_
    refine a_callV2r B rfl cf_X6_wrongFulness lk_X6_184 in_X6_wrongFulness se_X6_wrongFulness (wl_rc (p0 := 0) (by decide) rfl rfl rfl) (k_X6_wrongFulnessN _ _) dX6_fits_9 (Nat.le_of_ble_eq_true rfl) ⟨Nat.le_of_ble_eq_true rfl, Nat.le_of_ble_eq_true rfl⟩ ⟨rfl, rfl⟩ ?_
    refine p_istore4 B dX6_fits_12 (by decide) (k := ?_)
    refine a_iload B dX6_fits_14 rfl ?_
    refine a_if_ne 38 B dX6_fits_16 (by decide) (fun c16 => ?_) (fun c16 => ?_)
    · refine a_aload_n B dX6_fits_38 rfl ?_
      refine a_iload B dX6_fits_39 rfl ?_
      refine a_callV1r B rfl cf_X6_tell lk_X6_60 in_X6_tell se_X6_tell (wl_rc (p0 := 0) (by decide) rfl rfl rfl) (k_X6_tell 0 (by decide) _ rfl _) dX6_fits_41 (Nat.le_of_ble_eq_true rfl) ⟨Nat.le_of_ble_eq_true rfl, Nat.le_of_ble_eq_true rfl⟩ ⟨rfl, rfl⟩ ?_
      exact a_iret B hr hlk dX6_fits_44 (rQr0 (k := 0) (by unfold fitX; rw [hw]) (by decide) hI2 rfl)
    exact absurd c16 (by decide)
set_option maxRecDepth 20000 in
set_option maxHeartbeats 4000000 in
theorem k_X6_kinds (s1 v : Int32) (M : Mem) (hJ : CI M) : CC l sk D cy A X mX6_kinds 6 [.ref (A 0), .int s1, .int v] M (rQ (kndX M s1 v) M M) := by
  refine Con.of (lo := [some (.ref (A 0)), some (.int s1), some (.int v), none, none]) cf_X6_kinds (fun _ _ => wl_fst) 2 rfl (Nat.le_of_ble_eq_true rfl) (fun Pp Ee Ss Mm Aa Bb Me Cc A0 B hr hlk => ?_)
  have B : BS sk D cy (wl A cy 51 TC X) A0 Pp Ss Mm Aa Cc RX6 cX6_kinds 5 := B
  obtain ⟨hI0, hI1, hI2, hT, hZ⟩ := hJ
  rcases wi_cases (t := 3) s1 (by omega) with ⟨t, ht3, hse, hs⟩ | hs
  · subst hse
    have ht : t < 4 := by omega
    have hs : wi (nI t) 3 = true := hs
    have hz := hZ t ht
    have ent : nn (nI t) = t := nn_nI (by omega)
    by_cases h0 : M (7 + t) 0 = 0
    · have hw : whyX M (nI t) v = some 5 := by unfold whyX; rw [hs, if_pos rfl, ent, if_pos h0]
      refine a_aload_n B dX6_kinds_0 rfl ?_
      refine a_iload_n B dX6_kinds_1 rfl ?_
      refine a_callV1r B rfl cf_X6_sheetAt lk_X6_180 in_X6_sheetAt se_X6_sheetAt (wl_rc (p0 := 0) (by decide) rfl rfl rfl) (k_X6_sheetAt t ht _) dX6_kinds_2 (Nat.le_of_ble_eq_true rfl) ⟨Nat.le_of_ble_eq_true rfl, Nat.le_of_ble_eq_true rfl⟩ ⟨rfl, rfl⟩ ?_
      refine p_astore3 B dX6_kinds_5 (by decide) (k := ?_)
      refine a_aload_n B dX6_kinds_6 rfl ?_
      refine a_aload_n B dX6_kinds_7 rfl ?_
      refine a_iload_n B dX6_kinds_8 rfl ?_
      refine a_callV2r B rfl cf_X6_wrongFulness lk_X6_184 in_X6_wrongFulness se_X6_wrongFulness (wl_rc (p0 := 0) (by decide) rfl rfl rfl) (k_X6_wrongFulness t ht _ _ hI0) dX6_kinds_9 (Nat.le_of_ble_eq_true rfl) ⟨Nat.le_of_ble_eq_true rfl, Nat.le_of_ble_eq_true rfl⟩ ⟨rfl, rfl⟩ ?_
      rw [if_pos h0]
      refine p_istore4 B dX6_kinds_12 (by decide) (k := ?_)
      refine a_iload B dX6_kinds_14 rfl ?_
      refine a_if_ne 35 B dX6_kinds_16 (by decide) (fun c16 => ?_) (fun c16 => ?_)
      · refine a_aload_n B dX6_kinds_35 rfl ?_
        refine a_iload B dX6_kinds_36 rfl ?_
        refine a_callV1r B rfl cf_X6_tell lk_X6_60 in_X6_tell se_X6_tell (wl_rc (p0 := 0) (by decide) rfl rfl rfl) (k_X6_tell 5 (by decide) _ rfl _) dX6_kinds_38 (Nat.le_of_ble_eq_true rfl) ⟨Nat.le_of_ble_eq_true rfl, Nat.le_of_ble_eq_true rfl⟩ ⟨rfl, rfl⟩ ?_
        exact a_iret B hr hlk dX6_kinds_41 (rQr0 (k := 5) (by unfold kndX; rw [hw]) (by decide) hI2 rfl)
      exact absurd c16 (by decide)
    rcases at_cases hI0 v with ⟨q, hqn, hq8, hvq, hip, hlt⟩ | ⟨hn, hip⟩
    · subst hvq
      have hw : whyX M (nI t) (nI q) = none := by unfold whyX; rw [hs, if_pos rfl, ent, if_neg h0, if_pos hip]
      have eq8 : nn (nI q) = q := nn_nI (by omega)
      refine a_aload_n B dX6_kinds_0 rfl ?_
      refine a_iload_n B dX6_kinds_1 rfl ?_
      refine a_callV1r B rfl cf_X6_sheetAt lk_X6_180 in_X6_sheetAt se_X6_sheetAt (wl_rc (p0 := 0) (by decide) rfl rfl rfl) (k_X6_sheetAt t ht _) dX6_kinds_2 (Nat.le_of_ble_eq_true rfl) ⟨Nat.le_of_ble_eq_true rfl, Nat.le_of_ble_eq_true rfl⟩ ⟨rfl, rfl⟩ ?_
      refine p_astore3 B dX6_kinds_5 (by decide) (k := ?_)
      refine a_aload_n B dX6_kinds_6 rfl ?_
      refine a_aload_n B dX6_kinds_7 rfl ?_
      refine a_iload_n B dX6_kinds_8 rfl ?_
      refine a_callV2r B rfl cf_X6_wrongFulness lk_X6_184 in_X6_wrongFulness se_X6_wrongFulness (wl_rc (p0 := 0) (by decide) rfl rfl rfl) (k_X6_wrongFulness t ht _ _ hI0) dX6_kinds_9 (Nat.le_of_ble_eq_true rfl) ⟨Nat.le_of_ble_eq_true rfl, Nat.le_of_ble_eq_true rfl⟩ ⟨rfl, rfl⟩ ?_
      rw [if_neg h0, if_pos hip]
      refine p_istore4 B dX6_kinds_12 (by decide) (k := ?_)
      refine a_iload B dX6_kinds_14 rfl ?_
      refine a_if_ne 35 B dX6_kinds_16 (by decide) (fun c16 => ?_) (fun c16 => ?_)
      · exact absurd rfl c16
      refine a_aload_n B dX6_kinds_19 rfl ?_
      refine a_getR B fl_X6_26 (by decide) rfl rfl dX6_kinds_20 ?_
      refine a_aload_n B dX6_kinds_23 rfl ?_
      refine a_getR B fl_X6_12 (by decide) rfl rfl dX6_kinds_24 ?_
      refine a_iload_n B dX6_kinds_27 rfl ?_
      refine a_aload_n B dX6_kinds_28 rfl ?_
      refine a_callV3p B rfl cf_X3_fittingKinds lk_X6_199 in_X3_fittingKinds se_X3_fittingKinds (wl_rc (p0 := 37) (by decide) rfl rfl rfl) (k_X3_fittingKinds _ hI0 hI2 q hqn t ht hz) dX6_kinds_29 (Nat.le_of_ble_eq_true rfl) ⟨Nat.le_of_ble_eq_true rfl, Nat.le_of_ble_eq_true rfl⟩ ⟨rfl, rfl⟩ ?_
      rintro _ _ ⟨rfl, dq, hIq, rfl⟩
      show AW Pp l Ee _ Ss Mm Aa Bb Me Cc D _ A0 _ 0 0 _ _ _ (_ :: _) _
      refine a_goto 41 B dX6_kinds_32 (by decide) ?_
      exact a_iret B hr hlk dX6_kinds_41 (rQl (by unfold kndX; rw [hw, ent, eq8]) hIq rfl)
    · have hw : whyX M (nI t) v = some 0 := by unfold whyX; rw [hs, if_pos rfl, ent, if_neg h0, hip, if_neg (by decide)]
      refine a_aload_n B dX6_kinds_0 rfl ?_
      refine a_iload_n B dX6_kinds_1 rfl ?_
      refine a_callV1r B rfl cf_X6_sheetAt lk_X6_180 in_X6_sheetAt se_X6_sheetAt (wl_rc (p0 := 0) (by decide) rfl rfl rfl) (k_X6_sheetAt t ht _) dX6_kinds_2 (Nat.le_of_ble_eq_true rfl) ⟨Nat.le_of_ble_eq_true rfl, Nat.le_of_ble_eq_true rfl⟩ ⟨rfl, rfl⟩ ?_
      refine p_astore3 B dX6_kinds_5 (by decide) (k := ?_)
      refine a_aload_n B dX6_kinds_6 rfl ?_
      refine a_aload_n B dX6_kinds_7 rfl ?_
      refine a_iload_n B dX6_kinds_8 rfl ?_
      refine a_callV2r B rfl cf_X6_wrongFulness lk_X6_184 in_X6_wrongFulness se_X6_wrongFulness (wl_rc (p0 := 0) (by decide) rfl rfl rfl) (k_X6_wrongFulness t ht _ _ hI0) dX6_kinds_9 (Nat.le_of_ble_eq_true rfl) ⟨Nat.le_of_ble_eq_true rfl, Nat.le_of_ble_eq_true rfl⟩ ⟨rfl, rfl⟩ ?_
      rw [if_neg h0, hip, if_neg (show ¬ false = true by decide)]
      refine p_istore4 B dX6_kinds_12 (by decide) (k := ?_)
      refine a_iload B dX6_kinds_14 rfl ?_
      refine a_if_ne 35 B dX6_kinds_16 (by decide) (fun c16 => ?_) (fun c16 => ?_)
      · refine a_aload_n B dX6_kinds_35 rfl ?_
        refine a_iload B dX6_kinds_36 rfl ?_
        refine a_callV1r B rfl cf_X6_tell lk_X6_60 in_X6_tell se_X6_tell (wl_rc (p0 := 0) (by decide) rfl rfl rfl) (k_X6_tell 0 (by decide) _ rfl _) dX6_kinds_38 (Nat.le_of_ble_eq_true rfl) ⟨Nat.le_of_ble_eq_true rfl, Nat.le_of_ble_eq_true rfl⟩ ⟨rfl, rfl⟩ ?_
        exact a_iret B hr hlk dX6_kinds_41 (rQr0 (k := 0) (by unfold kndX; rw [hw]) (by decide) hI2 rfl)
      exact absurd c16 (by decide)
  · have hs : wi s1 3 = false := hs
    have hw : whyX M s1 v = some 0 := by unfold whyX; rw [hs, if_neg (by decide)]
    refine a_aload_n B dX6_kinds_0 rfl ?_
    refine a_iload_n B dX6_kinds_1 rfl ?_
    refine a_callV1r B rfl cf_X6_sheetAt lk_X6_180 in_X6_sheetAt se_X6_sheetAt (wl_rc (p0 := 0) (by decide) rfl rfl rfl) (k_X6_sheetAtN _ hs _) dX6_kinds_2 (Nat.le_of_ble_eq_true rfl) ⟨Nat.le_of_ble_eq_true rfl, Nat.le_of_ble_eq_true rfl⟩ ⟨rfl, rfl⟩ ?_
    refine p_astoreN3 B dX6_kinds_5 (by decide) (k := ?_)
    refine a_aload_n B dX6_kinds_6 rfl ?_
    refine a_aload_nN B dX6_kinds_7 rfl ?_
    refine a_iload_n B dX6_kinds_8 rfl ?_
    refine a_callV2r B rfl cf_X6_wrongFulness lk_X6_184 in_X6_wrongFulness se_X6_wrongFulness (wl_rc (p0 := 0) (by decide) rfl rfl rfl) (k_X6_wrongFulnessN _ _) dX6_kinds_9 (Nat.le_of_ble_eq_true rfl) ⟨Nat.le_of_ble_eq_true rfl, Nat.le_of_ble_eq_true rfl⟩ ⟨rfl, rfl⟩ ?_
    refine p_istore4 B dX6_kinds_12 (by decide) (k := ?_)
    refine a_iload B dX6_kinds_14 rfl ?_
    refine a_if_ne 35 B dX6_kinds_16 (by decide) (fun c16 => ?_) (fun c16 => ?_)
    · refine a_aload_n B dX6_kinds_35 rfl ?_
      refine a_iload B dX6_kinds_36 rfl ?_
      refine a_callV1r B rfl cf_X6_tell lk_X6_60 in_X6_tell se_X6_tell (wl_rc (p0 := 0) (by decide) rfl rfl rfl) (k_X6_tell 0 (by decide) _ rfl _) dX6_kinds_38 (Nat.le_of_ble_eq_true rfl) ⟨Nat.le_of_ble_eq_true rfl, Nat.le_of_ble_eq_true rfl⟩ ⟨rfl, rfl⟩ ?_
      exact a_iret B hr hlk dX6_kinds_41 (rQr0 (k := 0) (by unfold kndX; rw [hw]) (by decide) hI2 rfl)
    exact absurd c16 (by decide)
set_option maxRecDepth 20000 in
set_option maxHeartbeats 4000000 in
theorem k_X6_words (s1 v : Int32) (M : Mem) (hJ : CI M) : CC l sk D cy A X mX6_words 6 [.ref (A 0), .int s1, .int v] M (rQ (wrdX M s1 v) M M) := by
  refine Con.of (lo := [some (.ref (A 0)), some (.int s1), some (.int v), none, none, none, none, none]) cf_X6_words (fun _ _ => wl_fst) 5 rfl (Nat.le_of_ble_eq_true rfl) (fun Pp Ee Ss Mm Aa Bb Me Cc A0 B hr hlk => ?_)
  have B : BS sk D cy (wl A cy 51 TC X) A0 Pp Ss Mm Aa Cc RX6 cX6_words 8 := B
  obtain ⟨hI0, hI1, hI2, hT, hZ⟩ := hJ
  rcases wi_cases (t := 3) s1 (by omega) with ⟨t, ht3, hse, hs⟩ | hs
  · subst hse
    have ht : t < 4 := by omega
    have hs : wi (nI t) 3 = true := hs
    have hz := hZ t ht
    have ent : nn (nI t) = t := nn_nI (by omega)
    by_cases h0 : M (7 + t) 0 = 0
    · have hw : whyX M (nI t) v = some 5 := by unfold whyX; rw [hs, if_pos rfl, ent, if_pos h0]
      refine a_aload_n B dX6_words_0 rfl ?_
      refine a_iload_n B dX6_words_1 rfl ?_
      refine a_callV1r B rfl cf_X6_sheetAt lk_X6_180 in_X6_sheetAt se_X6_sheetAt (wl_rc (p0 := 0) (by decide) rfl rfl rfl) (k_X6_sheetAt t ht _) dX6_words_2 (Nat.le_of_ble_eq_true rfl) ⟨Nat.le_of_ble_eq_true rfl, Nat.le_of_ble_eq_true rfl⟩ ⟨rfl, rfl⟩ ?_
      refine p_astore3 B dX6_words_5 (by decide) (k := ?_)
      refine a_aload_n B dX6_words_6 rfl ?_
      refine a_aload_n B dX6_words_7 rfl ?_
      refine a_iload_n B dX6_words_8 rfl ?_
      refine a_callV2r B rfl cf_X6_wrongFulness lk_X6_184 in_X6_wrongFulness se_X6_wrongFulness (wl_rc (p0 := 0) (by decide) rfl rfl rfl) (k_X6_wrongFulness t ht _ _ hI0) dX6_words_9 (Nat.le_of_ble_eq_true rfl) ⟨Nat.le_of_ble_eq_true rfl, Nat.le_of_ble_eq_true rfl⟩ ⟨rfl, rfl⟩ ?_
      rw [if_pos h0]
      refine p_istore4 B dX6_words_12 (by decide) (k := ?_)
      refine a_iload B dX6_words_14 rfl ?_
      refine a_if_eq 26 B dX6_words_16 (by decide) (fun c16 => ?_) (fun c16 => ?_)
      · exact absurd c16 (by decide)
      refine a_aload_n B dX6_words_19 rfl ?_
      refine a_iload B dX6_words_20 rfl ?_
      refine a_callV1r B rfl cf_X6_tell lk_X6_60 in_X6_tell se_X6_tell (wl_rc (p0 := 0) (by decide) rfl rfl rfl) (k_X6_tell 5 (by decide) _ rfl _) dX6_words_22 (Nat.le_of_ble_eq_true rfl) ⟨Nat.le_of_ble_eq_true rfl, Nat.le_of_ble_eq_true rfl⟩ ⟨rfl, rfl⟩ ?_
      exact a_iret B hr hlk dX6_words_25 (rQr0 (k := 5) (by unfold wrdX; rw [hw]) (by decide) hI2 rfl)
    rcases at_cases hI0 v with ⟨q, hqn, hq8, hvq, hip, hlt⟩ | ⟨hn, hip⟩
    · subst hvq
      have hw : whyX M (nI t) (nI q) = none := by unfold whyX; rw [hs, if_pos rfl, ent, if_neg h0, if_pos hip]
      have eq8 : nn (nI q) = q := nn_nI (by omega)
      refine a_aload_n B dX6_words_0 rfl ?_
      refine a_iload_n B dX6_words_1 rfl ?_
      refine a_callV1r B rfl cf_X6_sheetAt lk_X6_180 in_X6_sheetAt se_X6_sheetAt (wl_rc (p0 := 0) (by decide) rfl rfl rfl) (k_X6_sheetAt t ht _) dX6_words_2 (Nat.le_of_ble_eq_true rfl) ⟨Nat.le_of_ble_eq_true rfl, Nat.le_of_ble_eq_true rfl⟩ ⟨rfl, rfl⟩ ?_
      refine p_astore3 B dX6_words_5 (by decide) (k := ?_)
      refine a_aload_n B dX6_words_6 rfl ?_
      refine a_aload_n B dX6_words_7 rfl ?_
      refine a_iload_n B dX6_words_8 rfl ?_
      refine a_callV2r B rfl cf_X6_wrongFulness lk_X6_184 in_X6_wrongFulness se_X6_wrongFulness (wl_rc (p0 := 0) (by decide) rfl rfl rfl) (k_X6_wrongFulness t ht _ _ hI0) dX6_words_9 (Nat.le_of_ble_eq_true rfl) ⟨Nat.le_of_ble_eq_true rfl, Nat.le_of_ble_eq_true rfl⟩ ⟨rfl, rfl⟩ ?_
      rw [if_neg h0, if_pos hip]
      refine p_istore4 B dX6_words_12 (by decide) (k := ?_)
      refine a_iload B dX6_words_14 rfl ?_
      refine a_if_eq 26 B dX6_words_16 (by decide) (fun c16 => ?_) (fun c16 => ?_)
      · refine a_aload_n B dX6_words_26 rfl ?_
        refine a_getR B fl_X6_26 (by decide) rfl rfl dX6_words_27 ?_
        refine a_aload_n B dX6_words_30 rfl ?_
        refine a_getR B fl_X6_12 (by decide) rfl rfl dX6_words_31 ?_
        refine a_iload_n B dX6_words_34 rfl ?_
        refine a_aload_n B dX6_words_35 rfl ?_
        refine a_callV3p B rfl cf_X3_fittingWords lk_X6_188 in_X3_fittingWords se_X3_fittingWords (wl_rc (p0 := 37) (by decide) rfl rfl rfl) (k_X3_fittingWords _ hI0 hI2 q hqn t ht hz) dX6_words_36 (Nat.le_of_ble_eq_true rfl) ⟨Nat.le_of_ble_eq_true rfl, Nat.le_of_ble_eq_true rfl⟩ ⟨rfl, rfl⟩ ?_
        rintro _ _ ⟨rfl, dq, hIq, rfl⟩
        show AW Pp l Ee _ Ss Mm Aa Bb Me Cc D _ A0 _ 0 0 _ _ _ (_ :: _) _
        have hfp : fitP M (nI t) (nI q) = fitQ (M 0) q (tlS M t) (szN M t) := by unfold fitP; rw [ent, eq8]
        rw [← hfp]
        refine p_lstore5 B dX6_words_39 (by decide) (k := ?_)
        refine a_iconst (v := 0) B dX6_words_41 (by decide) ?_
        refine p_istore7 B dX6_words_42 (by decide) (k := ?_)
        have loop : ∀ n k, 42 ≤ k + n → k ≤ 41 → fstN (mbit (mskL (fitP M (nI t) (nI q)) 41)) k = none → AW Pp l Ee (rmK 6 (34 * 6)) Ss Mm Aa Bb Me Cc D (wl A cy 51 TC X) A0 8 0 0 (MQ Bb (QG D (wl A cy 51 TC X) A0 (rQ (wrdX M (nI t) (nI q)) M M)) Aa Ss 0 0 A0) 44 [some (.ref (A 0)), some (.int (nI t)), some (.int (nI q)), some (.ref (A (43 + 2 * t))), some (.int 0), some (.long (mskL (fitP M (nI t) (nI q)) 41)), none, some (.int (nI k))] [] (stB M 2 dq) := by
          intro n
          induction n with
          | zero => intro k h1 h2; omega
          | succ n ih =>
            intro k h1 h2 h3
            refine a_iload B dX6_words_44 rfl ?_
            refine a_bipush (v := 40) B dX6_words_46 (by decide) ?_
            refine a_icmp_gt 72 B dX6_words_48 (by decide) (fun c48 => ?_) (fun c48 => ?_)
            · have e1 : k = 41 := by have := (nI_ltI (a := 40) (b := k) (by omega) (by omega)).mp c48; omega
              subst e1
              refine a_aload_n B dX6_words_72 rfl ?_
              refine a_ldc B dX6_words_73 kc_X6_198 ?_
              refine a_callV1r B rfl cf_X6_tell lk_X6_60 in_X6_tell se_X6_tell (wl_rc (p0 := 0) (by decide) rfl rfl rfl) (k_X6_tell 3 (by decide) _ (by decide) _) dX6_words_75 (Nat.le_of_ble_eq_true rfl) ⟨Nat.le_of_ble_eq_true rfl, Nat.le_of_ble_eq_true rfl⟩ ⟨rfl, rfl⟩ ?_
              exact a_iret B hr hlk dX6_words_78 (rQr (k := 3) (by unfold wrdX; rw [hw, h3]; rfl) (by decide) hIq tell_2)
            have hlt0 : k ≤ 40 := Nat.le_of_not_lt (fun q9 => c48 ((nI_ltI (a := 40) (by omega) (by omega)).mpr q9))
            refine a_lload B dX6_words_51 rfl ?_
            refine a_iload B dX6_words_53 rfl ?_
            refine a_lshr B dX6_words_55 ?_
            refine a_lconst (v := 1) B dX6_words_56 (by decide) ?_
            refine a_land B dX6_words_57 ?_
            refine a_lconst (v := 0) B dX6_words_58 (by decide) ?_
            refine a_lcmp B dX6_words_59 ?_
            refine a_if_eq 66 B dX6_words_60 (by decide) (fun c60 => ?_) (fun c60 => ?_)
            · refine p_iinc7 1 B dX6_words_66 (by decide) (by decide) (k := ?_)
              refine a_goto 44 B dX6_words_69 (by decide) ?_
              rw [nI_1]
              exact ih (k + 1) (by omega) (by omega) (fst_no h3 (show mbit (mskL (fitP M (nI t) (nI q)) 41) k = false by unfold mbit; rw [decide_eq_true c60]; rfl))
            refine a_iload B dX6_words_63 rfl ?_
            have e2 := fst_yes h3 (show mbit (mskL (fitP M (nI t) (nI q)) 41) k = true by unfold mbit; rw [decide_eq_false c60]; rfl)
            exact a_iret B hr hlk dX6_words_65 (rQl (by unfold wrdX; rw [hw, fst_up e2 41 (by omega)]; rfl) hIq rfl)
        exact loop 42 0 (by omega) (by omega) rfl
      exact absurd rfl c16
    · have hw : whyX M (nI t) v = some 0 := by unfold whyX; rw [hs, if_pos rfl, ent, if_neg h0, hip, if_neg (by decide)]
      refine a_aload_n B dX6_words_0 rfl ?_
      refine a_iload_n B dX6_words_1 rfl ?_
      refine a_callV1r B rfl cf_X6_sheetAt lk_X6_180 in_X6_sheetAt se_X6_sheetAt (wl_rc (p0 := 0) (by decide) rfl rfl rfl) (k_X6_sheetAt t ht _) dX6_words_2 (Nat.le_of_ble_eq_true rfl) ⟨Nat.le_of_ble_eq_true rfl, Nat.le_of_ble_eq_true rfl⟩ ⟨rfl, rfl⟩ ?_
      refine p_astore3 B dX6_words_5 (by decide) (k := ?_)
      refine a_aload_n B dX6_words_6 rfl ?_
      refine a_aload_n B dX6_words_7 rfl ?_
      refine a_iload_n B dX6_words_8 rfl ?_
      refine a_callV2r B rfl cf_X6_wrongFulness lk_X6_184 in_X6_wrongFulness se_X6_wrongFulness (wl_rc (p0 := 0) (by decide) rfl rfl rfl) (k_X6_wrongFulness t ht _ _ hI0) dX6_words_9 (Nat.le_of_ble_eq_true rfl) ⟨Nat.le_of_ble_eq_true rfl, Nat.le_of_ble_eq_true rfl⟩ ⟨rfl, rfl⟩ ?_
      rw [if_neg h0, hip, if_neg (show ¬ false = true by decide)]
      refine p_istore4 B dX6_words_12 (by decide) (k := ?_)
      refine a_iload B dX6_words_14 rfl ?_
      refine a_if_eq 26 B dX6_words_16 (by decide) (fun c16 => ?_) (fun c16 => ?_)
      · exact absurd c16 (by decide)
      refine a_aload_n B dX6_words_19 rfl ?_
      refine a_iload B dX6_words_20 rfl ?_
      refine a_callV1r B rfl cf_X6_tell lk_X6_60 in_X6_tell se_X6_tell (wl_rc (p0 := 0) (by decide) rfl rfl rfl) (k_X6_tell 0 (by decide) _ rfl _) dX6_words_22 (Nat.le_of_ble_eq_true rfl) ⟨Nat.le_of_ble_eq_true rfl, Nat.le_of_ble_eq_true rfl⟩ ⟨rfl, rfl⟩ ?_
      exact a_iret B hr hlk dX6_words_25 (rQr0 (k := 0) (by unfold wrdX; rw [hw]) (by decide) hI2 rfl)
  · have hs : wi s1 3 = false := hs
    have hw : whyX M s1 v = some 0 := by unfold whyX; rw [hs, if_neg (by decide)]
    refine a_aload_n B dX6_words_0 rfl ?_
    refine a_iload_n B dX6_words_1 rfl ?_
    refine a_callV1r B rfl cf_X6_sheetAt lk_X6_180 in_X6_sheetAt se_X6_sheetAt (wl_rc (p0 := 0) (by decide) rfl rfl rfl) (k_X6_sheetAtN _ hs _) dX6_words_2 (Nat.le_of_ble_eq_true rfl) ⟨Nat.le_of_ble_eq_true rfl, Nat.le_of_ble_eq_true rfl⟩ ⟨rfl, rfl⟩ ?_
    refine p_astoreN3 B dX6_words_5 (by decide) (k := ?_)
    refine a_aload_n B dX6_words_6 rfl ?_
    refine a_aload_nN B dX6_words_7 rfl ?_
    refine a_iload_n B dX6_words_8 rfl ?_
    refine a_callV2r B rfl cf_X6_wrongFulness lk_X6_184 in_X6_wrongFulness se_X6_wrongFulness (wl_rc (p0 := 0) (by decide) rfl rfl rfl) (k_X6_wrongFulnessN _ _) dX6_words_9 (Nat.le_of_ble_eq_true rfl) ⟨Nat.le_of_ble_eq_true rfl, Nat.le_of_ble_eq_true rfl⟩ ⟨rfl, rfl⟩ ?_
    refine p_istore4 B dX6_words_12 (by decide) (k := ?_)
    refine a_iload B dX6_words_14 rfl ?_
    refine a_if_eq 26 B dX6_words_16 (by decide) (fun c16 => ?_) (fun c16 => ?_)
    · exact absurd c16 (by decide)
    refine a_aload_n B dX6_words_19 rfl ?_
    refine a_iload B dX6_words_20 rfl ?_
    refine a_callV1r B rfl cf_X6_tell lk_X6_60 in_X6_tell se_X6_tell (wl_rc (p0 := 0) (by decide) rfl rfl rfl) (k_X6_tell 0 (by decide) _ rfl _) dX6_words_22 (Nat.le_of_ble_eq_true rfl) ⟨Nat.le_of_ble_eq_true rfl, Nat.le_of_ble_eq_true rfl⟩ ⟨rfl, rfl⟩ ?_
    exact a_iret B hr hlk dX6_words_25 (rQr0 (k := 0) (by unfold wrdX; rw [hw]) (by decide) hI2 rfl)
end C13
