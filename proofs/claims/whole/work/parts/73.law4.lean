def R_law : String := "RicePriestsLaw"
def lw_P (b : Addr) (xs : List Int32) (args : Array Value) (s : State) : Prop := args = #[.ref b] ∧ s.IntsAt b xs ∧ xs.length ≤ 3072 ∧ (Jvm.Cond.and given_1 narrow_1).before args s = true
def lw_Q (_ : Array Value) (s : State) (o : Outcome) (t : State) : Prop := o = .returned (some (.int 1)) ∧ Framed s o t [] 600000 7302250
def lw_Z (below : List Frame) (a : Array Value) (s : State) : State → Prop := fun t => ∃ o, t.status = .running ∧ Ended t below o ∧ lw_Q a s o t
/-- the law's own end, with 1 on the stack, nothing written that was there before, its room as the claim has it -/
theorem lw_ret {p : Program} {l : Launch} {e : Env} {s : State} {m : MethodId} {below : List Frame} {meth : Method} {c : Code} {b : Nat} (hx : p.tables.exec = Jvm.exec) (hb : c.code = code) (hr : meth.sig.returnType = ret) (hlocks : meth.locks = false) {pc : Nat} {H : Heap} {ls : Array Slot} (hdg : decode code pc = .ok (.ireturn, 1)) : W p l e room_1 s m #[Value.ref b] below meth c H [] 600000 7302250 (lw_Z below #[Value.ref b] s) (F0 m pc ls [.int 1]) := by
  intro T hT X
  obtain ⟨fs, hret, hrun, hended, hW, hframe⟩ := X.leave (v := some (.int 1)) (hlocks := hlocks) (fun h => by rw [hr] at h; cases h)
  have hmeth' : T.vm.method? m = some meth := X.method'
  refine ⟨T.setFrames fs, ?_, .returned (some (.int 1)), hrun, hended, rfl, ⟨_, rfl⟩, hW, hframe⟩
  jvm_step X.here [X.here.top, hx, hb, hdg, hmeth', hr, ret, narrow_b1]
  (try refine ⟨rfl, ?_⟩); (try refine ⟨rfl, ?_⟩)
  first | (intro acts; rw [hret _ acts rfl rfl rfl]) | rw [hret _ _ rfl rfl rfl]
  exact Steps.refl _
/-- what holds at the law's entry: the machine, the code, the tables' words (any of lw_tbl by 'hts w (by decide +kernel)'), the script of L ints xs at the cell b, what the Statement gives of the start (any of its parts by flat_of_before) -/
def lw_At (p : Program) (s : State) (m : MethodId) (meth : Method) (c : Code) (b L : Nat) (xs : Nat → Int32) : Prop :=
  p.tables.exec = Jvm.exec ∧ c.code = code ∧ meth.sig.returnType = ret ∧ c.maxLocals = 4 ∧ s.vm.findClass R_law = some m.cls ∧ (∀ w ∈ lw_tbl, w.before #[Value.ref b] s = true) ∧ va_X b L xs s s.heap ∧ b < s.heap.size ∧ meth.locks = false ∧ (Jvm.Cond.and given_1 narrow_1).before #[Value.ref b] s = true

section LW4
def tmS (i : Nat) : Term := .string RX2 (strI.getD i 0)
def T0 : List Cond := flatC (Jvm.Cond.and given_1 narrow_1)
set_option maxRecDepth 100000 in
theorem fm_ex : ∀ i, i < 13 → Cond.exactly (tmS i) "java/lang/String" ∈ T0 := by decide +kernel
set_option maxRecDepth 100000 in
theorem fm_co : ∀ i, i < 13 → Cond.eq (.field (tmS i) "java/lang/String" "coder" "B") (.int 0) ∈ T0 := by decide +kernel
set_option maxRecDepth 100000 in
theorem fm_ar : ∀ i, i < 13 → Cond.arrayOf (.field (tmS i) "java/lang/String" "value" "[B") .byte ∈ T0 := by decide +kernel
set_option maxRecDepth 100000 in
theorem fm_le : ∀ i, i < 13 → Cond.eq (.length (.field (tmS i) "java/lang/String" "value" "[B")) (.int (Int32.ofNat (strL.getD i 0))) ∈ T0 := by decide +kernel
set_option maxRecDepth 100000 in
theorem fm_el : ∀ i, i < 13 → ∀ j, j < strL.getD i 0 → Cond.eq (.elem (.field (tmS i) "java/lang/String" "value" "[B") (.int (Int32.ofNat j))) (.int ((strB.getD i []).getD j 0)) ∈ T0 := by decide +kernel
def neL : List (Nat × Nat × Nat) := [(52, 0, 1), (60, 0, 2), (61, 1, 2), (72, 0, 3), (73, 1, 3), (74, 2, 3), (86, 0, 4), (87, 1, 4), (88, 2, 4), (89, 3, 4), (99, 0, 5), (100, 1, 5), (101, 2, 5), (102, 3, 5), (103, 4, 5), (113, 0, 6), (114, 1, 6), (115, 2, 6), (116, 3, 6), (117, 4, 6), (118, 5, 6), (129, 0, 7), (130, 1, 7), (131, 2, 7), (132, 3, 7), (133, 4, 7), (134, 5, 7), (135, 6, 7), (146, 0, 8), (147, 1, 8), (148, 2, 8), (149, 3, 8), (150, 4, 8), (151, 5, 8), (152, 6, 8), (153, 7, 8), (164, 0, 9), (165, 1, 9), (166, 2, 9), (167, 3, 9), (168, 4, 9), (169, 5, 9), (170, 6, 9), (171, 7, 9), (172, 8, 9), (182, 0, 10), (183, 1, 10), (184, 2, 10), (185, 3, 10), (186, 4, 10), (187, 5, 10), (188, 6, 10), (189, 7, 10), (190, 8, 10), (191, 9, 10), (201, 0, 11), (202, 1, 11), (203, 2, 11), (204, 3, 11), (205, 4, 11), (206, 5, 11), (207, 6, 11), (208, 7, 11), (209, 8, 11), (210, 9, 11), (211, 10, 11), (223, 0, 12), (224, 1, 12), (225, 2, 12), (226, 3, 12), (227, 4, 12), (228, 5, 12), (229, 6, 12), (230, 7, 12), (231, 8, 12), (232, 9, 12), (233, 10, 12), (234, 11, 12)]
set_option maxRecDepth 100000 in
theorem ne_in : ∀ q ∈ neL, T0[q.1]? = some (Cond.not (Cond.eq (tmS q.2.1) (tmS q.2.2))) := by decide +kernel
set_option maxRecDepth 100000 in
theorem ne_all : ∀ i, i < 13 → ∀ j, j < 13 → i ≠ j → (neL.any (fun q => q.2.1 == i && q.2.2 == j) || neL.any (fun q => q.2.1 == j && q.2.2 == i)) = true := by decide +kernel
theorem fm_ne : ∀ i, i < 13 → ∀ j, j < 13 → i ≠ j → Cond.not (Cond.eq (tmS i) (tmS j)) ∈ T0 ∨ Cond.not (Cond.eq (tmS j) (tmS i)) ∈ T0 := by
  intro i hi j hj hij
  have key : ∀ a b, neL.any (fun q => q.2.1 == a && q.2.2 == b) = true → Cond.not (Cond.eq (tmS a) (tmS b)) ∈ T0 := by
    intro a b h
    obtain ⟨q, hq, h2⟩ := List.any_eq_true.mp h
    rw [Bool.and_eq_true, beq_iff_eq, beq_iff_eq] at h2
    obtain ⟨h3, h4⟩ := h2
    subst h3
    subst h4
    exact List.mem_of_getElem? (ne_in q hq)
  have h := ne_all i hi j hj hij
  rw [Bool.or_eq_true] at h
  exact h.imp (key i j) (key j i)
theorem fm_rf : ∀ i, i < 13 → Cond.stringRef RX2 (strI.getD i 0) (strT.getD i "") ∈ tables_1 := by decide +kernel
def tmA : Term := .static "RicePriests$Priest" "ABOVE" "[I"
set_option maxRecDepth 100000 in
theorem fm_aa : Cond.arrayOf tmA .int ∈ T0 := by decide +kernel
set_option maxRecDepth 100000 in
theorem fm_al : Cond.eq (.length tmA) (.int 7) ∈ T0 := by decide +kernel
set_option maxRecDepth 100000 in
theorem fm_ae : ∀ j, j < 7 → Cond.eq (.elem tmA (.int (Int32.ofNat j))) (.int (abvL.getD j 0)) ∈ T0 := by decide +kernel
set_option maxRecDepth 100000 in
theorem fm_cs : Cond.eq (.static "java/lang/String" "COMPACT_STRINGS" "Z") (.int 1) ∈ T0 := by decide +kernel
set_option maxRecDepth 100000 in
theorem fm_sf : Cond.isRef (.static "jdk/internal/util/Preconditions" "SIOOBE_FORMATTER" "Ljava/util/function/BiFunction;") ∈ T0 := by decide +kernel
theorem tb_at {i : Nat} {w : Cond} (h : tables_1[i]? = some w) : w ∈ lw_tbl := List.mem_append_right _ (List.mem_of_getElem? h)
theorem hv_start {args : Array Value} {s : State} {A : Nat → Prop} (hts : ∀ w ∈ lw_tbl, w.before args s = true) (hgv : (Jvm.Cond.and given_1 narrow_1).before args s = true) (hA : ∀ a : Nat, a < s.heap.size → ¬ A a) : ∃ sk, HV sk A s := by
  have hs : ∀ w ∈ T0, w.before args s = true := flat_of_before _ hgv
  obtain ⟨adK, adV, hS, hK⟩ := vk_Sof (args := args) (s := s) (N := 13) (tm := tmS) (len := strL) (byt := strB) (A := A) (by decide) (fun i hi => hs _ (fm_ex i hi)) (fun i hi => hs _ (fm_co i hi)) (fun i hi => hs _ (fm_ar i hi)) (fun i hi => hs _ (fm_le i hi)) (fun i hi j hj => hs _ (fm_el i hi j hj)) (fun i j hi hj hij => (fm_ne i hi j hj hij).imp (fun h => hs _ h) (fun h => hs _ h)) hA
  obtain ⟨t, ht, hT⟩ := va_Tof (args := args) (s := s) (tm := tmA) (ty := .int) (N := 7) (f := fun j => .int (abvL.getD j 0)) (A := A) (by decide) (hs _ fm_aa) (va_eqt (hs _ fm_al)) (fun j hj => va_eqt (hs _ (fm_ae j hj))) hA
  refine ⟨(adK, adV), ⟨t, va_Zof (hts _ (tb_at (i := 762) (by decide +kernel))) (hts _ (tb_at (i := 3) (by decide +kernel))) ht hA, hT⟩, va_Zof (hts _ (tb_at (i := 661) (by decide +kernel))) (hts _ (tb_at (i := 13) (by decide +kernel))) (va_eqi (hs _ fm_cs)) hA, va_Zqof (hts _ (tb_at (i := 677) (by decide +kernel))) (hts _ (tb_at (i := 15) (by decide +kernel))) (hs _ fm_sf) hA, fun i hi => vk_R.of (hts _ (List.mem_append_right _ (fm_rf i hi))) (hK i hi), hS⟩
theorem k_start {args : Array Value} {s : State} (hts : ∀ w ∈ lw_tbl, w.before args s = true) : ∃ (D : va_G) (cy : Nat → ClassId), va_K D vwCl (tysC cy) s ∧ va_AO "RicePriests$Priest" s ∧ va_AO "RicePriests$Sheet" s := by
  have hg : ∀ w ∈ GW, w.before args s = true := fun w hw => hts w (List.mem_filter.mp hw).1
  obtain ⟨c0, i0, k0⟩ := u_known (ws := GW) (args := args) (s := s) (C := RX0) (T := TX0) (N := 9) (n := 9) hg gi_X0 (hts _ (tb_at (i := 26) (by decide +kernel)))
  obtain ⟨c1, i1, k1⟩ := u_known (ws := GW) (args := args) (s := s) (C := RX1) (T := TX1) (N := 6) (n := 6) hg gi_X1 (hts _ (tb_at (i := 33) (by decide +kernel)))
  obtain ⟨c2, i2, k2⟩ := u_known (ws := GW) (args := args) (s := s) (C := RX2) (T := TX2) (N := 6) (n := 6) hg gi_X2 (hts _ (tb_at (i := 128) (by decide +kernel)))
  obtain ⟨c3, i3, k3⟩ := u_known (ws := GW) (args := args) (s := s) (C := RX3) (T := TX3) (N := 1) (n := 1) hg gi_X3 (hts _ (tb_at (i := 115) (by decide +kernel)))
  obtain ⟨c4, i4, k4⟩ := u_known (ws := GW) (args := args) (s := s) (C := RX4) (T := TX4) (N := 3) (n := 3) hg gi_X4 (hts _ (tb_at (i := 170) (by decide +kernel)))
  obtain ⟨c5, i5, k5⟩ := u_known (ws := GW) (args := args) (s := s) (C := RX5) (T := TX5) (N := 2) (n := 2) hg gi_X5 (hts _ (tb_at (i := 134) (by decide +kernel)))
  obtain ⟨c6, i6, k6⟩ := u_known (ws := GW) (args := args) (s := s) (C := RX6) (T := TX6) (N := 7) (n := 7) hg gi_X6 (hts _ (tb_at (i := 18) (by decide +kernel)))
  obtain ⟨c7, i7, k7⟩ := u_known (ws := GW) (args := args) (s := s) (C := RX7) (T := TX7) (N := 17) (n := 17) hg gi_X7 (hts _ (tb_at (i := 832) (by decide +kernel)))
  have hI : (Cond.arrayClass .int).before args s = true := hts _ (tb_at (i := 70) (by decide +kernel))
  have hB : (Cond.arrayClass .byte).before args s = true := hts _ (tb_at (i := 147) (by decide +kernel))
  have hP : (Cond.arrayOver (.object "RicePriests$Priest")).before args s = true := hts _ (tb_at (i := 32) (by decide +kernel))
  have hS : (Cond.arrayOver (.object "RicePriests$Sheet")).before args s = true := hts _ (tb_at (i := 169) (by decide +kernel))
  obtain ⟨cI, kI, coI, a1, a2, a3⟩ := Cond.arrayClass_spec hI
  obtain ⟨cB, kB, coB, b1, b2, b3⟩ := Cond.arrayClass_spec hB
  obtain ⟨coP, cP, kP, p1, p2, p3, p4, p5⟩ := Cond.arrayOver_spec hP
  obtain ⟨coS, cS, kS, s1, s2, s3, s4, s5⟩ := Cond.arrayOver_spec hS
  refine ⟨(fun k => [c0, c1, c2, c3, c4, c5, c6, c7].getD k 0, fun k => [i0, i1, i2, i3, i4, i5, i6, i7].getD k (fun _ => 0)), fun k => [cI, cB, cP, cS].getD k 0, ⟨fun c q h => ?_, fun k q h => ?_⟩, va_AO.of hP, va_AO.of hS⟩
  · match c, h with
    | 0, h => cases h; exact k0
    | 1, h => cases h; exact k1
    | 2, h => cases h; exact k2
    | 3, h => cases h; exact k3
    | 4, h => cases h; exact k4
    | 5, h => cases h; exact k5
    | 6, h => cases h; exact k6
    | 7, h => cases h; exact k7
    | _ + 8, h => cases h
  · match k, h with
    | 0, h => cases h; exact ⟨fun n z => ⟨fun k h => (by cases h), kI, a2, coI, a3⟩, a1⟩
    | 1, h => cases h; exact ⟨fun n z => ⟨fun k h => (by cases h), kB, b2, coB, b3⟩, b1⟩
    | 2, h => cases h; exact ⟨fun n z => ⟨fun k h => (by cases h), kP, p3, coP, p4⟩, kP, coP, p3, p4, p1, p5⟩
    | 3, h => cases h; exact ⟨fun n z => ⟨fun k h => (by cases h), kS, s3, coS, s4⟩, kS, coS, s3, s4, s1, s5⟩
    | _ + 4, h => cases h
/-- the walk from the entry, over any relation that the calls keep -/
theorem whole_of {Rel : Mem → Mem → Prop} (l : Launch) (hrel : Rel M0c M0m) (hall : ∀ sk D cy Ac Ar Mc Mr, Rel Mc Mr → ALLD Rel l sk D cy Ac Ar Mc Mr) {p : Program} {e : Env} {s : State} {m : MethodId} {below : List Frame} {meth : Method} {c : Code} {b L : Nat} {xs : Nat → Int32} (hL : L ≤ 3072) (C0 : lw_At p s m meth c b L xs) : W p l e room_1 s m #[Value.ref b] below meth c s.heap [] 0 0 (lw_Z below #[Value.ref b] s) (entryFrame m ([Value.ref b] : List Value).toArray 4) := by
  obtain ⟨hx, hb, hr, hml, hown, hts, hX, hbl, hlocks, hgv⟩ := C0
  have hA : ∀ a : Nat, a < s.heap.size → ¬ (fun q : Nat => s.heap.size ≤ q) a := fun a h => Nat.not_le.mpr h
  obtain ⟨sk, hHV⟩ := hv_start (A := fun q : Nat => s.heap.size ≤ q) hts hgv hA
  obtain ⟨D, cy, hK, hao⟩ := k_start hts
  have B : BS sk D cy (UW []) (fun q : Nat => s.heap.size ≤ q) p s m #[Value.ref b] c RL cL_law 4 := ⟨⟨hx, hb, hml, hown, fun w hw => hts w (List.mem_filter.mp hw).1⟩, hK, fun w hw => va_Nw.of (nl_onT hw) (hts w (List.mem_filter.mp hw).1), fun _ => ⟨fun i j p q h => (by cases h), fun k q h => (by cases h)⟩, hHV, fun q h => h, fun _ _ => rfl⟩
  have key := law_main (Rel := Rel) (below := below) (meth := meth) (e := e) (l := l) (Q := lw_Z below #[Value.ref b] s) B hao hX hbl (hA b hbl) hL (hall sk D cy) hrel (fun wd lo M => by
    intro H locs ls hP hS hLs
    refine lv_iconst (v := 1) hx hb dL_law_1466 (by decide) ?_
    refine va_forget (fun q hq => hS.2.2 q hq) ?_
    refine W.widen (k := 600000) (n := 7302250) (Nat.le_of_ble_eq_true rfl) (Nat.le_of_ble_eq_true rfl) ?_
    exact lw_ret hx hb hr hlocks dL_law_1467)
  rw [lg_entry_eq]
  refine key s.heap [] _ (fun k q h => by cases h) va_S.rf ?_
  have hl := lv_entry [Value.ref b] (n := 4) (Nat.le_of_ble_eq_true rfl)
  exact ⟨hl.1, hl.2.1, fun q hq => hl.2.2 q (ent_ok [Value.ref b] 0 3 q hq)⟩

end LW4
