section U1
abbrev UW (Z : va_W) : Unit → va_W := fun _ => Z
theorem oi_in : Cond.instanceMethod objectInit ∈ GW := gw_of (List.mem_append_right _ (List.mem_of_getElem? (i := 23) (by decide +kernel))) rfl
theorem oi_cd : Cond.code objectInit ⟨#[0xb1]⟩ 1 none ∈ GW := gw_of (List.mem_append_right _ (List.mem_of_getElem? (i := 24) (by decide +kernel))) rfl
theorem ac_I : Cond.arrayClass .int ∈ GW := gw_of (List.mem_append_right _ (List.mem_of_getElem? (i := 70) (by decide +kernel))) rfl
theorem ac_B : Cond.arrayClass .byte ∈ GW := gw_of (List.mem_append_right _ (List.mem_of_getElem? (i := 147) (by decide +kernel))) rfl
/-- what a new object is made of: its row, its fields' kinds, what it holds -/
def NWK (own : String) (idx ci N : Nat) (fs : List Value) : Prop := ∃ (C : String) (Tb : u_T) (ty : Nat → FieldType), vwCl[ci]? = some (C, Tb, N) ∧ (∀ w ∈ u_ws C Tb N, w ∈ GW) ∧ (∀ k, k < N → parseFieldDescriptor (Tb k).2.2.1 = some (ty k)) ∧ Cond.classLink own idx C ∈ GW ∧ Cond.instantiable C N ∈ GW ∧ Cond.initialized C ∈ GW ∧ ∀ j, j < N → defaultValue (ty j) = vp_V fs j
def FLG (own : String) (idx ci k : Nat) : Prop := ∃ (C : String) (Tb : u_T) (N : Nat) (ty : Nat → FieldType), vwCl[ci]? = some (C, Tb, N) ∧ k < N ∧ (∀ w ∈ u_ws C Tb N, w ∈ GW) ∧ (Tb k).1 = C ∧ (∀ a, a < N → ∀ b, b < N → a ≠ b → (Tb a).2.1 ≠ (Tb b).2.1) ∧ (∀ k, k < N → parseFieldDescriptor (Tb k).2.2.1 = some (ty k)) ∧ Cond.fieldLink own idx C (Tb k).2.1 (Tb k).2.2.1 ∈ GW
def FFK (own : String) (ci k : Nat) (ty : FieldType) : Prop := ∀ q : vw_C, vwCl[ci]? = some q → (q.2.1 k).2.2.2 = true ∧ (q.2.1 k).1 = own ∧ parseFieldDescriptor (q.2.1 k).2.2.1 = some ty
variable {p : Program} {l : Launch} {e : Env} {R : Room} {s : State} {m : MethodId} {args : Array Value} {below : List Frame} {meth : Method} {c : Code} {sk : (Nat → Nat) × (Nat → Nat)} {D : va_G} {cy : Nat → ClassId} {A0 : Nat → Prop} {own : String} {cc : ByteArray} {nL cells slots : Nat} {Q : State → Prop} {pc : Nat} {lo : List (Option Value)} {st : List Value} {Z : va_W}
theorem va_nd_range (n : Nat) : va_nd (List.range n) = true := by
  have key : ∀ (L : List Nat), L.Nodup → va_nd L = true := by
    intro L h
    induction h with
    | nil => rfl
    | cons h1 h2 ih => unfold va_nd; simp; exact ⟨fun q => (h1 _ q rfl).elim, ih⟩
  exact key _ List.nodup_range
theorem bs_mv {W' : va_W} (B : BS sk D cy (UW Z) A0 p s m args c own cc nL) (hD : va_D A0 W') : BS sk D cy (UW W') A0 p s m args c own cc nL := ⟨B.1, B.2.1, B.2.2.1, fun _ => hD, B.2.2.2.2.1, B.2.2.2.2.2.1, fun _ _ => rfl⟩
theorem u_as {W' : va_W} (h : Z = W') (k : AW p l e R s m args below meth c D (UW W') A0 nL cells slots Q pc lo st ()) : AW p l e R s m args below meth c D (UW Z) A0 nL cells slots Q pc lo st () := h ▸ k
theorem u_obj {a idx : Nat} (B : BS sk D cy (UW Z) A0 p s m args c own cc nL) (hl : Cond.methodLink own idx objectInit ∈ GW) (hdg : decode cc pc = .ok (.invokespecial idx, 3)) (hst : (st.map fun v => v.category).sum ≤ 8) (hR : 1 ≤ R.frames ∧ 20 ≤ R.locals) (k : AW p l e R s m args below meth c D (UW Z) A0 nL cells slots Q (pc + 3) lo st ()) : AW p l e R s m args below meth c D (UW Z) A0 nL cells slots Q pc lo (.ref a :: st) () := by
  intro H locs ls hP hS hL
  refine W.objInit B.1.1 B.1.2.1 B.1.2.2.2.1 (B.1.2.2.2.2 _ hl) (B.1.2.2.2.2 _ oi_in) (B.1.2.2.2.2 _ oi_cd) rfl (by rw [B.1.2.2.1]; exact hL.1) rfl hdg hR.1 ?_ (k H locs ls hP hS hL)
  show 2 * 0 + _ + 12 ≤ _
  have := hR.2
  omega
theorem u_get {idx q0 ci k a : Nat} {fs : List Value} {v : Value} (B : BS sk D cy (UW Z) A0 p s m args c own cc nL) (F : FLK own idx ci k) (he : Z[q0]? = some (a, .inr (ci, fs))) (hv : fs[k]? = some v) (hdg : decode cc pc = .ok (.getfield idx, 3)) (kk : AW p l e R s m args below meth c D (UW Z) A0 nL cells slots Q (pc + 3) lo (v :: st) ()) : AW p l e R s m args below meth c D (UW Z) A0 nL cells slots Q pc lo (.ref a :: st) () := by
  intro H locs ls hP hS hL
  obtain ⟨C, Tb, N, ty, h1, h2, h3, h4, h5, h6, h7⟩ := F
  rcases h7 with h7 | ⟨host, h7⟩
  · exact va_get B.1.1 B.1.2.1 B.1.2.2.2.2 h3 B.1.2.2.2.1 B.2.1 hP q0 he h1 k h2 (B.1.2.2.2.2 _ h7) (fun x hx => by rw [h4] at hx; exact hx) hv hdg (kk H locs ls hP hS hL)
  · exact va_getN B.1.1 B.1.2.1 B.1.2.2.2.2 h3 B.1.2.2.2.1 B.2.1 hP q0 he h1 k h2 (va_Nw.use rfl (B.2.2.1 _ h7)) (fun x hx => by rw [h4] at hx; exact hx) hv hdg (kk H locs ls hP hS hL)
theorem u_put {idx q0 ci k a : Nat} {fs : List Value} {v : Value} {ty : FieldType} {W' : va_W} (B : BS sk D cy (UW Z) A0 p s m args c own cc nL) (F : FLK own idx ci k) (G : FPK ci k ty) (he : Z[q0]? = some (a, .inr (ci, fs))) (hl : k < fs.length) (hn : narrow ty v = v) (hfit : fits ty v = true) (hW : Z.set q0 (a, .inr (ci, fs.set k v)) = W') (hdg : decode cc pc = .ok (.putfield idx, 3)) (kk : BS sk D cy (UW W') A0 p s m args c own cc nL → AW p l e R s m args below meth c D (UW W') A0 nL cells slots Q (pc + 3) lo st ()) : AW p l e R s m args below meth c D (UW Z) A0 nL cells slots Q pc lo (v :: .ref a :: st) () := by
  intro H locs ls hP hS hL
  subst hW
  obtain ⟨C, Tb, N, ty0, h1, h2, h3, h4, h5, h6, h7⟩ := F
  obtain ⟨g1, g2⟩ := G _ h1
  rcases h7 with h7 | ⟨host, h7⟩
  · exact va_put B.1.1 B.1.2.1 B.1.2.2.2.2 h3 ty0 h6 h5 B.1.2.2.2.1 B.2.1 hP (B.2.2.2.1 ()) hS q0 he h1 k h2 (B.1.2.2.2.2 _ h7) (fun x hx => by rw [h4] at hx; exact hx) g1 g2 hn hfit hl hdg (fun H1 locs1 hP1 hD1 hS1 => kk (bs_mv B hD1) H1 locs1 ls hP1 hS1 hL)
  · exact va_putN B.1.1 B.1.2.1 B.1.2.2.2.2 h3 ty0 h6 h5 B.1.2.2.2.1 B.2.1 hP (B.2.2.2.1 ()) hS q0 he h1 k h2 (va_Nw.use rfl (B.2.2.1 _ h7)) (fun x hx => by rw [h4] at hx; exact hx) g1 g2 hn hfit hl hdg (fun H1 locs1 hP1 hD1 hS1 => kk (bs_mv B hD1) H1 locs1 ls hP1 hS1 hL)
theorem u_putF {idx q0 ci k a : Nat} {fs : List Value} {v : Value} {ty : FieldType} {W' : va_W} (B : BS sk D cy (UW Z) A0 p s m args c own cc nL) (hin : meth.name = "<init>") (F : FLG own idx ci k) (G : FFK own ci k ty) (he : Z[q0]? = some (a, .inr (ci, fs))) (hl : k < fs.length) (hn : narrow ty v = v) (hfit : fits ty v = true) (hW : Z.set q0 (a, .inr (ci, fs.set k v)) = W') (hdg : decode cc pc = .ok (.putfield idx, 3)) (kk : BS sk D cy (UW W') A0 p s m args c own cc nL → AW p l e R s m args below meth c D (UW W') A0 nL cells slots Q (pc + 3) lo st ()) : AW p l e R s m args below meth c D (UW Z) A0 nL cells slots Q pc lo (v :: .ref a :: st) () := by
  intro H locs ls hP hS hL
  subst hW
  obtain ⟨C, Tb, N, ty0, h1, h2, h3, h4, h5, h6, h7⟩ := F
  obtain ⟨g1, g2, g3⟩ := G _ h1
  exact va_putF B.1.1 B.1.2.1 B.1.2.2.2.2 h3 ty0 h6 h5 B.1.2.2.2.1 B.2.1 hP (B.2.2.2.1 ()) hS q0 he h1 k h2 (B.1.2.2.2.2 _ h7) (fun x hx => by rw [h4] at hx; exact hx) g1 hin g2 g3 hn hfit hl hdg (fun H1 locs1 hP1 hD1 hS1 => kk (bs_mv B hD1) H1 locs1 ls hP1 hS1 hL)

theorem u_new {idx ci N : Nat} {fs : List Value} {W' : Nat → va_W} (B : BS sk D cy (UW Z) A0 p s m args c own cc nL) (K : NWK own idx ci N fs) (hW : ∀ q, Z ++ [(q, .inr (ci, fs))] = W' q) (hcells : cells + 1 ≤ R.cells) (hslots : slots + N ≤ R.slots) (hdg : decode cc pc = .ok (.new idx, 3)) (kk : ∀ q, BS sk D cy (UW (W' q)) A0 p s m args c own cc nL → AW p l e R s m args below meth c D (UW (W' q)) A0 nL (cells + 1) (slots + N) Q (pc + 3) lo (.ref q :: st) ()) : AW p l e R s m args below meth c D (UW Z) A0 nL cells slots Q pc lo st () := by
  intro H locs ls hP hS hL
  obtain ⟨C, Tb, ty, h1, h2, h3, h4, h5, h6, h7⟩ := K
  exact va_new B.1.1 B.1.2.1 B.1.2.2.2.2 h2 ty h3 B.1.2.2.2.1 (B.1.2.2.2.2 _ h4) (B.1.2.2.2.2 _ h5) (B.1.2.2.2.2 _ h6) B.2.1 hP (B.2.2.2.1 ()) hS B.2.2.2.2.2.1 h1 h7 hcells hslots hdg (fun q H1 hP1 hD1 hS1 => by
    have e := hW q
    have hP2 : va_P D vwCl (W' q) H1 := e ▸ hP1
    have hD2 : va_D A0 (W' q) := e ▸ hD1
    exact kk q (bs_mv B hD2) H1 locs ls hP2 hS1 hL)
theorem va_RA_fc {U : State} {cA : ClassId} {ty : FieldType} (h : va_RA U cA ty) : U.vm.findClass ("[" ++ ty.toString) = some cA := by
  cases ty with
  | object C => obtain ⟨kA, comp, h1, h2, h3, h4⟩ := h; exact h4
  | _ => exact h
theorem tys_eq {t0 : Nat} {ty : FieldType} {cA : ClassId} (B : BS sk D cy (UW Z) A0 p s m args c own cc nL) (ht : (tysC cy)[t0]? = some (cy t0, ty)) (hK : va_K D vwCl (tysC cy ++ [(cA, ty)]) s) : cA = cy t0 := by
  have h1 := va_RA_fc (B.2.1.2 t0 _ ht).2
  have h2 := va_RA_fc (hK.2 4 (cA, ty) rfl).2
  rw [h1] at h2
  exact (Option.some.inj h2).symm
theorem u_newI {n N : Nat} {W' : Nat → va_W} (B : BS sk D cy (UW Z) A0 p s m args c own cc nL) (hN : n = N) (hn2 : N < 2 ^ 20) (hW : ∀ q, Z ++ [(q, .inl (cy 0, N, .inl (fun _ => 0)))] = W' q) (hcells : cells + 1 ≤ R.cells) (hslots : slots + N ≤ R.slots) (hdg : decode cc pc = .ok (.newarray .int, 2)) (kk : ∀ q, BS sk D cy (UW (W' q)) A0 p s m args c own cc nL → AW p l e R s m args below meth c D (UW (W' q)) A0 nL (cells + 1) (slots + N) Q (pc + 2) lo (.ref q :: st) ()) : AW p l e R s m args below meth c D (UW Z) A0 nL cells slots Q pc lo (.int (nI n) :: st) () := by
  intro H locs ls hP hS hL
  subst hN
  refine va_newa (atype := .int) (ty := .int) (N' := n) (a0 := (n, .inl (fun _ => 0))) B.1.1 B.1.2.1 (B.1.2.2.2.2 _ ac_I) rfl B.2.1 hP (B.2.2.2.1 ()) hS B.2.2.2.2.2.1 (fun cA => rfl) (nI_pos (by omega)) (nI_clamp (by omega)) ?_ hcells hslots hdg (fun q cA H1 hK1 hP1 hD1 hS1 => ?_)
  · show n * 4 ≤ _
    omega
  · have e := tys_eq B (t0 := 0) rfl hK1
    subst e
    have e := hW q
    have hP2 : va_P D vwCl (W' q) H1 := e ▸ hP1
    have hD2 : va_D A0 (W' q) := e ▸ hD1
    exact kk q (bs_mv B hD2) H1 locs ls hP2 hS1 hL
theorem u_newB {n N : Nat} {W' : Nat → va_W} (B : BS sk D cy (UW Z) A0 p s m args c own cc nL) (hN : n = N) (hn2 : N < 2 ^ 20) (hW : ∀ q, Z ++ [(q, .inl (cy 1, N, .inl (fun _ => 0)))] = W' q) (hcells : cells + 1 ≤ R.cells) (hslots : slots + N ≤ R.slots) (hdg : decode cc pc = .ok (.newarray .byte, 2)) (kk : ∀ q, BS sk D cy (UW (W' q)) A0 p s m args c own cc nL → AW p l e R s m args below meth c D (UW (W' q)) A0 nL (cells + 1) (slots + N) Q (pc + 2) lo (.ref q :: st) ()) : AW p l e R s m args below meth c D (UW Z) A0 nL cells slots Q pc lo (.int (nI n) :: st) () := by
  intro H locs ls hP hS hL
  subst hN
  refine va_newa (atype := .byte) (ty := .byte) (N' := n) (a0 := (n, .inl (fun _ => 0))) B.1.1 B.1.2.1 (B.1.2.2.2.2 _ ac_B) rfl B.2.1 hP (B.2.2.2.1 ()) hS B.2.2.2.2.2.1 (fun cA => rfl) (nI_pos (by omega)) (nI_clamp (by omega)) ?_ hcells hslots hdg (fun q cA H1 hK1 hP1 hD1 hS1 => ?_)
  · show n * 1 ≤ _
    omega
  · have e := tys_eq B (t0 := 1) rfl hK1
    subst e
    have e := hW q
    have hP2 : va_P D vwCl (W' q) H1 := e ▸ hP1
    have hD2 : va_D A0 (W' q) := e ▸ hD1
    exact kk q (bs_mv B hD2) H1 locs ls hP2 hS1 hL
theorem u_newQ {n N idx t0 : Nat} {C : String} {W' : Nat → va_W} (B : BS sk D cy (UW Z) A0 p s m args c own cc nL) (hcl : Cond.classLink own idx C ∈ GW) (hov : va_AO C s) (ht : (tysC cy)[t0]? = some (cy t0, .object C)) (hN : n = N) (hn2 : N < 2 ^ 20) (hW : ∀ q, Z ++ [(q, .inl (cy t0, N, .inr (.inr (.inr (.inr (fun _ => none))))))] = W' q) (hcells : cells + 1 ≤ R.cells) (hslots : slots + N ≤ R.slots) (hdg : decode cc pc = .ok (.anewarray idx, 3)) (kk : ∀ q, BS sk D cy (UW (W' q)) A0 p s m args c own cc nL → AW p l e R s m args below meth c D (UW (W' q)) A0 nL (cells + 1) (slots + N) Q (pc + 3) lo (.ref q :: st) ()) : AW p l e R s m args below meth c D (UW Z) A0 nL cells slots Q pc lo (.int (nI n) :: st) () := by
  intro H locs ls hP hS hL
  subst hN
  refine va_newq (N' := n) B.1.1 B.1.2.1 B.1.2.2.2.1 (B.1.2.2.2.2 _ hcl) hov B.2.1 hP (B.2.2.2.1 ()) hS B.2.2.2.2.2.1 (nI_pos (by omega)) (nI_clamp (by omega)) (by omega) hcells hslots hdg (fun q cA H1 hK1 hP1 hD1 hS1 => ?_)
  have e := tys_eq B ht hK1
  subst e
  have e := hW q
  have hP2 : va_P D vwCl (W' q) H1 := e ▸ hP1
  have hD2 : va_D A0 (W' q) := e ▸ hD1
  exact kk q (bs_mv B hD2) H1 locs ls hP2 hS1 hL
theorem u_iast {q0 a n i : Nat} {f : Nat → Int32} {v : Int32} {W' : va_W} (B : BS sk D cy (UW Z) A0 p s m args c own cc nL) (he : Z[q0]? = some (a, .inl (cy 0, n, .inl f))) (hi : i < n) (hn : n < 2 ^ 31) (hW : Z.set q0 (a, .inl (cy 0, n, .inl (upd f i v))) = W') (hdg : decode cc pc = .ok (.iastore, 1)) (kk : BS sk D cy (UW W') A0 p s m args c own cc nL → AW p l e R s m args below meth c D (UW W') A0 nL cells slots Q (pc + 1) lo st ()) : AW p l e R s m args below meth c D (UW Z) A0 nL cells slots Q pc lo (.int v :: .int (nI i) :: .ref a :: st) () := by
  intro H locs ls hP hS hL
  subst hW
  refine va_iast B.1.1 B.1.2.1 B.2.1 hP (B.2.2.2.1 ()) hS q0 0 he rfl (vp_in_nI hi hn) hdg (fun H1 locs1 hP1 hD1 hS1 => ?_)
  rw [nI_clamp (by omega)] at hP1 hD1
  exact kk (bs_mv B hD1) H1 locs1 ls hP1 hS1 hL
theorem u_aast {q0 qk a n i v ci t0 : Nat} {vs : List Value} {f : Nat → Option Nat} {r : vw_C} {W' : va_W} (B : BS sk D cy (UW Z) A0 p s m args c own cc nL) (he : Z[q0]? = some (a, .inl (cy t0, n, .inr (.inr (.inr (.inr f)))))) (ht : (tysC cy)[t0]? = some (cy t0, .object r.1)) (hv : Z[qk]? = some (v, .inr (ci, vs))) (hc : vwCl[ci]? = some r) (hi : i < n) (hn : n < 2 ^ 31) (hW : Z.set q0 (a, .inl (cy t0, n, .inr (.inr (.inr (.inr (va_up f i (some v))))))) = W') (hdg : decode cc pc = .ok (.aastore, 1)) (kk : BS sk D cy (UW W') A0 p s m args c own cc nL → AW p l e R s m args below meth c D (UW W') A0 nL cells slots Q (pc + 1) lo st ()) : AW p l e R s m args below meth c D (UW Z) A0 nL cells slots Q pc lo (.ref v :: .int (nI i) :: .ref a :: st) () := by
  intro H locs ls hP hS hL
  subst hW
  refine va_astq B.1.1 B.1.2.1 B.2.1 hP (B.2.2.2.1 ()) hS q0 t0 qk ci he ht hv hc (vp_in_nI hi hn) hdg (fun H1 locs1 hP1 hD1 hS1 => ?_)
  rw [nI_clamp (by omega)] at hP1 hD1
  exact kk (bs_mv B hD1) H1 locs1 ls hP1 hS1 hL
/-- what a constructor may ask of the start -/
def preN (sk : (Nat → Nat) × (Nat → Nat)) (D : va_G) (cy : Nat → ClassId) (Z : va_W) (sz : Nat) (U : State) : Prop := preK sk D cy (UW Z) () sz U ∧ va_AO "RicePriests$Priest" U ∧ va_AO "RicePriests$Sheet" U
theorem preN_blind {Z : va_W} {sz : Nat} {av : List Value} : FrameBlind (va_Pc av (preN sk D cy Z sz)) := by
  intro a U g mk q
  obtain ⟨q0, q1, q2, q3⟩ := q
  have h := preK_blind (av := av) a U g mk ⟨q0, q1⟩
  exact ⟨h.1, h.2, va_AO.moved (u := U) (U := U.calling g mk a) (Vm.Alike.refl U.vm) q2, va_AO.moved (u := U) (U := U.calling g mk a) (Vm.Alike.refl U.vm) q3⟩
theorem preN_at {H : Heap} {locs : List Loc} (B : BS sk D cy (UW Z) A0 p s m args c own cc nL) (hP : va_P D vwCl Z H) (hS : va_S A0 s.heap H locs) (hao : va_AO "RicePriests$Priest" s ∧ va_AO "RicePriests$Sheet" s) (U : State) (hU : U.heap = H) (hW : s.WarmedH U.vm) : preN sk D cy Z H.size U := ⟨preK_at B hP hS U hU hW, va_AO.moved hW.alike hao.1, va_AO.moved hW.alike hao.2⟩
def CN (l : Launch) (sk : (Nat → Nat) × (Nat → Nat)) (D : va_G) (cy : Nat → ClassId) (y : MD) (fr mc ms h0 : Nat) (e0 : va_E) (Sh : va_W → Prop) : Prop :=
  ∀ sz : Nat, Met l y.1 (cdW y :: GW) { frames := fr, cells := mc, slots := ms, locals := 34 * fr } (va_Pc [.ref h0] (preN sk D cy [(h0, e0)] sz)) (va_Qv Sh (fun W' t => va_P D vwCl W' t.heap ∧ va_D (va_A [(h0, e0)] sz) W') (va_A [(h0, e0)] sz)) mc ms (va_A [(h0, e0)] sz)
abbrev rmN (fr mc ms : Nat) : Room := { frames := fr, cells := mc, slots := ms, locals := 34 * fr }
theorem CN.of {l : Launch} {sk : (Nat → Nat) × (Nat → Nat)} {D : va_G} {cy : Nat → ClassId} {y : MD} {fr mc ms h0 : Nat} {e0 : va_E} {Sh : va_W → Prop} {lo : List (Option Value)} (hF : CF y 0) (hy : y.1.name = "<init>") (k : Nat) (hlo : some (.ref h0) :: List.replicate k none = lo) (hlen : 1 ≤ y.2.2.1)
    (body : ∀ (p : Program) (e : Env) (s : State) (m : MethodId) (args : Array Value) (below : List Frame) (meth : Method) (c : Code) (A0 : Nat → Prop), BS sk D cy (UW [(h0, e0)]) A0 p s m args c y.1.cls y.2.1 y.2.2.1 → meth.sig.returnType = y.2.2.2 → meth.locks = false → meth.name = "<init>" → (va_AO "RicePriests$Priest" s ∧ va_AO "RicePriests$Sheet" s) → AW p l e (rmN fr mc ms) s m args below meth c D (UW [(h0, e0)]) A0 y.2.2.1 0 0 (MQ below (va_Qv Sh (fun W' t => va_P D vwCl W' t.heap ∧ va_D A0 W') A0) args s mc ms A0) 0 lo [] ()) : CN l sk D cy y fr mc ms h0 e0 Sh := by
  intro sz
  refine va_MetF (cc := y.2.1) (maxL := y.2.2.1) (ret := y.2.2.2) (ws' := GW) hF.2.2.2 rfl ?_
  intro p e s m args below meth c s₁ B hml hv
  obtain ⟨hav, ⟨hsz, hP, hK, hD, hN, hH⟩, hao⟩ := hv
  subst hav
  subst hsz
  have hts := atoms_spec (ws := cdW y :: GW) B.pre
  have hown : s.vm.findClass y.1.cls = some m.cls := findClass_of_methodNamed B.named
  have hlocks := B.notSynchronized
  have hin : meth.name = "<init>" := ((name_of_methodNamed B.named B.method).1).trans hy
  have hb := body p e s m _ below meth c (va_A [(h0, e0)] s.heap.size) ⟨⟨B.exec, B.bytes, hml, hown, fun w hw => hts w (List.mem_cons_of_mem _ hw)⟩, hK, hN, fun M' => hD.self, hH, fun q h => Or.inr h, fun _ _ => rfl⟩ B.returns hlocks hin hao
  rw [lg_entry_eq]
  refine hb s.heap [] _ hP va_S.rf ?_
  have hl := lv_entry [Value.ref h0] (n := y.2.2.1) hlen
  subst hlo
  exact ⟨hl.1, hl.2.1, fun q hq => hl.2.2 q (ent_ok [Value.ref h0] 0 k q hq)⟩
theorem u_call {q0 mc ms fr : Nat} {e0 : va_E} {Sh : va_W → Prop} {X : va_W} {y : MD} {idx : Nat} (B : BS sk D cy (UW Z) A0 p s m args c own cc nL) (hao : va_AO "RicePriests$Priest" s ∧ va_AO "RicePriests$Sheet" s) (hF : CF y 0) (hy : y.1.name = "<init>") (hl : Cond.methodLink own idx y.1 ∈ GW ∨ ∃ host, Cond.methodLinkNest own idx y.1 host ∈ NL) (hin : Cond.instanceMethod y.1 ∈ GW) (hret : y.2.2.2 = none) (hZ : Z = X ++ [(q0, e0)]) (hC : CN l sk D cy y fr mc ms q0 e0 Sh) (hdg : decode cc pc = .ok (.invokespecial idx, 3)) (hw : (st.map fun v => v.category).sum ≤ 8) (hR : fr + 1 ≤ R.frames ∧ 8 + (y.2.2.1 + 11) + 34 * fr ≤ R.locals) (hcs : cells + mc ≤ R.cells ∧ slots + ms ≤ R.slots) (kk : ∀ W1, Sh W1 → BS sk D cy (UW (X ++ W1)) A0 p s m args c own cc nL → AW p l e R s m args below meth c D (UW (X ++ W1)) A0 nL (cells + mc) (slots + ms) Q (pc + 3) lo st ()) : AW p l e R s m args below meth c D (UW Z) A0 nL cells slots Q pc lo (.ref q0 :: st) () := by
  intro H locs ls hP hS hL
  subst hZ
  have hP : va_P D vwCl (X ++ [(q0, e0)]) H := hP
  have hD : va_D A0 (X ++ [(q0, e0)]) := B.2.2.2.1 ()
  have hiC : [X.length].map (fun i => (X ++ [(q0, e0)])[i]?) = [(q0, e0)].map some := by simp
  have hiR : (List.range X.length).map (fun i => (X ++ [(q0, e0)])[i]?) = X.map some := by
    apply List.ext_getElem?
    intro k
    by_cases hk : k < X.length
    · simp [hk, List.getElem?_append_left hk]
    · simp [hk]
  have hiF : [X.length].filterMap (fun i => (X ++ [(q0, e0)])[i]?) = [(q0, e0)] := by simp
  have hPc := hP.sub (ws' := [(q0, e0)]) [X.length] hiF
  have hDc := hD.sub (ws' := [(q0, e0)]) [X.length] rfl hiC
  have hFc := va_free (wc := [(q0, e0)]) hD hS B.2.2.2.2.2.1 [X.length] hiC
  have Bc : BS sk D cy (UW [(q0, e0)]) A0 p s m args c own cc nL := bs_mv B hDc
  have hg : ∀ w ∈ cdW y :: GW, w ∈ GW := fun w hw => (List.mem_cons.mp hw).elim (fun e => e ▸ hF.1) id
  have go : va_Run p l e R s m args below meth c H locs cells slots mc ms (F0 m pc ls (.ref q0 :: st)) st (va_Qv Sh (fun W' t => va_P D vwCl W' t.heap ∧ va_D (va_A [(q0, e0)] H.size) W') (va_A [(q0, e0)] H.size) (Value.ref q0 :: []).toArray) (va_A [(q0, e0)] H.size) := by
    rcases hl with hl | ⟨host, hl⟩
    · exact va_runI (As := []) (rest := st) (y := y.1) (bytes := y.2.1) (maxL := y.2.2.1) (ws := cdW y :: GW) (n := 0) B.1 (hC H.size) ⟨callB_of 0 B.1.2.2.2.2 (gw_good hg) (by rw [cdW, hret]) rfl rfl (B.1.2.2.2.2 _ hF.2.1) (B.1.2.2.2.2 _ hl) hF.2.2.1 hR, hy, B.1.2.2.2.2 _ hin⟩ ⟨preN_blind, fun U hU hW => ⟨rfl, preN_at Bc hPc hS hao U hU hW⟩⟩ rfl rfl hL.1 rfl (lv_room hw) hdg hcs
    · exact va_runIN (As := []) (rest := st) (y := y.1) (bytes := y.2.1) (maxL := y.2.2.1) (ws := cdW y :: GW) (n := 0) B.1 (hC H.size) ⟨va_cnB 0 B.1.2.2.2.2 (gw_good hg) (by rw [cdW, hret]) rfl rfl (B.2.2.1 _ hl) (B.1.2.2.2.2 _ hF.2.1) hF.2.2.1 hR, hy, B.1.2.2.2.2 _ hin⟩ ⟨preN_blind, fun U hU hW => ⟨rfl, preN_at Bc hPc hS hao U hU hW⟩⟩ rfl rfl hL.1 rfl (lv_room hw) hdg hcs
  refine va_callv go hS (fun q _ h => hFc q h) hFc (fun W1 t H1 locs1 ht hvm hSh hB hz1 hk1 hS1 => ?_)
  obtain ⟨hP1, hD1⟩ := hB
  rw [ht] at hP1
  obtain ⟨hP2, hD2⟩ := va_join (wr := X) (w1 := W1) hP hD [X.length] (List.range X.length) hiC hiR (va_nd_range _) (fun i hi => by simp at hi ⊢; omega) hk1 hFc hP1 hD1
  exact kk W1 hSh (bs_mv B hD2) H1 locs1 ls hP2 hS1 hL
theorem u_vret {mc ms : Nat} {Sh : va_W → Prop} (B : BS sk D cy (UW Z) A0 p s m args c own cc nL) (hr : meth.sig.returnType = none) (hk : meth.locks = false) (hc1 : cells ≤ mc) (hc2 : slots ≤ ms) (hS0 : Sh Z) (hdg : decode cc pc = .ok (.return_, 1)) : AW p l e R s m args below meth c D (UW Z) A0 nL cells slots (MQ below (va_Qv Sh (fun W' t => va_P D vwCl W' t.heap ∧ va_D A0 W') A0) args s mc ms A0) pc lo [] () := by
  intro H locs ls hP hS hL
  refine W.widen (k := mc) (n := ms) hc1 hc2 ?_
  exact W.vret B.1.1 B.1.2.1 hr (fun t ht hW => ⟨⟨Z, rfl, hS0, by rw [ht]; exact hP, B.2.2.2.1 ()⟩, hS.F ht⟩) hS.2.2 hdg hk

end U1
