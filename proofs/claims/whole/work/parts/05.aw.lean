
def isNs : Cond → Bool
  | .fieldLinkNest _ _ _ _ _ _ => true
  | .methodLinkNest _ _ _ _ => true
  | _ => false
def GW : List Cond := lw_tbl.filter goodWord
def NL : List Cond := lw_tbl.filter isNs
theorem gw_of {w : Cond} (h : w ∈ lw_tbl) (hg : goodWord w = true) : w ∈ GW := List.mem_filter.mpr ⟨h, hg⟩
theorem nl_of {w : Cond} (h : w ∈ lw_tbl) (hg : isNs w = true) : w ∈ NL := List.mem_filter.mpr ⟨h, hg⟩
theorem gw_good {ws : List Cond} (h : ∀ w ∈ ws, w ∈ GW) : GoodIn GW ws := fun w hw => ⟨h w hw, good_of_word (List.mem_filter.mp (h w hw)).2⟩
theorem nl_onT {w : Cond} (h : w ∈ NL) : w.onTables = true := by
  have h1 := (List.mem_filter.mp h).2
  cases w <;> first | rfl | (simp [isNs] at h1)
theorem nl_warm {w : Cond} {s U : State} (h : w ∈ NL) (hW : s.WarmedH U.vm) (hZ : va_Nw w s) : va_Nw w U := by
  have h1 := (List.mem_filter.mp h).2
  cases w <;> first | exact va_Nw.warmF hW hZ | exact va_Nw.warmM hW hZ | (simp [isNs] at h1)
-- the memory: banks of numbers
abbrev Mem : Type := Nat → Nat → Int32
def upB (M : Mem) (b n : Nat) (v : Int32) : Mem := fun b' n' => if b' = b ∧ n' = n then v else M b' n'
def lhi (v : Int64) : Int32 := Int32.ofNat (v.toBitVec.toNat / 4294967296)
def llo (v : Int64) : Int32 := Int32.ofNat (v.toBitVec.toNat % 4294967296)
def ljn (h l : Int32) : Int64 := Int64.ofNat (h.toBitVec.toNat * 4294967296 + l.toBitVec.toNat)
theorem ljn_s (v : Int64) : ljn (lhi v) (llo v) = v := by
  apply Int64.toBitVec_inj.mp
  apply BitVec.eq_of_toNat_eq
  have h := v.toBitVec.isLt
  have e1 : (Int32.ofNat (v.toBitVec.toNat / 4294967296)).toBitVec.toNat = v.toBitVec.toNat / 4294967296 := by
    show (BitVec.ofNat 32 _).toNat = _
    rw [BitVec.toNat_ofNat]
    exact Nat.mod_eq_of_lt (by omega)
  have e2 : (Int32.ofNat (v.toBitVec.toNat % 4294967296)).toBitVec.toNat = v.toBitVec.toNat % 4294967296 := by
    show (BitVec.ofNat 32 _).toNat = _
    rw [BitVec.toNat_ofNat]
    exact Nat.mod_eq_of_lt (by omega)
  show (BitVec.ofNat 64 ((lhi v).toBitVec.toNat * 4294967296 + (llo v).toBitVec.toNat)).toNat = _
  rw [BitVec.toNat_ofNat]
  show (((Int32.ofNat (v.toBitVec.toNat / 4294967296)).toBitVec.toNat) * 4294967296 + (Int32.ofNat (v.toBitVec.toNat % 4294967296)).toBitVec.toNat) % 2 ^ 64 = _
  rw [e1, e2]
  omega
-- templates of the cells: numbers of the memory, fixed references
abbrev FS : Type := (Nat × Nat) ⊕ (Nat ⊕ (Nat × Nat))
abbrev CS : Type := (Nat × List FS) ⊕ ((Nat × Nat × Nat × Nat) ⊕ (Nat × List Nat))
def fvC (A : Nat → Nat) (M : Mem) : FS → Value
  | .inl q => .int (M q.1 q.2)
  | .inr (.inl p) => .ref (A p)
  | .inr (.inr q) => .long (ljn (M q.1 q.2) (M q.1 (q.2 + 1)))
def cvC (A : Nat → Nat) (cy : Nat → ClassId) (M : Mem) : CS → va_E
  | .inl o => .inr (o.1, o.2.map (fvC A M))
  | .inr (.inl a) => .inl (cy a.1, a.2.2.2, .inl (fun j => if j < a.2.2.2 then M a.2.1 (a.2.2.1 + j) else 0))
  | .inr (.inr r) => .inl (cy r.1, r.2.length, .inr (.inr (.inr (.inr (fun j => (r.2[j]?).map A)))))
def rdF : FS → List (Nat × Nat)
  | .inl q => [q]
  | .inr (.inl _) => []
  | .inr (.inr q) => [q, (q.1, q.2 + 1)]
def rdC : CS → List (Nat × Nat)
  | .inl o => o.2.flatMap rdF
  | .inr (.inl a) => (List.range a.2.2.2).map (fun j => (a.2.1, a.2.2.1 + j))
  | .inr (.inr _) => []
theorem cvC_congr {A : Nat → Nat} {cy : Nat → ClassId} {M M' : Mem} (c : CS) (h : ∀ r ∈ rdC c, M' r.1 r.2 = M r.1 r.2) : cvC A cy M' c = cvC A cy M c := by
  match c with
  | .inl o =>
    have key : o.2.map (fvC A M') = o.2.map (fvC A M) := by
      apply List.map_congr_left
      intro f hf
      have h' : ∀ r ∈ rdF f, M' r.1 r.2 = M r.1 r.2 := fun r hr => h r (List.mem_flatMap.mpr ⟨f, hf, hr⟩)
      match f, h' with
      | .inl q, h' => exact congrArg Value.int (h' q (List.mem_singleton.mpr rfl))
      | .inr (.inl _), _ => rfl
      | .inr (.inr q), h' =>
        show Value.long _ = Value.long _
        rw [h' q List.mem_cons_self, h' (q.1, q.2 + 1) (List.mem_cons_of_mem _ (List.mem_singleton.mpr rfl))]
    show Sum.inr (o.1, o.2.map (fvC A M')) = Sum.inr (o.1, o.2.map (fvC A M))
    rw [key]
  | .inr (.inl a) =>
    have key : (fun j => if j < a.2.2.2 then M' a.2.1 (a.2.2.1 + j) else 0) = (fun j => if j < a.2.2.2 then M a.2.1 (a.2.2.1 + j) else (0 : Int32)) := by
      funext j
      by_cases hj : j < a.2.2.2
      · rw [if_pos hj, if_pos hj]
        exact h (a.2.1, a.2.2.1 + j) (List.mem_map.mpr ⟨j, List.mem_range.mpr hj, rfl⟩)
      · rw [if_neg hj, if_neg hj]
    show Sum.inl (cy a.1, a.2.2.2, Sum.inl _) = Sum.inl (cy a.1, a.2.2.2, Sum.inl _)
    rw [key]
  | .inr (.inr r) => rfl
def wl (A : Nat → Nat) (cy : Nat → ClassId) (nP : Nat) (T : Nat → CS) (X : va_W) (M : Mem) : va_W := (List.range nP).map (fun p => (A p, cvC A cy M (T p))) ++ X
theorem wl_at {A : Nat → Nat} {cy : Nat → ClassId} {nP : Nat} {T : Nat → CS} {X : va_W} {M : Mem} {p : Nat} (hp : p < nP) : (wl A cy nP T X M)[p]? = some (A p, cvC A cy M (T p)) := by
  unfold wl
  rw [List.getElem?_append_left (by simp; exact hp)]
  simp [hp]
theorem wl_set {A : Nat → Nat} {cy : Nat → ClassId} {nP : Nat} {T : Nat → CS} {X : va_W} {M M' : Mem} {p : Nat} {e : va_E} (hp : p < nP) (he : e = cvC A cy M' (T p)) (ho : ∀ q, q < nP → q ≠ p → cvC A cy M' (T q) = cvC A cy M (T q)) : (wl A cy nP T X M).set p (A p, e) = wl A cy nP T X M' := by
  unfold wl
  rw [List.set_append_left _ _ (by simp; exact hp)]
  congr 1
  apply List.ext_getElem?
  intro k
  by_cases hk : k < nP
  · by_cases hkp : k = p
    · subst hkp
      rw [List.getElem?_set_self (by simp; exact hk)]
      simp [hk, he]
    · rw [List.getElem?_set_ne (Ne.symm hkp)]
      simp [hk, ho k hk hkp]
  · rw [List.getElem?_eq_none (by simp; omega), List.getElem?_eq_none (by simp; omega)]
theorem wl_fst {A : Nat → Nat} {cy : Nat → ClassId} {nP : Nat} {T : Nat → CS} {X : va_W} {M M' : Mem} : (wl A cy nP T X M').map Prod.fst = (wl A cy nP T X M).map Prod.fst := by
  simp [wl]
-- addresses alone decide regions and being apart
theorem fst_at {w w' : va_W} (h : w'.map Prod.fst = w.map Prod.fst) {k : Nat} {q : Nat × va_E} (hk : w'[k]? = some q) : ∃ q0, w[k]? = some q0 ∧ q0.1 = q.1 := by
  have h1 : (w'.map Prod.fst)[k]? = some q.1 := by rw [List.getElem?_map, hk]; rfl
  rw [h, List.getElem?_map] at h1
  cases hw : w[k]? with
  | none => rw [hw] at h1; cases h1
  | some q0 => rw [hw] at h1; exact ⟨q0, rfl, Option.some.inj h1⟩
theorem va_D_fst {A : Nat → Prop} {w w' : va_W} (h : w'.map Prod.fst = w.map Prod.fst) (hD : va_D A w) : va_D A w' := by
  refine ⟨fun i j p q hi hj e => ?_, fun k q hk => ?_⟩
  · obtain ⟨p0, a1, a2⟩ := fst_at h hi
    obtain ⟨q0, b1, b2⟩ := fst_at h hj
    exact hD.1 i j p0 q0 a1 b1 (a2.trans (e.trans b2.symm))
  · obtain ⟨q0, a1, a2⟩ := fst_at h hk
    rw [← a2]
    exact hD.2 k q0 a1
theorem va_A_fst {w w' : va_W} (h : w'.map Prod.fst = w.map Prod.fst) {sz q : Nat} (hq : va_A w' sz q) : va_A w sz q := by
  rcases hq with ⟨k, e, hk⟩ | hq
  · obtain ⟨q0, a1, a2⟩ := fst_at h hk
    exact Or.inl ⟨k, q0.2, by rw [a1, ← show q0.1 = q from a2]⟩
  · exact Or.inr hq

def strI : List Nat := [41, 50, 55, 116, 118, 120, 122, 124, 126, 128, 96, 104, 106]
def strT : List String := ["told", "water", "out", "curate", "envious", "sweet", "saint", "bishop", "hungry", "priest", "takes", "knows", "stuffed"]
def strL : List Nat := [4, 5, 3, 6, 7, 5, 5, 6, 6, 6, 5, 5, 7]
def strB : List (List Int32) := [[116, 111, 108, 100], [119, 97, 116, 101, 114], [111, 117, 116], [99, 117, 114, 97, 116, 101], [101, 110, 118, 105, 111, 117, 115], [115, 119, 101, 101, 116], [115, 97, 105, 110, 116], [98, 105, 115, 104, 111, 112], [104, 117, 110, 103, 114, 121], [112, 114, 105, 101, 115, 116], [116, 97, 107, 101, 115], [107, 110, 111, 119, 115], [115, 116, 117, 102, 102, 101, 100]]
def abvL : List Int32 := [-1, 0, 0, 1, 3, 0, 2]

def HV (sk : (Nat → Nat) × (Nat → Nat)) (A : Nat → Prop) (U : State) : Prop :=
  (∃ t, va_Z "RicePriests$Priest" "ABOVE" "[I" (.ref t) A U U.heap ∧ va_T .int t 7 (fun j => .int (abvL.getD j 0)) A U U.heap) ∧
  va_Z "java/lang/String" "COMPACT_STRINGS" "Z" (.int 1) A U U.heap ∧
  va_Zq "jdk/internal/util/Preconditions" "SIOOBE_FORMATTER" "Ljava/util/function/BiFunction;" A U U.heap ∧
  (∀ i, i < 13 → vk_R RX2 (strI.getD i 0) (strT.getD i "") (sk.1 i) U) ∧
  vk_S 13 strL strB sk.1 sk.2 A U U.heap
theorem HV.move {sk : (Nat → Nat) × (Nat → Nat)} {A A1 : Nat → Prop} {s U : State} (h : HV sk A s) (hW : s.WarmedH U.vm) (hq : ∀ a : Nat, a < s.heap.size → ¬ A a → U.heap[a]? = s.heap[a]?) (hA : ∀ q, A1 q → A q) : HV sk A1 U := by
  obtain ⟨⟨t, h1, h2⟩, h3, h4, h5, h6⟩ := h
  have hv := hW.alike
  exact ⟨⟨t, ((h1.moved hv).kept hq).narrow hA, ((h2.moved hv).kept hq).narrow hA⟩, ((h3.moved hv).kept hq).narrow hA, ((h4.moved hv).kept hq).narrow hA, fun i hi => (h5 i hi).warm hW, ((h6.moved hv).kept hq).narrow hA⟩
theorem HV.calling {sk : (Nat → Nat) × (Nat → Nat)} {A : Nat → Prop} {U : State} {g : JFrame} {mk : MethodId} {a : Array Value} (h : HV sk A U) : HV sk A (U.calling g mk a) := by
  obtain ⟨⟨t, h1, h2⟩, h3, h4, h5, h6⟩ := h
  have hv : U.vm.Alike (U.calling g mk a).vm := Vm.Alike.refl U.vm
  exact ⟨⟨t, h1.moved hv, h2.moved hv⟩, h3.moved hv, h4.moved hv, fun i hi => vk_R.same (U := U.calling g mk a) rfl (h5 i hi), h6.moved hv⟩


-- one method's own: name, code, width, what it gives
abbrev MD : Type := MethodName × ByteArray × Nat × Option FieldType
def cdW (y : MD) : Cond := .code y.1 y.2.1 y.2.2.1 y.2.2.2
abbrev tysC (cy : Nat → ClassId) : List (ClassId × FieldType) := [(cy 0, .int), (cy 1, .byte), (cy 2, .object "RicePriests$Priest"), (cy 3, .object "RicePriests$Sheet")]
def CF (y : MD) (n : Nat) : Prop := cdW y ∈ GW ∧ Cond.initialized y.1.cls ∈ GW ∧ (y.1.cls ≠ "java/lang/invoke/MethodHandle" ∧ y.1.cls ≠ "java/lang/invoke/VarHandle" ∧ (parseMethodDescriptor y.1.desc).map (fun d => d.parameters.length) = some n) ∧ plainFor y.1 = true
abbrev rmK (fr lc : Nat) : Room := { frames := fr, cells := 0, slots := 0, locals := lc }
def QG {σ : Type} (D : va_G) (wd : σ → va_W) (A0 : Nat → Prop) (Post : Option Value → σ → Prop) : Array Value → State → Outcome → State → Prop := fun _ st oc t => (∃ (v : Option Value) (M' : σ), oc = .returned v ∧ Post v M' ∧ va_P D vwCl (wd M') t.heap) ∧ va_F A0 st t
def preK {σ : Type} (sk : (Nat → Nat) × (Nat → Nat)) (D : va_G) (cy : Nat → ClassId) (wd : σ → va_W) (M : σ) (sz : Nat) (U : State) : Prop := U.heap.size = sz ∧ va_P D vwCl (wd M) U.heap ∧ va_K D vwCl (tysC cy) U ∧ va_D (fun _ => True) (wd M) ∧ (∀ w ∈ NL, va_Nw w U) ∧ HV sk (va_A (wd M) sz) U
/-- a contract -/
def Con {σ : Type} (l : Launch) (sk : (Nat → Nat) × (Nat → Nat)) (D : va_G) (cy : Nat → ClassId) (wd : σ → va_W) (y : MD) (fr lc : Nat) (av : List Value) (M : σ) (Post : Option Value → σ → Prop) : Prop :=
  ∀ sz : Nat, Met l y.1 (cdW y :: GW) (rmK fr lc) (va_Pc av (preK sk D cy wd M sz)) (QG D wd (va_A (wd M) sz) Post) 0 0 (va_A (wd M) sz)
def rt1 {σ : Type} (v : Option Value) (M : σ) : Option Value → σ → Prop := fun v' M' => v' = v ∧ M' = M
theorem Con.mono {σ : Type} {l : Launch} {sk : (Nat → Nat) × (Nat → Nat)} {D : va_G} {cy : Nat → ClassId} {wd : σ → va_W} {y : MD} {fr lc : Nat} {av : List Value} {M : σ} {P P' : Option Value → σ → Prop} (h : Con l sk D cy wd y fr lc av M P) (hp : ∀ v M', P v M' → P' v M') : Con l sk D cy wd y fr lc av M P' := by
  intro sz p e ha hc hk s m args below hf h1 h2 h3
  obtain ⟨k, o, a1, a2, a3, ⟨⟨v, M', b1, b2, b3⟩, b4⟩, a5⟩ := h sz p e ha hc hk s m args below hf h1 h2 h3
  exact ⟨k, o, a1, a2, a3, ⟨⟨v, M', b1, hp v M' b2, b3⟩, b4⟩, a5⟩
theorem Con.cast {σ : Type} {l : Launch} {sk : (Nat → Nat) × (Nat → Nat)} {D : va_G} {cy : Nat → ClassId} {wd : σ → va_W} {y : MD} {fr lc : Nat} {av : List Value} {M : σ} {v v' : Option Value} {M1 M2 : σ} (h : Con l sk D cy wd y fr lc av M (rt1 v M1)) (hv : v = v') (hM : M1 = M2) : Con l sk D cy wd y fr lc av M (rt1 v' M2) := by
  subst hv; subst hM; exact h
-- what stands in a method's body
def BS {σ : Type} (sk : (Nat → Nat) × (Nat → Nat)) (D : va_G) (cy : Nat → ClassId) (wd : σ → va_W) (A0 : Nat → Prop) (p : Program) (s : State) (m : MethodId) (args : Array Value) (c : Code) (own : String) (cc : ByteArray) (nL : Nat) : Prop :=
  CallFix p m c cc nL s args GW own ∧ va_K D vwCl (tysC cy) s ∧ (∀ w ∈ NL, va_Nw w s) ∧ (∀ M : σ, va_D A0 (wd M)) ∧ HV sk A0 s ∧ (∀ q : Nat, s.heap.size ≤ q → A0 q) ∧ (∀ M M' : σ, (wd M').map Prod.fst = (wd M).map Prod.fst)
def lo2 : Nat → List (Option Value) → List (Nat × Value)
  | _, [] => []
  | i, none :: r => lo2 (i + 1) r
  | i, some v :: r => (i, v) :: lo2 (i + 1) r
theorem lo2_mem : ∀ (lo : List (Option Value)) (i0 i : Nat) (v : Value), lo[i]? = some (some v) → (i0 + i, v) ∈ lo2 i0 lo
  | [], _, i, v, h => by simp at h
  | none :: r, i0, 0, v, h => by simp at h
  | some u :: r, i0, 0, v, h => by
    rw [List.getElem?_cons_zero] at h
    cases h
    exact List.mem_cons_self
  | none :: r, i0, i + 1, v, h => by
    rw [List.getElem?_cons_succ] at h
    have := lo2_mem r (i0 + 1) i v h
    rw [show i0 + (i + 1) = i0 + 1 + i by omega]
    exact this
  | some u :: r, i0, i + 1, v, h => by
    rw [List.getElem?_cons_succ] at h
    have := lo2_mem r (i0 + 1) i v h
    rw [show i0 + (i + 1) = i0 + 1 + i by omega]
    exact List.mem_cons_of_mem _ this
theorem lo2_ge : ∀ (lo : List (Option Value)) (i0 : Nat) (q : Nat × Value), q ∈ lo2 i0 lo → i0 ≤ q.1 ∧ lo[q.1 - i0]? = some (some q.2)
  | [], _, q, h => by simp [lo2] at h
  | none :: r, i0, q, h => by
    obtain ⟨h1, h2⟩ := lo2_ge r (i0 + 1) q h
    refine ⟨by omega, ?_⟩
    rw [show q.1 - i0 = (q.1 - (i0 + 1)) + 1 by omega, List.getElem?_cons_succ]
    exact h2
  | some u :: r, i0, q, h => by
    rcases List.mem_cons.mp h with h | h
    · rw [h]
      exact ⟨Nat.le_refl _, by simp⟩
    · obtain ⟨h1, h2⟩ := lo2_ge r (i0 + 1) q h
      refine ⟨by omega, ?_⟩
      rw [show q.1 - i0 = (q.1 - (i0 + 1)) + 1 by omega, List.getElem?_cons_succ]
      exact h2
theorem lo_at {ls : Array Slot} {nL i : Nat} {lo : List (Option Value)} {v : Value} (h : lv_has ls nL (lo2 0 lo)) (hl : lo[i]? = some (some v)) : ls[i]? = some (.val v) := by
  have := lo2_mem lo 0 i v hl
  rw [Nat.zero_add] at this
  exact h.2.2 _ this
/-- a slot is written: what was known of the others stays, but for a long that lies over it -/
theorem lo_put {ls : Array Slot} {nL i : Nat} {lo lo' : List (Option Value)} {v : Value} (h : lv_has ls nL ((i, v) :: (lo2 0 lo).filter (fun q => !(q.1 == i) && !(q.1 + 1 == i && q.2.category == 2)))) (hs : ∀ (j : Nat) (u : Value), lo'[j]? = some (some u) → (j = i ∧ u = v) ∨ (j ≠ i ∧ lo[j]? = some (some u) ∧ (j + 1 = i → u.category = 1))) : lv_has ls nL (lo2 0 lo') := by
  refine ⟨h.1, h.2.1, fun q hq => ?_⟩
  obtain ⟨-, h2⟩ := lo2_ge lo' 0 q hq
  rw [Nat.sub_zero] at h2
  rcases hs q.1 q.2 h2 with ⟨a1, a2⟩ | ⟨a1, a2, a3⟩
  · have := h.2.2 (i, v) List.mem_cons_self
    rw [a1, a2]
    exact this
  · refine h.2.2 q (List.mem_cons_of_mem _ (List.mem_filter.mpr ⟨?_, ?_⟩))
    · have := lo2_mem lo 0 q.1 q.2 a2
      rw [Nat.zero_add] at this
      exact this
    · by_cases hj : q.1 + 1 = i
      · simp [a1, hj, a3 hj]
      · simp [a1, hj]
theorem lo_putL {ls : Array Slot} {nL i : Nat} {lo lo' : List (Option Value)} {v : Value} (h : lv_has ls nL ((i, v) :: (lo2 0 lo).filter (fun q => !(q.1 == i) && (!(q.1 == i + 1) && !(q.1 + 1 == i && q.2.category == 2))))) (hs : ∀ (j : Nat) (u : Value), lo'[j]? = some (some u) → (j = i ∧ u = v) ∨ (j ≠ i ∧ j ≠ i + 1 ∧ lo[j]? = some (some u) ∧ (j + 1 = i → u.category = 1))) : lv_has ls nL (lo2 0 lo') := by
  refine ⟨h.1, h.2.1, fun q hq => ?_⟩
  obtain ⟨-, h2⟩ := lo2_ge lo' 0 q hq
  rw [Nat.sub_zero] at h2
  rcases hs q.1 q.2 h2 with ⟨a1, a2⟩ | ⟨a1, b1, a2, a3⟩
  · have := h.2.2 (i, v) List.mem_cons_self
    rw [a1, a2]
    exact this
  · refine h.2.2 q (List.mem_cons_of_mem _ (List.mem_filter.mpr ⟨?_, ?_⟩))
    · have := lo2_mem lo 0 q.1 q.2 a2
      rw [Nat.zero_add] at this
      exact this
    · by_cases hj : q.1 + 1 = i
      · simp [a1, b1, hj, a3 hj]
      · simp [a1, b1, hj]
def entL : List Value → List (Option Value)
  | [] => []
  | v :: r => some v :: (if v.category = 2 then none :: entL r else entL r)
theorem ent_ok : ∀ (av : List Value) (i0 k : Nat) (q : Nat × Value), q ∈ lo2 i0 (entL av ++ List.replicate k none) → q ∈ lv_args i0 av
  | [], i0, k, q, h => by
    have hn : ∀ (k i : Nat), lo2 i (List.replicate k none) = [] := by
      intro k
      induction k with
      | zero => intro i; rfl
      | succ k ih => intro i; exact ih (i + 1)
    rw [show entL [] ++ List.replicate k none = List.replicate k none from rfl, hn] at h
    exact h
  | v :: r, i0, k, q, h => by
    by_cases hc : v.category = 2
    · have e : lo2 i0 (entL (v :: r) ++ List.replicate k none) = (i0, v) :: lo2 (i0 + 1 + 1) (entL r ++ List.replicate k none) := by
        simp [entL, hc, lo2]
      rw [e] at h
      rcases List.mem_cons.mp h with h | h
      · rw [h]; exact List.mem_cons_self
      · have := ent_ok r _ k q h
        show q ∈ (i0, v) :: lv_args (if v.category = 2 then i0 + 2 else i0 + 1) r
        rw [if_pos hc]
        exact List.mem_cons_of_mem _ this
    · have e : lo2 i0 (entL (v :: r) ++ List.replicate k none) = (i0, v) :: lo2 (i0 + 1) (entL r ++ List.replicate k none) := by
        simp [entL, hc, lo2]
      rw [e] at h
      rcases List.mem_cons.mp h with h | h
      · rw [h]; exact List.mem_cons_self
      · have := ent_ok r _ k q h
        show q ∈ (i0, v) :: lv_args (if v.category = 2 then i0 + 2 else i0 + 1) r
        rw [if_neg hc]
        exact List.mem_cons_of_mem _ this
/-- the abstract W -/
def AW {σ : Type} (p : Program) (l : Launch) (e : Env) (R : Room) (s : State) (m : MethodId) (args : Array Value) (below : List Frame) (meth : Method) (c : Code) (D : va_G) (wd : σ → va_W) (A0 : Nat → Prop) (nL cells slots : Nat) (Q : State → Prop) (pc : Nat) (lo : List (Option Value)) (st : List Value) (M : σ) : Prop :=
  ∀ (H : Heap) (locs : List Loc) (ls : Array Slot), va_P D vwCl (wd M) H → va_S A0 s.heap H locs → lv_has ls nL (lo2 0 lo) → W p l e R s m args below meth c H locs cells slots Q (F0 m pc ls st)
theorem Con.of {σ : Type} {l : Launch} {sk : (Nat → Nat) × (Nat → Nat)} {D : va_G} {cy : Nat → ClassId} {wd : σ → va_W} {y : MD} {n fr lc : Nat} {av : List Value} {M : σ} {Post : Option Value → σ → Prop} {lo : List (Option Value)} (hF : CF y n) (hs : ∀ M M' : σ, (wd M').map Prod.fst = (wd M).map Prod.fst) (k : Nat) (hlo : entL av ++ List.replicate k none = lo) (hlen : (lg_sl av).length ≤ y.2.2.1)
    (body : ∀ (p : Program) (e : Env) (s : State) (m : MethodId) (args : Array Value) (below : List Frame) (meth : Method) (c : Code) (A0 : Nat → Prop), BS sk D cy wd A0 p s m args c y.1.cls y.2.1 y.2.2.1 → meth.sig.returnType = y.2.2.2 → meth.locks = false → AW p l e (rmK fr lc) s m args below meth c D wd A0 y.2.2.1 0 0 (MQ below (QG D wd A0 Post) args s 0 0 A0) 0 lo [] M) : Con l sk D cy wd y fr lc av M Post := by
  intro sz
  refine va_MetF (cc := y.2.1) (maxL := y.2.2.1) (ret := y.2.2.2) (ws' := GW) hF.2.2.2 rfl ?_
  intro p e s m args below meth c s₁ B hml hv
  obtain ⟨hav, hsz, hP, hK, hD, hN, hH⟩ := hv
  subst hav
  subst hsz
  have hts := atoms_spec (ws := cdW y :: GW) B.pre
  have hown : s.vm.findClass y.1.cls = some m.cls := findClass_of_methodNamed B.named
  have hlocks := B.notSynchronized
  have hb := body p e s m av.toArray below meth c (va_A (wd M) s.heap.size) ⟨⟨B.exec, B.bytes, hml, hown, fun w hw => hts w (List.mem_cons_of_mem _ hw)⟩, hK, hN, fun M' => va_D_fst (hs M M') hD.self, hH, fun q h => Or.inr h, hs⟩ B.returns hlocks
  rw [lg_entry_eq]
  refine hb s.heap [] _ hP va_S.rf ?_
  have hl := lv_entry av (n := y.2.2.1) hlen
  subst hlo
  exact ⟨hl.1, hl.2.1, fun q hq => hl.2.2 q (ent_ok av 0 k q hq)⟩

section AWS
variable {σ : Type} {p : Program} {l : Launch} {e : Env} {R : Room} {s : State} {m : MethodId} {args : Array Value} {below : List Frame} {meth : Method} {c : Code} {sk : (Nat → Nat) × (Nat → Nat)} {D : va_G} {cy : Nat → ClassId} {wd : σ → va_W} {A0 : Nat → Prop} {own : String} {cc : ByteArray} {nL cells slots : Nat} {Q : State → Prop} {pc : Nat} {lo : List (Option Value)} {st : List Value} {M : σ}
theorem a_iconst {n : Int} {v : Int32} (B : BS sk D cy wd A0 p s m args c own cc nL) (hdg : decode cc pc = .ok (.iconst n, 1)) (hv : Int32.ofInt n = v) (k : AW p l e R s m args below meth c D wd A0 nL cells slots Q (pc + 1) (lo) (.int v :: st) (M)) : AW p l e R s m args below meth c D wd A0 nL cells slots Q (pc) (lo) (st) (M) := by
  intro H locs ls hP hS hL
  exact lv_iconst B.1.1 B.1.2.1 hdg hv (k H locs ls hP hS hL)
theorem a_bipush {n : Int} {v : Int32} (B : BS sk D cy wd A0 p s m args c own cc nL) (hdg : decode cc pc = .ok (.bipush n, 2)) (hv : (Int8.ofInt n).toInt32 = v) (k : AW p l e R s m args below meth c D wd A0 nL cells slots Q (pc + 2) (lo) (.int v :: st) (M)) : AW p l e R s m args below meth c D wd A0 nL cells slots Q (pc) (lo) (st) (M) := by
  intro H locs ls hP hS hL
  exact lv_bipush B.1.1 B.1.2.1 hdg hv (k H locs ls hP hS hL)
theorem a_sipush {n : Int} {v : Int32} (B : BS sk D cy wd A0 p s m args c own cc nL) (hdg : decode cc pc = .ok (.sipush n, 3)) (hv : (Int16.ofInt n).toInt32 = v) (k : AW p l e R s m args below meth c D wd A0 nL cells slots Q (pc + 3) (lo) (.int v :: st) (M)) : AW p l e R s m args below meth c D wd A0 nL cells slots Q (pc) (lo) (st) (M) := by
  intro H locs ls hP hS hL
  exact lv_sipush B.1.1 B.1.2.1 hdg hv (k H locs ls hP hS hL)
theorem a_lconst {n : Fin 2} {v : Int64} (B : BS sk D cy wd A0 p s m args c own cc nL) (hdg : decode cc pc = .ok (.lconst n, 1)) (hv : Int64.ofNat (n : Nat) = v) (k : AW p l e R s m args below meth c D wd A0 nL cells slots Q (pc + 1) (lo) (.long v :: st) (M)) : AW p l e R s m args below meth c D wd A0 nL cells slots Q (pc) (lo) (st) (M) := by
  intro H locs ls hP hS hL
  exact lv_lconst B.1.1 B.1.2.1 hdg hv (k H locs ls hP hS hL)
theorem a_null  (B : BS sk D cy wd A0 p s m args c own cc nL) (hdg : decode cc pc = .ok (.aconst_null, 1))  (k : AW p l e R s m args below meth c D wd A0 nL cells slots Q (pc + 1) (lo) (.null :: st) (M)) : AW p l e R s m args below meth c D wd A0 nL cells slots Q (pc) (lo) (st) (M) := by
  intro H locs ls hP hS hL
  exact lv_null B.1.1 B.1.2.1 hdg (k H locs ls hP hS hL)
theorem a_ldc {index : Nat} {v : Int32} (B : BS sk D cy wd A0 p s m args c own cc nL) (hdg : decode cc pc = .ok (.ldc index, 2)) (hc : Cond.constant own index v ∈ GW) (k : AW p l e R s m args below meth c D wd A0 nL cells slots Q (pc + 2) (lo) (.int v :: st) (M)) : AW p l e R s m args below meth c D wd A0 nL cells slots Q (pc) (lo) (st) (M) := by
  intro H locs ls hP hS hL
  exact lv_ldc B.1.1 B.1.2.1 B.1.2.2.2.1 (B.1.2.2.2.2 _ hc) hdg (k H locs ls hP hS hL)
theorem a_ldcw {index : Nat} {v : Int32} (B : BS sk D cy wd A0 p s m args c own cc nL) (hdg : decode cc pc = .ok (.ldc_w index, 3)) (hc : Cond.constant own index v ∈ GW) (k : AW p l e R s m args below meth c D wd A0 nL cells slots Q (pc + 3) (lo) (.int v :: st) (M)) : AW p l e R s m args below meth c D wd A0 nL cells slots Q (pc) (lo) (st) (M) := by
  intro H locs ls hP hS hL
  exact lv_ldcw B.1.1 B.1.2.1 B.1.2.2.2.1 (B.1.2.2.2.2 _ hc) hdg (k H locs ls hP hS hL)
theorem a_ldc2 {index : Nat} {v : Int64} (B : BS sk D cy wd A0 p s m args c own cc nL) (hdg : decode cc pc = .ok (.ldc2_w index, 3)) (hc : Cond.constantLong own index v ∈ GW) (k : AW p l e R s m args below meth c D wd A0 nL cells slots Q (pc + 3) (lo) (.long v :: st) (M)) : AW p l e R s m args below meth c D wd A0 nL cells slots Q (pc) (lo) (st) (M) := by
  intro H locs ls hP hS hL
  exact lv_ldc2 B.1.1 B.1.2.1 B.1.2.2.2.1 (B.1.2.2.2.2 _ hc) hdg (k H locs ls hP hS hL)
theorem a_iload_n {j : Fin 4} {x : Int32} (B : BS sk D cy wd A0 p s m args c own cc nL) (hdg : decode cc pc = .ok (.iload_n j, 1)) (hl : lo[(j : Nat)]? = some (some (.int x))) (k : AW p l e R s m args below meth c D wd A0 nL cells slots Q (pc + 1) (lo) (.int x :: st) (M)) : AW p l e R s m args below meth c D wd A0 nL cells slots Q (pc) (lo) (st) (M) := by
  intro H locs ls hP hS hL
  exact lv_iload_n B.1.1 B.1.2.1 hdg rfl (lo_at hL hl) (k H locs ls hP hS hL)
theorem a_iload {j : Nat} {x : Int32} (B : BS sk D cy wd A0 p s m args c own cc nL) (hdg : decode cc pc = .ok (.iload j, 2)) (hl : lo[j]? = some (some (.int x))) (k : AW p l e R s m args below meth c D wd A0 nL cells slots Q (pc + 2) (lo) (.int x :: st) (M)) : AW p l e R s m args below meth c D wd A0 nL cells slots Q (pc) (lo) (st) (M) := by
  intro H locs ls hP hS hL
  exact lv_iload B.1.1 B.1.2.1 hdg (lo_at hL hl) (k H locs ls hP hS hL)
theorem a_lload_n {j : Fin 4} {x : Int64} (B : BS sk D cy wd A0 p s m args c own cc nL) (hdg : decode cc pc = .ok (.lload_n j, 1)) (hl : lo[(j : Nat)]? = some (some (.long x))) (k : AW p l e R s m args below meth c D wd A0 nL cells slots Q (pc + 1) (lo) (.long x :: st) (M)) : AW p l e R s m args below meth c D wd A0 nL cells slots Q (pc) (lo) (st) (M) := by
  intro H locs ls hP hS hL
  exact lv_lload_n B.1.1 B.1.2.1 hdg rfl (lo_at hL hl) (k H locs ls hP hS hL)
theorem a_lload {j : Nat} {x : Int64} (B : BS sk D cy wd A0 p s m args c own cc nL) (hdg : decode cc pc = .ok (.lload j, 2)) (hl : lo[j]? = some (some (.long x))) (k : AW p l e R s m args below meth c D wd A0 nL cells slots Q (pc + 2) (lo) (.long x :: st) (M)) : AW p l e R s m args below meth c D wd A0 nL cells slots Q (pc) (lo) (st) (M) := by
  intro H locs ls hP hS hL
  exact lv_lload B.1.1 B.1.2.1 hdg (lo_at hL hl) (k H locs ls hP hS hL)
theorem a_aload_n {j : Fin 4} {x : Nat} (B : BS sk D cy wd A0 p s m args c own cc nL) (hdg : decode cc pc = .ok (.aload_n j, 1)) (hl : lo[(j : Nat)]? = some (some (.ref x))) (k : AW p l e R s m args below meth c D wd A0 nL cells slots Q (pc + 1) (lo) (.ref x :: st) (M)) : AW p l e R s m args below meth c D wd A0 nL cells slots Q (pc) (lo) (st) (M) := by
  intro H locs ls hP hS hL
  exact lv_aload_n B.1.1 B.1.2.1 hdg rfl (lo_at hL hl) (k H locs ls hP hS hL)
theorem a_aload {j : Nat} {x : Nat} (B : BS sk D cy wd A0 p s m args c own cc nL) (hdg : decode cc pc = .ok (.aload j, 2)) (hl : lo[j]? = some (some (.ref x))) (k : AW p l e R s m args below meth c D wd A0 nL cells slots Q (pc + 2) (lo) (.ref x :: st) (M)) : AW p l e R s m args below meth c D wd A0 nL cells slots Q (pc) (lo) (st) (M) := by
  intro H locs ls hP hS hL
  exact lv_aload B.1.1 B.1.2.1 hdg (lo_at hL hl) (k H locs ls hP hS hL)
theorem a_aload_nN {j : Fin 4} (B : BS sk D cy wd A0 p s m args c own cc nL) (hdg : decode cc pc = .ok (.aload_n j, 1)) (hl : lo[(j : Nat)]? = some (some .null)) (k : AW p l e R s m args below meth c D wd A0 nL cells slots Q (pc + 1) (lo) (.null :: st) (M)) : AW p l e R s m args below meth c D wd A0 nL cells slots Q (pc) (lo) (st) (M) := by
  intro H locs ls hP hS hL
  exact lv_aload_nN B.1.1 B.1.2.1 hdg rfl (lo_at hL hl) (k H locs ls hP hS hL)
theorem a_aloadN {j : Nat} (B : BS sk D cy wd A0 p s m args c own cc nL) (hdg : decode cc pc = .ok (.aload j, 2)) (hl : lo[j]? = some (some .null)) (k : AW p l e R s m args below meth c D wd A0 nL cells slots Q (pc + 2) (lo) (.null :: st) (M)) : AW p l e R s m args below meth c D wd A0 nL cells slots Q (pc) (lo) (st) (M) := by
  intro H locs ls hP hS hL
  exact lv_aloadN B.1.1 B.1.2.1 hdg (lo_at hL hl) (k H locs ls hP hS hL)
theorem s_istore_n {j : Fin 4} {x : Int32} {lo' : List (Option Value)} (B : BS sk D cy wd A0 p s m args c own cc nL) (hdg : decode cc pc = .ok (.istore_n j, 1)) (hn : ((j : Nat)) < nL) (hs : ∀ (i : Nat) (u : Value), lo'[i]? = some (some u) → (i = (j : Nat) ∧ u = .int x) ∨ (i ≠ (j : Nat) ∧ lo[i]? = some (some u) ∧ (i + 1 = (j : Nat) → u.category = 1))) (k : AW p l e R s m args below meth c D wd A0 nL cells slots Q (pc + 1) (lo') (st) (M)) : AW p l e R s m args below meth c D wd A0 nL cells slots Q (pc) (lo) (.int x :: st) (M) := by
  intro H locs ls hP hS hL
  exact lv_istore_n B.1.1 B.1.2.1 hdg rfl hL hn rfl (fun ls hL2 => k H locs ls hP hS (lo_put hL2 hs))
theorem s_istore {j : Nat} {x : Int32} {lo' : List (Option Value)} (B : BS sk D cy wd A0 p s m args c own cc nL) (hdg : decode cc pc = .ok (.istore j, 2)) (hn : (j) < nL) (hs : ∀ (i : Nat) (u : Value), lo'[i]? = some (some u) → (i = j ∧ u = .int x) ∨ (i ≠ j ∧ lo[i]? = some (some u) ∧ (i + 1 = j → u.category = 1))) (k : AW p l e R s m args below meth c D wd A0 nL cells slots Q (pc + 2) (lo') (st) (M)) : AW p l e R s m args below meth c D wd A0 nL cells slots Q (pc) (lo) (.int x :: st) (M) := by
  intro H locs ls hP hS hL
  exact lv_istore B.1.1 B.1.2.1 hdg hL hn rfl (fun ls hL2 => k H locs ls hP hS (lo_put hL2 hs))
theorem s_astore_n {j : Fin 4} {x : Nat} {lo' : List (Option Value)} (B : BS sk D cy wd A0 p s m args c own cc nL) (hdg : decode cc pc = .ok (.astore_n j, 1)) (hn : ((j : Nat)) < nL) (hs : ∀ (i : Nat) (u : Value), lo'[i]? = some (some u) → (i = (j : Nat) ∧ u = .ref x) ∨ (i ≠ (j : Nat) ∧ lo[i]? = some (some u) ∧ (i + 1 = (j : Nat) → u.category = 1))) (k : AW p l e R s m args below meth c D wd A0 nL cells slots Q (pc + 1) (lo') (st) (M)) : AW p l e R s m args below meth c D wd A0 nL cells slots Q (pc) (lo) (.ref x :: st) (M) := by
  intro H locs ls hP hS hL
  exact lv_astore_n B.1.1 B.1.2.1 hdg rfl hL hn rfl (fun ls hL2 => k H locs ls hP hS (lo_put hL2 hs))
theorem s_astore {j : Nat} {x : Nat} {lo' : List (Option Value)} (B : BS sk D cy wd A0 p s m args c own cc nL) (hdg : decode cc pc = .ok (.astore j, 2)) (hn : (j) < nL) (hs : ∀ (i : Nat) (u : Value), lo'[i]? = some (some u) → (i = j ∧ u = .ref x) ∨ (i ≠ j ∧ lo[i]? = some (some u) ∧ (i + 1 = j → u.category = 1))) (k : AW p l e R s m args below meth c D wd A0 nL cells slots Q (pc + 2) (lo') (st) (M)) : AW p l e R s m args below meth c D wd A0 nL cells slots Q (pc) (lo) (.ref x :: st) (M) := by
  intro H locs ls hP hS hL
  exact lv_astore B.1.1 B.1.2.1 hdg hL hn rfl (fun ls hL2 => k H locs ls hP hS (lo_put hL2 hs))
theorem s_astore_nN {j : Fin 4} {lo' : List (Option Value)} (B : BS sk D cy wd A0 p s m args c own cc nL) (hdg : decode cc pc = .ok (.astore_n j, 1)) (hn : ((j : Nat)) < nL) (hs : ∀ (i : Nat) (u : Value), lo'[i]? = some (some u) → (i = (j : Nat) ∧ u = .null) ∨ (i ≠ (j : Nat) ∧ lo[i]? = some (some u) ∧ (i + 1 = (j : Nat) → u.category = 1))) (k : AW p l e R s m args below meth c D wd A0 nL cells slots Q (pc + 1) (lo') (st) (M)) : AW p l e R s m args below meth c D wd A0 nL cells slots Q (pc) (lo) (.null :: st) (M) := by
  intro H locs ls hP hS hL
  exact lv_astore_nN B.1.1 B.1.2.1 hdg rfl hL hn rfl (fun ls hL2 => k H locs ls hP hS (lo_put hL2 hs))
theorem s_astoreN {j : Nat} {lo' : List (Option Value)} (B : BS sk D cy wd A0 p s m args c own cc nL) (hdg : decode cc pc = .ok (.astore j, 2)) (hn : (j) < nL) (hs : ∀ (i : Nat) (u : Value), lo'[i]? = some (some u) → (i = j ∧ u = .null) ∨ (i ≠ j ∧ lo[i]? = some (some u) ∧ (i + 1 = j → u.category = 1))) (k : AW p l e R s m args below meth c D wd A0 nL cells slots Q (pc + 2) (lo') (st) (M)) : AW p l e R s m args below meth c D wd A0 nL cells slots Q (pc) (lo) (.null :: st) (M) := by
  intro H locs ls hP hS hL
  exact lv_astoreN B.1.1 B.1.2.1 hdg hL hn rfl (fun ls hL2 => k H locs ls hP hS (lo_put hL2 hs))
theorem s_lstore_n {j : Fin 4} {x : Int64} {lo' : List (Option Value)} (B : BS sk D cy wd A0 p s m args c own cc nL) (hdg : decode cc pc = .ok (.lstore_n j, 1)) (hn : ((j : Nat)) + 1 < nL) (hs : ∀ (i : Nat) (u : Value), lo'[i]? = some (some u) → (i = (j : Nat) ∧ u = .long x) ∨ (i ≠ (j : Nat) ∧ i ≠ (j : Nat) + 1 ∧ lo[i]? = some (some u) ∧ (i + 1 = (j : Nat) → u.category = 1))) (k : AW p l e R s m args below meth c D wd A0 nL cells slots Q (pc + 1) (lo') (st) (M)) : AW p l e R s m args below meth c D wd A0 nL cells slots Q (pc) (lo) (.long x :: st) (M) := by
  intro H locs ls hP hS hL
  exact lv_lstore_n B.1.1 B.1.2.1 hdg rfl hL hn rfl (fun ls hL2 => k H locs ls hP hS (lo_putL hL2 hs))
theorem s_lstore {j : Nat} {x : Int64} {lo' : List (Option Value)} (B : BS sk D cy wd A0 p s m args c own cc nL) (hdg : decode cc pc = .ok (.lstore j, 2)) (hn : (j) + 1 < nL) (hs : ∀ (i : Nat) (u : Value), lo'[i]? = some (some u) → (i = j ∧ u = .long x) ∨ (i ≠ j ∧ i ≠ j + 1 ∧ lo[i]? = some (some u) ∧ (i + 1 = j → u.category = 1))) (k : AW p l e R s m args below meth c D wd A0 nL cells slots Q (pc + 2) (lo') (st) (M)) : AW p l e R s m args below meth c D wd A0 nL cells slots Q (pc) (lo) (.long x :: st) (M) := by
  intro H locs ls hP hS hL
  exact lv_lstore B.1.1 B.1.2.1 hdg hL hn rfl (fun ls hL2 => k H locs ls hP hS (lo_putL hL2 hs))
theorem s_iinc {j : Nat} {n : Int} {x v : Int32} {lo' : List (Option Value)} (B : BS sk D cy wd A0 p s m args c own cc nL) (hdg : decode cc pc = .ok (.iinc j n, 3)) (hl : lo[j]? = some (some (.int x))) (hv : x + Int32.ofInt n = v) (hn : j < nL) (hs : ∀ (i : Nat) (u : Value), lo'[i]? = some (some u) → (i = j ∧ u = .int v) ∨ (i ≠ j ∧ lo[i]? = some (some u) ∧ (i + 1 = j → u.category = 1))) (k : AW p l e R s m args below meth c D wd A0 nL cells slots Q (pc + 3) (lo') (st) (M)) : AW p l e R s m args below meth c D wd A0 nL cells slots Q (pc) (lo) (st) (M) := by
  intro H locs ls hP hS hL
  obtain ⟨k0, hk0⟩ := List.getElem?_of_mem (lo2_mem lo 0 j _ hl)
  rw [Nat.zero_add] at hk0
  exact lv_iinc B.1.1 B.1.2.1 hdg hL hk0 hv hn rfl (fun ls hL2 => k H locs ls hP hS (lo_put hL2 hs))
theorem a_iadd {x y : Int32} (B : BS sk D cy wd A0 p s m args c own cc nL) (hdg : decode cc pc = .ok (.iadd, 1))  (k : AW p l e R s m args below meth c D wd A0 nL cells slots Q (pc + 1) (lo) (.int (x + y) :: st) (M)) : AW p l e R s m args below meth c D wd A0 nL cells slots Q (pc) (lo) (.int y :: .int x :: st) (M) := by
  intro H locs ls hP hS hL
  exact lv_iadd B.1.1 B.1.2.1 hdg (k H locs ls hP hS hL)
theorem a_isub {x y : Int32} (B : BS sk D cy wd A0 p s m args c own cc nL) (hdg : decode cc pc = .ok (.isub, 1))  (k : AW p l e R s m args below meth c D wd A0 nL cells slots Q (pc + 1) (lo) (.int (x - y) :: st) (M)) : AW p l e R s m args below meth c D wd A0 nL cells slots Q (pc) (lo) (.int y :: .int x :: st) (M) := by
  intro H locs ls hP hS hL
  exact lv_isub B.1.1 B.1.2.1 hdg (k H locs ls hP hS hL)
theorem a_imul {x y : Int32} (B : BS sk D cy wd A0 p s m args c own cc nL) (hdg : decode cc pc = .ok (.imul, 1))  (k : AW p l e R s m args below meth c D wd A0 nL cells slots Q (pc + 1) (lo) (.int (x * y) :: st) (M)) : AW p l e R s m args below meth c D wd A0 nL cells slots Q (pc) (lo) (.int y :: .int x :: st) (M) := by
  intro H locs ls hP hS hL
  exact lv_imul B.1.1 B.1.2.1 hdg (k H locs ls hP hS hL)
theorem a_iand {x y : Int32} (B : BS sk D cy wd A0 p s m args c own cc nL) (hdg : decode cc pc = .ok (.iand, 1))  (k : AW p l e R s m args below meth c D wd A0 nL cells slots Q (pc + 1) (lo) (.int (x &&& y) :: st) (M)) : AW p l e R s m args below meth c D wd A0 nL cells slots Q (pc) (lo) (.int y :: .int x :: st) (M) := by
  intro H locs ls hP hS hL
  exact lv_iand B.1.1 B.1.2.1 hdg (k H locs ls hP hS hL)
theorem a_ior {x y : Int32} (B : BS sk D cy wd A0 p s m args c own cc nL) (hdg : decode cc pc = .ok (.ior, 1))  (k : AW p l e R s m args below meth c D wd A0 nL cells slots Q (pc + 1) (lo) (.int (x ||| y) :: st) (M)) : AW p l e R s m args below meth c D wd A0 nL cells slots Q (pc) (lo) (.int y :: .int x :: st) (M) := by
  intro H locs ls hP hS hL
  exact lv_ior B.1.1 B.1.2.1 hdg (k H locs ls hP hS hL)
theorem a_ixor {x y : Int32} (B : BS sk D cy wd A0 p s m args c own cc nL) (hdg : decode cc pc = .ok (.ixor, 1))  (k : AW p l e R s m args below meth c D wd A0 nL cells slots Q (pc + 1) (lo) (.int (x ^^^ y) :: st) (M)) : AW p l e R s m args below meth c D wd A0 nL cells slots Q (pc) (lo) (.int y :: .int x :: st) (M) := by
  intro H locs ls hP hS hL
  exact lv_ixor B.1.1 B.1.2.1 hdg (k H locs ls hP hS hL)
theorem a_ishl {x y : Int32} (B : BS sk D cy wd A0 p s m args c own cc nL) (hdg : decode cc pc = .ok (.ishl, 1))  (k : AW p l e R s m args below meth c D wd A0 nL cells slots Q (pc + 1) (lo) (.int (x <<< (y &&& 31)) :: st) (M)) : AW p l e R s m args below meth c D wd A0 nL cells slots Q (pc) (lo) (.int y :: .int x :: st) (M) := by
  intro H locs ls hP hS hL
  exact lv_ishl B.1.1 B.1.2.1 hdg (k H locs ls hP hS hL)
theorem a_ishr {x y : Int32} (B : BS sk D cy wd A0 p s m args c own cc nL) (hdg : decode cc pc = .ok (.ishr, 1))  (k : AW p l e R s m args below meth c D wd A0 nL cells slots Q (pc + 1) (lo) (.int (x >>> (y &&& 31)) :: st) (M)) : AW p l e R s m args below meth c D wd A0 nL cells slots Q (pc) (lo) (.int y :: .int x :: st) (M) := by
  intro H locs ls hP hS hL
  exact lv_ishr B.1.1 B.1.2.1 hdg (k H locs ls hP hS hL)
theorem a_idiv {x y : Int32} (B : BS sk D cy wd A0 p s m args c own cc nL) (hdg : decode cc pc = .ok (.idiv, 1)) (hne : ¬ y = 0) (k : AW p l e R s m args below meth c D wd A0 nL cells slots Q (pc + 1) (lo) (.int (x / y) :: st) (M)) : AW p l e R s m args below meth c D wd A0 nL cells slots Q (pc) (lo) (.int y :: .int x :: st) (M) := by
  intro H locs ls hP hS hL
  exact lv_idiv B.1.1 B.1.2.1 hdg hne (k H locs ls hP hS hL)
theorem a_irem {x y : Int32} (B : BS sk D cy wd A0 p s m args c own cc nL) (hdg : decode cc pc = .ok (.irem, 1)) (hne : ¬ y = 0) (k : AW p l e R s m args below meth c D wd A0 nL cells slots Q (pc + 1) (lo) (.int (x - x / y * y) :: st) (M)) : AW p l e R s m args below meth c D wd A0 nL cells slots Q (pc) (lo) (.int y :: .int x :: st) (M) := by
  intro H locs ls hP hS hL
  exact lv_irem B.1.1 B.1.2.1 hdg hne (k H locs ls hP hS hL)
theorem a_iushr {x y : Int32} (B : BS sk D cy wd A0 p s m args c own cc nL) (hdg : decode cc pc = .ok (.iushr, 1))  (k : AW p l e R s m args below meth c D wd A0 nL cells slots Q (pc + 1) (lo) (.int (x.toUInt32 >>> (y.toUInt32 &&& Int32.toUInt32 31)).toInt32 :: st) (M)) : AW p l e R s m args below meth c D wd A0 nL cells slots Q (pc) (lo) (.int y :: .int x :: st) (M) := by
  intro H locs ls hP hS hL
  exact lv_iushr B.1.1 B.1.2.1 hdg rfl (k H locs ls hP hS hL)
theorem a_ladd {x y : Int64} (B : BS sk D cy wd A0 p s m args c own cc nL) (hdg : decode cc pc = .ok (.ladd, 1))  (k : AW p l e R s m args below meth c D wd A0 nL cells slots Q (pc + 1) (lo) (.long (x + y) :: st) (M)) : AW p l e R s m args below meth c D wd A0 nL cells slots Q (pc) (lo) (.long y :: .long x :: st) (M) := by
  intro H locs ls hP hS hL
  exact lv_ladd B.1.1 B.1.2.1 hdg (k H locs ls hP hS hL)
theorem a_lsub {x y : Int64} (B : BS sk D cy wd A0 p s m args c own cc nL) (hdg : decode cc pc = .ok (.lsub, 1))  (k : AW p l e R s m args below meth c D wd A0 nL cells slots Q (pc + 1) (lo) (.long (x - y) :: st) (M)) : AW p l e R s m args below meth c D wd A0 nL cells slots Q (pc) (lo) (.long y :: .long x :: st) (M) := by
  intro H locs ls hP hS hL
  exact lv_lsub B.1.1 B.1.2.1 hdg (k H locs ls hP hS hL)
theorem a_lmul {x y : Int64} (B : BS sk D cy wd A0 p s m args c own cc nL) (hdg : decode cc pc = .ok (.lmul, 1))  (k : AW p l e R s m args below meth c D wd A0 nL cells slots Q (pc + 1) (lo) (.long (x * y) :: st) (M)) : AW p l e R s m args below meth c D wd A0 nL cells slots Q (pc) (lo) (.long y :: .long x :: st) (M) := by
  intro H locs ls hP hS hL
  exact lv_lmul B.1.1 B.1.2.1 hdg (k H locs ls hP hS hL)
theorem a_land {x y : Int64} (B : BS sk D cy wd A0 p s m args c own cc nL) (hdg : decode cc pc = .ok (.land, 1))  (k : AW p l e R s m args below meth c D wd A0 nL cells slots Q (pc + 1) (lo) (.long (x &&& y) :: st) (M)) : AW p l e R s m args below meth c D wd A0 nL cells slots Q (pc) (lo) (.long y :: .long x :: st) (M) := by
  intro H locs ls hP hS hL
  exact lv_land B.1.1 B.1.2.1 hdg (k H locs ls hP hS hL)
theorem a_lor {x y : Int64} (B : BS sk D cy wd A0 p s m args c own cc nL) (hdg : decode cc pc = .ok (.lor, 1))  (k : AW p l e R s m args below meth c D wd A0 nL cells slots Q (pc + 1) (lo) (.long (x ||| y) :: st) (M)) : AW p l e R s m args below meth c D wd A0 nL cells slots Q (pc) (lo) (.long y :: .long x :: st) (M) := by
  intro H locs ls hP hS hL
  exact lv_lor B.1.1 B.1.2.1 hdg (k H locs ls hP hS hL)
theorem a_lshl {x : Int64} {y : Int32} (B : BS sk D cy wd A0 p s m args c own cc nL) (hdg : decode cc pc = .ok (.lshl, 1))  (k : AW p l e R s m args below meth c D wd A0 nL cells slots Q (pc + 1) (lo) (.long (x <<< (y.toInt64 &&& 63)) :: st) (M)) : AW p l e R s m args below meth c D wd A0 nL cells slots Q (pc) (lo) (.int y :: .long x :: st) (M) := by
  intro H locs ls hP hS hL
  exact lv_lshl B.1.1 B.1.2.1 hdg rfl (k H locs ls hP hS hL)
theorem a_lshr {x : Int64} {y : Int32} (B : BS sk D cy wd A0 p s m args c own cc nL) (hdg : decode cc pc = .ok (.lshr, 1))  (k : AW p l e R s m args below meth c D wd A0 nL cells slots Q (pc + 1) (lo) (.long (x >>> (y.toInt64 &&& 63)) :: st) (M)) : AW p l e R s m args below meth c D wd A0 nL cells slots Q (pc) (lo) (.int y :: .long x :: st) (M) := by
  intro H locs ls hP hS hL
  exact lv_lshr B.1.1 B.1.2.1 hdg rfl (k H locs ls hP hS hL)
theorem a_lcmp {x y : Int64} (B : BS sk D cy wd A0 p s m args c own cc nL) (hdg : decode cc pc = .ok (.lcmp, 1))  (k : AW p l e R s m args below meth c D wd A0 nL cells slots Q (pc + 1) (lo) (.int (lg_cmp x y) :: st) (M)) : AW p l e R s m args below meth c D wd A0 nL cells slots Q (pc) (lo) (.long y :: .long x :: st) (M) := by
  intro H locs ls hP hS hL
  exact W.lcmp B.1.1 B.1.2.1 hdg (k H locs ls hP hS hL)
theorem a_i2l {x : Int32} (B : BS sk D cy wd A0 p s m args c own cc nL) (hdg : decode cc pc = .ok (.i2l, 1))  (k : AW p l e R s m args below meth c D wd A0 nL cells slots Q (pc + 1) (lo) (.long x.toInt64 :: st) (M)) : AW p l e R s m args below meth c D wd A0 nL cells slots Q (pc) (lo) (.int x :: st) (M) := by
  intro H locs ls hP hS hL
  exact lv_i2l B.1.1 B.1.2.1 hdg rfl (k H locs ls hP hS hL)
theorem a_l2i {x : Int64} (B : BS sk D cy wd A0 p s m args c own cc nL) (hdg : decode cc pc = .ok (.l2i, 1))  (k : AW p l e R s m args below meth c D wd A0 nL cells slots Q (pc + 1) (lo) (.int x.toInt32 :: st) (M)) : AW p l e R s m args below meth c D wd A0 nL cells slots Q (pc) (lo) (.long x :: st) (M) := by
  intro H locs ls hP hS hL
  exact lv_l2i B.1.1 B.1.2.1 hdg rfl (k H locs ls hP hS hL)
theorem a_i2b {x : Int32} (B : BS sk D cy wd A0 p s m args c own cc nL) (hdg : decode cc pc = .ok (.i2b, 1))  (k : AW p l e R s m args below meth c D wd A0 nL cells slots Q (pc + 1) (lo) (.int x.toInt8.toInt32 :: st) (M)) : AW p l e R s m args below meth c D wd A0 nL cells slots Q (pc) (lo) (.int x :: st) (M) := by
  intro H locs ls hP hS hL
  exact lv_i2b B.1.1 B.1.2.1 hdg rfl (k H locs ls hP hS hL)
theorem a_i2s {x : Int32} (B : BS sk D cy wd A0 p s m args c own cc nL) (hdg : decode cc pc = .ok (.i2s, 1))  (k : AW p l e R s m args below meth c D wd A0 nL cells slots Q (pc + 1) (lo) (.int x.toInt16.toInt32 :: st) (M)) : AW p l e R s m args below meth c D wd A0 nL cells slots Q (pc) (lo) (.int x :: st) (M) := by
  intro H locs ls hP hS hL
  exact lv_i2s B.1.1 B.1.2.1 hdg rfl (k H locs ls hP hS hL)
theorem a_i2c {x v : Int32} (B : BS sk D cy wd A0 p s m args c own cc nL) (hdg : decode cc pc = .ok (.i2c, 1)) (hv : (x.toUInt32 % 65536).toInt32 = v) (k : AW p l e R s m args below meth c D wd A0 nL cells slots Q (pc + 1) (lo) (.int v :: st) (M)) : AW p l e R s m args below meth c D wd A0 nL cells slots Q (pc) (lo) (.int x :: st) (M) := by
  intro H locs ls hP hS hL
  exact lv_i2c B.1.1 B.1.2.1 hdg hv (k H locs ls hP hS hL)
theorem a_dup {v : Value} (B : BS sk D cy wd A0 p s m args c own cc nL) (hdg : decode cc pc = .ok (.dup, 1)) (hv : v.category = 1) (k : AW p l e R s m args below meth c D wd A0 nL cells slots Q (pc + 1) (lo) (v :: v :: st) (M)) : AW p l e R s m args below meth c D wd A0 nL cells slots Q (pc) (lo) (v :: st) (M) := by
  intro H locs ls hP hS hL
  exact lv_dup B.1.1 B.1.2.1 hdg hv (k H locs ls hP hS hL)
theorem a_pop {v : Value} (B : BS sk D cy wd A0 p s m args c own cc nL) (hdg : decode cc pc = .ok (.pop, 1)) (hv : v.category = 1) (k : AW p l e R s m args below meth c D wd A0 nL cells slots Q (pc + 1) (lo) (st) (M)) : AW p l e R s m args below meth c D wd A0 nL cells slots Q (pc) (lo) (v :: st) (M) := by
  intro H locs ls hP hS hL
  exact lv_pop B.1.1 B.1.2.1 hdg hv (k H locs ls hP hS hL)
theorem a_dup2 {u v : Value} (B : BS sk D cy wd A0 p s m args c own cc nL) (hdg : decode cc pc = .ok (.dup2, 1)) (hv : u.category = 1) (hu : v.category = 1) (k : AW p l e R s m args below meth c D wd A0 nL cells slots Q (pc + 1) (lo) (u :: v :: u :: v :: st) (M)) : AW p l e R s m args below meth c D wd A0 nL cells slots Q (pc) (lo) (u :: v :: st) (M) := by
  intro H locs ls hP hS hL
  exact lv_dup2_11 B.1.1 B.1.2.1 hdg hv hu (k H locs ls hP hS hL)
theorem a_icmp_eq {x y : Int32} {off : Int} (tgt : Nat) (B : BS sk D cy wd A0 p s m args c own cc nL) (hdg : decode cc pc = .ok (.if_icmp .eq off, 3)) (ht : (pc : Int) + off = (tgt : Int)) (kt : x = y → AW p l e R s m args below meth c D wd A0 nL cells slots Q (tgt) (lo) (st) (M)) (kf : ¬ x = y → AW p l e R s m args below meth c D wd A0 nL cells slots Q (pc + 3) (lo) (st) (M)) : AW p l e R s m args below meth c D wd A0 nL cells slots Q (pc) (lo) (.int y :: .int x :: st) (M) := by
  intro H locs ls hP hS hL
  exact lv_icmp_eq B.1.1 B.1.2.1 hdg ht (fun q => kt q H locs ls hP hS hL) (fun q => kf q H locs ls hP hS hL)
theorem a_if_eq {x : Int32} {off : Int} (tgt : Nat) (B : BS sk D cy wd A0 p s m args c own cc nL) (hdg : decode cc pc = .ok (.ifCond .eq off, 3)) (ht : (pc : Int) + off = (tgt : Int)) (kt : x = 0 → AW p l e R s m args below meth c D wd A0 nL cells slots Q (tgt) (lo) (st) (M)) (kf : ¬ x = 0 → AW p l e R s m args below meth c D wd A0 nL cells slots Q (pc + 3) (lo) (st) (M)) : AW p l e R s m args below meth c D wd A0 nL cells slots Q (pc) (lo) (.int x :: st) (M) := by
  intro H locs ls hP hS hL
  exact lv_if_eq B.1.1 B.1.2.1 hdg ht (fun q => kt q H locs ls hP hS hL) (fun q => kf q H locs ls hP hS hL)
theorem a_icmp_ne {x y : Int32} {off : Int} (tgt : Nat) (B : BS sk D cy wd A0 p s m args c own cc nL) (hdg : decode cc pc = .ok (.if_icmp .ne off, 3)) (ht : (pc : Int) + off = (tgt : Int)) (kt : ¬ x = y → AW p l e R s m args below meth c D wd A0 nL cells slots Q (tgt) (lo) (st) (M)) (kf : x = y → AW p l e R s m args below meth c D wd A0 nL cells slots Q (pc + 3) (lo) (st) (M)) : AW p l e R s m args below meth c D wd A0 nL cells slots Q (pc) (lo) (.int y :: .int x :: st) (M) := by
  intro H locs ls hP hS hL
  exact lv_icmp_ne B.1.1 B.1.2.1 hdg ht (fun q => kt q H locs ls hP hS hL) (fun q => kf q H locs ls hP hS hL)
theorem a_if_ne {x : Int32} {off : Int} (tgt : Nat) (B : BS sk D cy wd A0 p s m args c own cc nL) (hdg : decode cc pc = .ok (.ifCond .ne off, 3)) (ht : (pc : Int) + off = (tgt : Int)) (kt : ¬ x = 0 → AW p l e R s m args below meth c D wd A0 nL cells slots Q (tgt) (lo) (st) (M)) (kf : x = 0 → AW p l e R s m args below meth c D wd A0 nL cells slots Q (pc + 3) (lo) (st) (M)) : AW p l e R s m args below meth c D wd A0 nL cells slots Q (pc) (lo) (.int x :: st) (M) := by
  intro H locs ls hP hS hL
  exact lv_if_ne B.1.1 B.1.2.1 hdg ht (fun q => kt q H locs ls hP hS hL) (fun q => kf q H locs ls hP hS hL)
theorem a_icmp_lt {x y : Int32} {off : Int} (tgt : Nat) (B : BS sk D cy wd A0 p s m args c own cc nL) (hdg : decode cc pc = .ok (.if_icmp .lt off, 3)) (ht : (pc : Int) + off = (tgt : Int)) (kt : x < y → AW p l e R s m args below meth c D wd A0 nL cells slots Q (tgt) (lo) (st) (M)) (kf : ¬ x < y → AW p l e R s m args below meth c D wd A0 nL cells slots Q (pc + 3) (lo) (st) (M)) : AW p l e R s m args below meth c D wd A0 nL cells slots Q (pc) (lo) (.int y :: .int x :: st) (M) := by
  intro H locs ls hP hS hL
  exact lv_icmp_lt B.1.1 B.1.2.1 hdg ht (fun q => kt q H locs ls hP hS hL) (fun q => kf q H locs ls hP hS hL)
theorem a_if_lt {x : Int32} {off : Int} (tgt : Nat) (B : BS sk D cy wd A0 p s m args c own cc nL) (hdg : decode cc pc = .ok (.ifCond .lt off, 3)) (ht : (pc : Int) + off = (tgt : Int)) (kt : x < 0 → AW p l e R s m args below meth c D wd A0 nL cells slots Q (tgt) (lo) (st) (M)) (kf : ¬ x < 0 → AW p l e R s m args below meth c D wd A0 nL cells slots Q (pc + 3) (lo) (st) (M)) : AW p l e R s m args below meth c D wd A0 nL cells slots Q (pc) (lo) (.int x :: st) (M) := by
  intro H locs ls hP hS hL
  exact lv_if_lt B.1.1 B.1.2.1 hdg ht (fun q => kt q H locs ls hP hS hL) (fun q => kf q H locs ls hP hS hL)
theorem a_icmp_ge {x y : Int32} {off : Int} (tgt : Nat) (B : BS sk D cy wd A0 p s m args c own cc nL) (hdg : decode cc pc = .ok (.if_icmp .ge off, 3)) (ht : (pc : Int) + off = (tgt : Int)) (kt : y ≤ x → AW p l e R s m args below meth c D wd A0 nL cells slots Q (tgt) (lo) (st) (M)) (kf : ¬ y ≤ x → AW p l e R s m args below meth c D wd A0 nL cells slots Q (pc + 3) (lo) (st) (M)) : AW p l e R s m args below meth c D wd A0 nL cells slots Q (pc) (lo) (.int y :: .int x :: st) (M) := by
  intro H locs ls hP hS hL
  exact lv_icmp_ge B.1.1 B.1.2.1 hdg ht (fun q => kt q H locs ls hP hS hL) (fun q => kf q H locs ls hP hS hL)
theorem a_if_ge {x : Int32} {off : Int} (tgt : Nat) (B : BS sk D cy wd A0 p s m args c own cc nL) (hdg : decode cc pc = .ok (.ifCond .ge off, 3)) (ht : (pc : Int) + off = (tgt : Int)) (kt : 0 ≤ x → AW p l e R s m args below meth c D wd A0 nL cells slots Q (tgt) (lo) (st) (M)) (kf : ¬ 0 ≤ x → AW p l e R s m args below meth c D wd A0 nL cells slots Q (pc + 3) (lo) (st) (M)) : AW p l e R s m args below meth c D wd A0 nL cells slots Q (pc) (lo) (.int x :: st) (M) := by
  intro H locs ls hP hS hL
  exact lv_if_ge B.1.1 B.1.2.1 hdg ht (fun q => kt q H locs ls hP hS hL) (fun q => kf q H locs ls hP hS hL)
theorem a_icmp_gt {x y : Int32} {off : Int} (tgt : Nat) (B : BS sk D cy wd A0 p s m args c own cc nL) (hdg : decode cc pc = .ok (.if_icmp .gt off, 3)) (ht : (pc : Int) + off = (tgt : Int)) (kt : y < x → AW p l e R s m args below meth c D wd A0 nL cells slots Q (tgt) (lo) (st) (M)) (kf : ¬ y < x → AW p l e R s m args below meth c D wd A0 nL cells slots Q (pc + 3) (lo) (st) (M)) : AW p l e R s m args below meth c D wd A0 nL cells slots Q (pc) (lo) (.int y :: .int x :: st) (M) := by
  intro H locs ls hP hS hL
  exact lv_icmp_gt B.1.1 B.1.2.1 hdg ht (fun q => kt q H locs ls hP hS hL) (fun q => kf q H locs ls hP hS hL)
theorem a_if_gt {x : Int32} {off : Int} (tgt : Nat) (B : BS sk D cy wd A0 p s m args c own cc nL) (hdg : decode cc pc = .ok (.ifCond .gt off, 3)) (ht : (pc : Int) + off = (tgt : Int)) (kt : 0 < x → AW p l e R s m args below meth c D wd A0 nL cells slots Q (tgt) (lo) (st) (M)) (kf : ¬ 0 < x → AW p l e R s m args below meth c D wd A0 nL cells slots Q (pc + 3) (lo) (st) (M)) : AW p l e R s m args below meth c D wd A0 nL cells slots Q (pc) (lo) (.int x :: st) (M) := by
  intro H locs ls hP hS hL
  exact lv_if_gt B.1.1 B.1.2.1 hdg ht (fun q => kt q H locs ls hP hS hL) (fun q => kf q H locs ls hP hS hL)
theorem a_icmp_le {x y : Int32} {off : Int} (tgt : Nat) (B : BS sk D cy wd A0 p s m args c own cc nL) (hdg : decode cc pc = .ok (.if_icmp .le off, 3)) (ht : (pc : Int) + off = (tgt : Int)) (kt : x ≤ y → AW p l e R s m args below meth c D wd A0 nL cells slots Q (tgt) (lo) (st) (M)) (kf : ¬ x ≤ y → AW p l e R s m args below meth c D wd A0 nL cells slots Q (pc + 3) (lo) (st) (M)) : AW p l e R s m args below meth c D wd A0 nL cells slots Q (pc) (lo) (.int y :: .int x :: st) (M) := by
  intro H locs ls hP hS hL
  exact lv_icmp_le B.1.1 B.1.2.1 hdg ht (fun q => kt q H locs ls hP hS hL) (fun q => kf q H locs ls hP hS hL)
theorem a_if_le {x : Int32} {off : Int} (tgt : Nat) (B : BS sk D cy wd A0 p s m args c own cc nL) (hdg : decode cc pc = .ok (.ifCond .le off, 3)) (ht : (pc : Int) + off = (tgt : Int)) (kt : x ≤ 0 → AW p l e R s m args below meth c D wd A0 nL cells slots Q (tgt) (lo) (st) (M)) (kf : ¬ x ≤ 0 → AW p l e R s m args below meth c D wd A0 nL cells slots Q (pc + 3) (lo) (st) (M)) : AW p l e R s m args below meth c D wd A0 nL cells slots Q (pc) (lo) (.int x :: st) (M) := by
  intro H locs ls hP hS hL
  exact lv_if_le B.1.1 B.1.2.1 hdg ht (fun q => kt q H locs ls hP hS hL) (fun q => kf q H locs ls hP hS hL)
theorem a_goto {off : Int} (tgt : Nat) (B : BS sk D cy wd A0 p s m args c own cc nL) (hdg : decode cc pc = .ok (.goto off, 3)) (ht : (pc : Int) + off = (tgt : Int)) (k : AW p l e R s m args below meth c D wd A0 nL cells slots Q (tgt) (lo) (st) (M)) : AW p l e R s m args below meth c D wd A0 nL cells slots Q (pc) (lo) (st) (M) := by
  intro H locs ls hP hS hL
  exact lv_goto B.1.1 B.1.2.1 hdg ht (k H locs ls hP hS hL)
theorem a_ifnonnull {x : Nat} {off : Int} (tgt : Nat) (B : BS sk D cy wd A0 p s m args c own cc nL) (hdg : decode cc pc = .ok (.ifnonnull off, 3)) (ht : (pc : Int) + off = (tgt : Int)) (k : AW p l e R s m args below meth c D wd A0 nL cells slots Q (tgt) (lo) (st) (M)) : AW p l e R s m args below meth c D wd A0 nL cells slots Q (pc) (lo) (.ref x :: st) (M) := by
  intro H locs ls hP hS hL
  exact lv_ifnonnull B.1.1 B.1.2.1 hdg ht (k H locs ls hP hS hL)
theorem a_ifnull {x : Nat} {off : Int} (B : BS sk D cy wd A0 p s m args c own cc nL) (hdg : decode cc pc = .ok (.ifnull off, 3)) (k : AW p l e R s m args below meth c D wd A0 nL cells slots Q (pc + 3) (lo) (st) (M)) : AW p l e R s m args below meth c D wd A0 nL cells slots Q (pc) (lo) (.ref x :: st) (M) := by
  intro H locs ls hP hS hL
  exact lv_ifnull B.1.1 B.1.2.1 hdg (k H locs ls hP hS hL)
theorem a_ifnullN {off : Int} (tgt : Nat) (B : BS sk D cy wd A0 p s m args c own cc nL) (hdg : decode cc pc = .ok (.ifnull off, 3)) (ht : (pc : Int) + off = (tgt : Int)) (k : AW p l e R s m args below meth c D wd A0 nL cells slots Q (tgt) (lo) (st) (M)) : AW p l e R s m args below meth c D wd A0 nL cells slots Q (pc) (lo) (.null :: st) (M) := by
  intro H locs ls hP hS hL
  exact lv_ifnullN B.1.1 B.1.2.1 hdg ht (k H locs ls hP hS hL)
theorem a_ifnonnullN {off : Int} (B : BS sk D cy wd A0 p s m args c own cc nL) (hdg : decode cc pc = .ok (.ifnonnull off, 3)) (k : AW p l e R s m args below meth c D wd A0 nL cells slots Q (pc + 3) (lo) (st) (M)) : AW p l e R s m args below meth c D wd A0 nL cells slots Q (pc) (lo) (.null :: st) (M) := by
  intro H locs ls hP hS hL
  exact lv_ifnonnullN B.1.1 B.1.2.1 hdg (k H locs ls hP hS hL)
theorem a_tblOut {dflt low high : Int} {offs : Array Int} {len : Nat} {x : Int32} (tgt : Nat) (B : BS sk D cy wd A0 p s m args c own cc nL) (hdg : decode cc pc = .ok (.tableswitch dflt low high offs, len)) (h : x.toInt < low ∨ high < x.toInt) (ht : (pc : Int) + dflt = (tgt : Int)) (k : AW p l e R s m args below meth c D wd A0 nL cells slots Q (tgt) (lo) (st) (M)) : AW p l e R s m args below meth c D wd A0 nL cells slots Q (pc) (lo) (.int x :: st) (M) := by
  intro H locs ls hP hS hL
  exact lv_tableOut B.1.1 B.1.2.1 hdg h ht (k H locs ls hP hS hL)
theorem a_tblIn {dflt low high : Int} {offs : Array Int} {len : Nat} {x : Int32} {off : Int} (tgt : Nat) (B : BS sk D cy wd A0 p s m args c own cc nL) (hdg : decode cc pc = .ok (.tableswitch dflt low high offs, len)) (h1 : ¬ x.toInt < low) (h2 : ¬ high < x.toInt) (ho : offs[(x.toInt - low).toNat]? = some off) (ht : (pc : Int) + off = (tgt : Int)) (k : AW p l e R s m args below meth c D wd A0 nL cells slots Q (tgt) (lo) (st) (M)) : AW p l e R s m args below meth c D wd A0 nL cells slots Q (pc) (lo) (.int x :: st) (M) := by
  intro H locs ls hP hS hL
  exact lv_tableIn B.1.1 B.1.2.1 hdg h1 h2 ho ht (k H locs ls hP hS hL)
theorem a_lookup {dflt : Int} {ps : Array (Int × Int)} {len : Nat} {x : Int32} {off : Int} (tgt : Nat) (B : BS sk D cy wd A0 p s m args c own cc nL) (hdg : decode cc pc = .ok (.lookupswitch dflt ps, len)) (hp : (ps.toList.zip (ps.toList.drop 1)).all (fun (a, next) => a.1 < next.1) = true) (ho : Op.lookupswitch.offset ps.toList dflt x.toInt = off) (ht : (pc : Int) + off = (tgt : Int)) (k : AW p l e R s m args below meth c D wd A0 nL cells slots Q (tgt) (lo) (st) (M)) : AW p l e R s m args below meth c D wd A0 nL cells slots Q (pc) (lo) (.int x :: st) (M) := by
  intro H locs ls hP hS hL
  exact lv_lookup B.1.1 B.1.2.1 hdg hp ho ht (k H locs ls hP hS hL)
end AWS
