section R24

theorem lo_lt {a b : Nat} (ha : a < 2 ^ 63) (hb : b < 2 ^ 63) : Int64.ofNat a < Int64.ofNat b ↔ a < b := Int64.ofNat_lt_iff_lt ha hb
theorem lo_w {b : Nat} (hb : b < 2 ^ 63) : (100000000000000000 : Int64) < Int64.ofNat b ↔ 100000000000000000 < b := lo_lt (a := 100000000000000000) (by omega) hb
theorem lo_d {b : Nat} (hb : b < 2 ^ 63) : (9999 : Int64) < Int64.ofNat b ↔ 9999 < b := lo_lt (a := 9999) (by omega) hb
theorem lo_inj {a b : Nat} (ha : a < 2 ^ 63) (hb : b < 2 ^ 63) (h : Int64.ofNat a = Int64.ofNat b) : a = b := by
  rcases Nat.lt_trichotomy a b with q | q | q
  · exact (Int64.lt_irrefl (h ▸ (lo_lt ha hb).mpr q)).elim
  · exact q
  · exact (Int64.lt_irrefl (h ▸ (lo_lt hb ha).mpr q)).elim
theorem nI_toL {n : Nat} (h : n < 2 ^ 31) : (nI n).toInt64 = Int64.ofNat n := Int32.toInt64_ofNat' (by rw [Int32.toInt_maxValue]; omega)
def cL (x : Int32) : Nat := nn x - 96
theorem isL_n {x : Int32} (hx : isL x = true) : 1 ≤ cL x ∧ cL x ≤ 26 ∧ x = nI (cL x + 96) ∧ (letR x).toInt64 = Int64.ofNat (cL x) := by
  have hx2 := hx
  unfold isL at hx
  simp only [Bool.and_eq_true, Bool.not_eq_true', decide_eq_false_iff_not] at hx
  obtain ⟨b, hb, rfl⟩ : ∃ b, b < 2 ^ 31 ∧ x = nI b := nI_of (fun q => hx.1 (Int32.lt_trans q (by decide)))
  have h1 : 97 ≤ b := Nat.le_of_not_lt (fun q => hx.1 (nI_lt (b := 97) q (by omega)))
  have h2 : b ≤ 122 := Nat.le_of_not_lt (fun q => hx.2 (nI_lt (a := 122) q hb))
  have h3 : cL (nI b) = b - 96 := by unfold cL; rw [nn_nI hb]
  rw [h3]
  refine ⟨by omega, by omega, by rw [show b - 96 + 96 = b by omega], ?_⟩
  unfold letR
  rw [if_pos hx2, show (97 : Int32) = nI 97 from rfl, pk_sub h1, nI_1, nI_toL (by omega), show b - 97 + 1 = b - 96 by omega]
def vS (v x : Nat) : Nat := if 100000000000000000 < v then v else v * 27 + x
def vN (c : Nat → Nat) : Nat → Nat
  | 0 => 0
  | m + 1 => vS (vN c m) (c m)
theorem vN_le {c : Nat → Nat} : ∀ m, (∀ j, j < m → c j ≤ 26) → vN c m ≤ 2700000000000000026 := by
  intro m
  induction m with
  | zero => intro _; exact Nat.zero_le _
  | succ m ih =>
    intro h
    have h1 := ih (fun j hj => h j (by omega))
    have h2 := h m (by omega)
    rw [vN]
    unfold vS
    split <;> omega
theorem vN_inj {c c' : Nat → Nat} : ∀ n n', (∀ j, j < n → 1 ≤ c j ∧ c j ≤ 26) → (∀ j, j < n' → 1 ≤ c' j ∧ c' j ≤ 26) → vN c n ≤ 100000000000000000 → vN c n = vN c' n' → n = n' ∧ ∀ j, j < n → c j = c' j := by
  intro n
  induction n with
  | zero =>
    intro n' h h' hb he
    cases n' with
    | zero => exact ⟨rfl, fun j hj => absurd hj (by omega)⟩
    | succ n' =>
      exfalso
      have h2 := h' n' (by omega)
      rw [vN, vN] at he
      unfold vS at he
      split at he <;> omega
  | succ n ih =>
    intro n' h h' hb he
    have h2 := h n (by omega)
    have e1 : vN c (n + 1) = vN c n * 27 + c n := by
      rw [vN] at hb ⊢
      unfold vS at hb ⊢
      split at hb
      · omega
      · next q => rw [if_neg q]
    have b1 : vN c n ≤ 100000000000000000 := by omega
    cases n' with
    | zero =>
      exfalso
      rw [e1, vN] at he
      omega
    | succ n' =>
      have h3 := h' n' (by omega)
      have e2 : vN c' (n' + 1) = vN c' n' * 27 + c' n' := by
        have hb2 : vN c' (n' + 1) ≤ 100000000000000000 := by rw [← he]; exact hb
        rw [vN] at hb2 ⊢
        unfold vS at hb2 ⊢
        split at hb2
        · exfalso; omega
        · next q => rw [if_neg q]
      rw [e1, e2] at he
      obtain ⟨i1, i2⟩ := ih n' (fun j hj => h j (by omega)) (fun j hj => h' j (by omega)) b1 (by omega)
      refine ⟨by omega, fun j hj => ?_⟩
      rcases Nat.lt_or_ge j n with q | q
      · exact i2 j q
      · have : j = n := by omega
        subst this
        subst i1
        omega
theorem vN_cong {c c' : Nat → Nat} : ∀ m, (∀ j, j < m → c j = c' j) → vN c m = vN c' m := by
  intro m
  induction m with
  | zero => intro _; rfl
  | succ m ih => intro h; exact (congrArg (fun z => vS z (c m)) (ih (fun j hj => h j (by omega)))).trans (congrArg (vS (vN c' m)) (h m (by omega)))
theorem wv_run {g : Nat → Int32} {s : Nat} : ∀ f m, (∀ j, j < m → isL (g (s + j)) = true) → ∃ n, runN (fun k => isL (g k)) f (s + m) = s + n ∧ wvN g f (s + m) (Int64.ofNat (vN (fun j => cL (g (s + j))) m)) = Int64.ofNat (vN (fun j => cL (g (s + j))) n) ∧ ∀ j, j < n → isL (g (s + j)) = true := by
  intro f
  induction f with
  | zero => intro m h; exact ⟨m, rfl, rfl, h⟩
  | succ f ih =>
    intro m h
    cases hl : isL (g (s + m)) with
    | false => exact ⟨m, by rw [runN, if_neg (by rw [hl]; decide)], by rw [wvN, if_neg (by rw [hl]; decide)], h⟩
    | true =>
      have h' : ∀ j, j < m + 1 → isL (g (s + j)) = true := fun j hj => by
        rcases Nat.lt_or_ge j m with q | q
        · exact h j q
        · rw [show j = m by omega]; exact hl
      obtain ⟨n, h1, h2, h3⟩ := ih (m + 1) h'
      refine ⟨n, by rw [runN, if_pos hl]; exact h1, ?_, h3⟩
      rw [wvN, if_pos hl, ← h2]
      have hb := vN_le (c := fun j => cL (g (s + j))) m (fun j hj => (isL_n (h j hj)).2.1)
      have hc := isL_n hl
      show wvN g f (s + (m + 1)) _ = _
      refine congrArg _ ?_
      rw [vN, hc.2.2.2]
      unfold vS
      by_cases q : 100000000000000000 < vN (fun j => cL (g (s + j))) m
      · rw [if_pos q, if_pos ((lo_w (by omega)).mpr q)]
      · rw [if_neg q, if_neg (fun q2 => q ((lo_w (by omega)).mp q2)), Int64.ofNat_add, Int64.ofNat_mul]
        rfl
def wN (i : Nat) : Nat := vN (fun j => cL (sbN i j)) (slN i)
theorem wN_le : ∀ i, i < 13 → wN i ≤ 100000000000000000 := by decide +kernel
theorem sb_L : ∀ i, i < 13 → ∀ j, j < slN i → isL (sbN i j) = true := by decide +kernel
theorem allN_iff {P : Nat → Bool} {n : Nat} : allN P n = true ↔ ∀ k, k < n → P k = true := by
  constructor
  · exact all_at n
  · intro h
    induction n with
    | zero => rfl
    | succ n ih => rw [allN, ih (fun k hk => h k (by omega)), h n (by omega)]; rfl
theorem tok_w0 {g : Nat → Int32} {e : Nat} (h1 : tokT g e = 1) : ∃ n, tokE g e = tokS g e + n ∧ tokL g e = Int64.ofNat (vN (fun j => cL (g (tokS g e + j))) n) ∧ ∀ j, j < n → isL (g (tokS g e + j)) = true := by
  have hT : lxT g (lxS g e) = 1 := h1
  have hgL : ¬ g (lxS g e) < 0 ∧ isL (g (lxS g e)) = true := by
    unfold lxT at hT
    split at hT
    · exact absurd hT (by decide)
    · next q =>
      split at hT
      · next q2 => exact ⟨q, q2⟩
      · split at hT
        · exact absurd hT (by decide)
        · split at hT <;> exact absurd hT (by decide)
  obtain ⟨n, r1, r2, r3⟩ := wv_run (g := g) (s := tokS g e) (120 - tokS g e) 0 (fun j hj => absurd hj (by omega))
  rw [Nat.add_zero] at r1 r2
  rw [show Int64.ofNat (vN (fun j => cL (g (tokS g e + j))) 0) = 0 from rfl] at r2
  refine ⟨n, ?_, ?_, r3⟩
  · unfold tokE lxE
    rw [if_neg hgL.1, if_pos hgL.2]
    exact r1
  · unfold tokL
    rw [if_pos h1]
    exact r2
theorem tok_w {g : Nat → Int32} {e i : Nat} (hi : i < 13) (h1 : tokT g e = 1) : (tokL g e = Int64.ofNat (wN i)) ↔ (tokS g e + slN i = tokE g e ∧ ∀ j, j < slN i → g (tokS g e + j) = sbN i j) := by
  obtain ⟨n, hE, hL, r3⟩ := tok_w0 h1
  rw [hL, hE]
  have hb := vN_le (c := fun j => cL (g (tokS g e + j))) n (fun j hj => (isL_n (r3 j hj)).2.1)
  have hw := wN_le i hi
  constructor
  · intro he
    have he2 := lo_inj (Nat.lt_of_le_of_lt hb (by decide)) (Nat.lt_of_le_of_lt hw (by decide)) he
    obtain ⟨e1, e2⟩ := vN_inj n (slN i) (fun j hj => ⟨(isL_n (r3 j hj)).1, (isL_n (r3 j hj)).2.1⟩) (fun j hj => ⟨(isL_n (sb_L i hi j hj)).1, (isL_n (sb_L i hi j hj)).2.1⟩) (Nat.le_trans (Nat.le_of_eq he2) hw) he2
    refine ⟨by rw [e1], fun j hj => ?_⟩
    have e3 : cL (g (tokS g e + j)) = cL (sbN i j) := e2 j (by omega)
    rw [(isL_n (r3 j (by omega))).2.2.1, e3, ← (isL_n (sb_L i hi j hj)).2.2.1]
  · rintro ⟨e1, e2⟩
    have hn : n = slN i := by omega
    subst hn
    have key := vN_cong (c := fun j => cL (g (tokS g e + j))) (c' := fun j => cL (sbN i j)) (slN i) (fun j hj => congrArg cL (e2 j hj))
    rw [key]
    rfl
theorem tok_wb {g : Nat → Int32} {e i : Nat} (hi : i < 13) (h1 : tokT g e = 1) : decide (tokL g e = Int64.ofNat (wN i)) = (decide (tokS g e + slN i = tokE g e) && allN (fun j => decide (g (tokS g e + j) = sbN i j)) (slN i)) := by
  rw [Bool.eq_iff_iff, decide_eq_true_iff, Bool.and_eq_true, decide_eq_true_iff, allN_iff, tok_w hi h1]
  exact ⟨fun h => ⟨h.1, fun k hk => decide_eq_true (h.2 k hk)⟩, fun h => ⟨h.1, fun k hk => of_decide_eq_true (h.2 k hk)⟩⟩
def nrel (v : Int32) (x : Int64) : Prop := (∃ a, a ≤ 9999 ∧ v = nI a ∧ x = Int64.ofNat a) ∨ (v = nI 10000 ∧ ∃ b, 9999 < b ∧ b < 1000000 ∧ x = Int64.ofNat b)
theorem isD_n {x : Int32} (hx : isD x = true) : ∃ t, t ≤ 9 ∧ x = nI (48 + t) := by
  unfold isD at hx
  simp only [Bool.and_eq_true, Bool.not_eq_true', decide_eq_false_iff_not] at hx
  obtain ⟨b, hb, rfl⟩ : ∃ b, b < 2 ^ 31 ∧ x = nI b := nI_of (fun q => hx.1 (Int32.lt_trans q (by decide)))
  have h1 : 48 ≤ b := Nat.le_of_not_lt (fun q => hx.1 (nI_lt (b := 48) q (by omega)))
  have h2 : b ≤ 57 := Nat.le_of_not_lt (fun q => hx.2 (nI_lt (a := 57) q hb))
  exact ⟨b - 48, by omega, by rw [show 48 + (b - 48) = b by omega]⟩
theorem nrel_step {v c : Int32} {x : Int64} (h : nrel v x) (hc : isD c = true) : nrel (mnI (10 * v + c - 48) 10000) (if 9999 < x then x else x * 10 + c.toInt64 - 48) := by
  obtain ⟨t, ht, rfl⟩ := isD_n hc
  rcases h with ⟨a, ha, rfl, rfl⟩ | ⟨rfl, b, hb1, hb2, rfl⟩
  · rw [if_neg (fun q => by have := (lo_d (by omega)).mp q; omega)]
    rw [show (10 : Int32) = nI 10 from rfl, pk_mul, nI_add, show (48 : Int32) = nI 48 from rfl, pk_sub (by omega), nI_toL (by omega)]
    have e : Int64.ofNat a * 10 + Int64.ofNat (48 + t) - 48 = Int64.ofNat (a * 10 + t) := by
      rw [show a * 10 + t = a * 10 + (48 + t) - 48 by omega, Int64.ofNat_sub _ _ (by omega), Int64.ofNat_add (a * 10), Int64.ofNat_mul]
      rfl
    rw [e, show 10 * a + (48 + t) - 48 = 10 * a + t by omega]
    unfold mnI
    split
    · next q =>
      have q2 : 10000 < 10 * a + t := (nI_ltI (a := 10000) (by omega) (by omega)).mp q
      exact Or.inr ⟨rfl, a * 10 + t, by omega, by omega, rfl⟩
    · next q =>
      have q2 : 10 * a + t ≤ 10000 := Nat.le_of_not_lt (fun q2 => q (nI_lt (a := 10000) q2 (by omega)))
      by_cases q3 : 10 * a + t ≤ 9999
      · exact Or.inl ⟨10 * a + t, q3, rfl, by rw [Nat.mul_comm]⟩
      · exact Or.inr ⟨by rw [show 10 * a + t = 10000 by omega], a * 10 + t, by omega, by omega, rfl⟩
  · rw [if_pos ((lo_d (by omega)).mpr hb1)]
    refine Or.inr ⟨?_, b, hb1, hb2, rfl⟩
    rw [show (10 : Int32) = nI 10 from rfl, pk_mul, nI_add, show (48 : Int32) = nI 48 from rfl, pk_sub (by omega)]
    unfold mnI
    rw [if_pos (show (10000 : Int32) < nI (10 * 10000 + (48 + t) - 48) from nI_lt (a := 10000) (by omega) (by omega))]
    rfl
theorem nv_num {g : Nat → Int32} : ∀ f k v x, nrel v x → nrel (numN g f k v) (nvN g f k x) := by
  intro f
  induction f with
  | zero => intro k v x h; exact h
  | succ f ih =>
    intro k v x h
    rw [numN, nvN]
    cases hd : isD (g k) with
    | false => rw [if_neg (by decide), if_neg (by decide)]; exact h
    | true => rw [if_pos rfl, if_pos rfl]; exact ih _ _ _ (nrel_step h hd)
theorem tok_n {g : Nat → Int32} {e : Nat} (h2 : tokT g e = 2) : nrel (tokV g e) (tokL g e) := by
  unfold tokL
  rw [h2, if_neg (by decide), if_pos rfl]
  exact nv_num _ _ _ _ (Or.inl ⟨0, by omega, rfl, rfl⟩)
theorem nrel_gt {v : Int32} {x : Int64} {m : Nat} (hm : m ≤ 9999) (h : nrel v x) : (0 < lg_cmp x (nI m).toInt64) ↔ nI m < v := by
  rw [cmp_G, nI_toL (by omega)]
  rcases h with ⟨a, ha, rfl, rfl⟩ | ⟨rfl, b, hb1, hb2, rfl⟩
  · rw [lo_lt (by omega) (by omega)]
    exact (nI_ltI (by omega) (by omega)).symm
  · rw [lo_lt (by omega) (by omega)]
    exact ⟨fun _ => nI_lt (by omega) (by omega), fun _ => by omega⟩
theorem nrel_i {v : Int32} {x : Int64} {m : Nat} (hm : m ≤ 9999) (h : nrel v x) (h2 : ¬ nI m < v) : x.toInt32 = v := by
  rcases h with ⟨a, ha, rfl, rfl⟩ | ⟨rfl, b, hb1, hb2, rfl⟩
  · exact Int64.toInt32_ofNat'
  · exact absurd (nI_lt (by omega) (by omega)) h2

end R24
