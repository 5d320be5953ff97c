section PE6
theorem land_byte {u v p q : Nat} (hv : v < 256) (hq : q < 256) : (256 * u + v) &&& (256 * p + q) = 256 * (u &&& p) + (v &&& q) := by
  have hvq : v &&& q < 256 := Nat.lt_of_le_of_lt Nat.and_le_left hv
  apply Nat.eq_of_testBit_eq
  intro i
  rw [Nat.testBit_and, show (256 : Nat) = 2 ^ 8 from rfl, Nat.testBit_two_pow_mul_add _ hv, Nat.testBit_two_pow_mul_add _ hq, Nat.testBit_two_pow_mul_add _ hvq]
  split
  · rw [Nat.testBit_and]
  · rw [Nat.testBit_and]
def perM (m : Nat) : Prop := m = 256 * (m % 2 ^ 56) + m % 256
theorem land_per {m u v : Nat} (hm : perM m) (hu : u < 2 ^ 56) (hv : v < 256) : (256 * u + v) &&& m = 256 * (u &&& m) + (v &&& m) := by
  have e1 : u &&& m = u &&& (m % 2 ^ 56) := by
    apply Nat.eq_of_testBit_eq
    intro i
    rw [Nat.testBit_and, Nat.testBit_and, Nat.testBit_mod_two_pow]
    by_cases h : i < 56
    · simp [h]
    · rw [Nat.testBit_lt_two_pow (Nat.lt_of_lt_of_le hu (Nat.pow_le_pow_right (by omega) (by omega)))]; rfl
  have e2 : v &&& m = v &&& (m % 256) := by
    apply Nat.eq_of_testBit_eq
    intro i
    rw [Nat.testBit_and, Nat.testBit_and, show (256 : Nat) = 2 ^ 8 from rfl, Nat.testBit_mod_two_pow]
    by_cases h : i < 8
    · simp [h]
    · rw [Nat.testBit_lt_two_pow (Nat.lt_of_lt_of_le (show v < 2 ^ 8 from hv) (Nat.pow_le_pow_right (by omega) (by omega)))]; rfl
  rw [e1, e2]
  have := land_byte (u := u) (p := m % 2 ^ 56) hv (Nat.mod_lt m (show 0 < 256 by omega))
  rw [← hm] at this
  exact this
def pA (x : Nat) : Nat := x - (x / 2 &&& 6148914691236517205)
def pB (x : Nat) : Nat := (x &&& 3689348814741910323) + (x / 4 &&& 3689348814741910323)
def pC (x : Nat) : Nat := (x + x / 16) &&& 1085102592571150095
def vB : List Nat → Nat
  | [] => 0
  | b :: r => 256 * vB r + b
theorem vB_lt : ∀ L : List Nat, (∀ b ∈ L, b < 256) → vB L < 256 ^ L.length := by
  intro L
  induction L with
  | nil => intro _; exact Nat.one_pos
  | cons b r ih =>
    intro h
    have h1 := ih (fun x hx => h x (List.mem_cons_of_mem _ hx))
    have h2 := h b List.mem_cons_self
    rw [List.length_cons, Nat.pow_succ]
    show 256 * vB r + b < _
    omega
theorem vB_56 {L : List Nat} (h : ∀ b ∈ L, b < 256) (hl : L.length ≤ 7) : vB L < 2 ^ 56 := Nat.lt_of_lt_of_le (vB_lt L h) (by
  rw [show (2 : Nat) ^ 56 = 256 ^ 7 from rfl]
  exact Nat.pow_le_pow_right (by omega) hl)
theorem pA_b : ∀ b, b < 256 → pA b < 256 ∧ ∀ t, t < 2 → (t * 128 + b / 2) &&& 6148914691236517205 = b / 2 &&& 6148914691236517205 := by decide +kernel
theorem pB_b : ∀ b, b < 256 → pB b < 256 ∧ ∀ t, t < 4 → (t * 64 + b / 4) &&& 3689348814741910323 = b / 4 &&& 3689348814741910323 := by decide +kernel
theorem pAB_b : ∀ b, b < 256 → pB (pA b) % 16 ≤ 4 ∧ pB (pA b) / 16 ≤ 4 := by decide +kernel
theorem pC_b : ∀ b, b < 69 → pC b < 256 ∧ ∀ t, t < 5 → (b + b / 16 + 16 * t) &&& 1085102592571150095 = (b + b / 16) &&& 1085102592571150095 := by decide +kernel
theorem pA_v : ∀ L : List Nat, (∀ b ∈ L, b < 256) → L.length ≤ 8 → pA (vB L) = vB (L.map pA) := by
  intro L
  induction L with
  | nil => intro _ _; rfl
  | cons b r ih =>
    intro h hl
    have hb := h b List.mem_cons_self
    have hr := fun x hx => h x (List.mem_cons_of_mem b hx)
    rw [List.length_cons] at hl
    have i1 := ih hr (by omega)
    have h56 := vB_56 hr (by omega)
    obtain ⟨q1, q2⟩ := pA_b b hb
    show pA (256 * vB r + b) = 256 * vB (r.map pA) + pA b
    rw [← i1]
    unfold pA
    have e : (256 * vB r + b) / 2 = 256 * (vB r / 2) + (vB r % 2 * 128 + b / 2) := by omega
    rw [e, land_per (by unfold perM; decide) (by omega) (by omega), q2 _ (Nat.mod_lt _ (by omega))]
    have l1 : vB r / 2 &&& 6148914691236517205 ≤ vB r / 2 := Nat.and_le_left
    have l2 : b / 2 &&& 6148914691236517205 ≤ b / 2 := Nat.and_le_left
    omega
theorem pB_v : ∀ L : List Nat, (∀ b ∈ L, b < 256) → L.length ≤ 8 → pB (vB L) = vB (L.map pB) := by
  intro L
  induction L with
  | nil => intro _ _; rfl
  | cons b r ih =>
    intro h hl
    have hb := h b List.mem_cons_self
    have hr := fun x hx => h x (List.mem_cons_of_mem b hx)
    rw [List.length_cons] at hl
    have i1 := ih hr (by omega)
    have h56 := vB_56 hr (by omega)
    obtain ⟨q1, q2⟩ := pB_b b hb
    show pB (256 * vB r + b) = 256 * vB (r.map pB) + pB b
    rw [← i1]
    unfold pB
    have e : (256 * vB r + b) / 4 = 256 * (vB r / 4) + (vB r % 4 * 64 + b / 4) := by omega
    rw [e, land_per (u := vB r) (v := b) (m := 3689348814741910323) (by unfold perM; decide) h56 hb, land_per (u := vB r / 4) (m := 3689348814741910323) (by unfold perM; decide) (by omega) (by omega), q2 _ (Nat.mod_lt _ (by omega))]
    omega
theorem vB_m {L : List Nat} (h : ∀ b ∈ L, b % 16 ≤ 4) : vB L % 16 ≤ 4 := by
  cases L with
  | nil => exact Nat.zero_le _
  | cons b r =>
    have := h b List.mem_cons_self
    show (256 * vB r + b) % 16 ≤ 4
    omega
theorem pC_v : ∀ L : List Nat, (∀ b ∈ L, b % 16 ≤ 4 ∧ b / 16 ≤ 4) → L.length ≤ 8 → pC (vB L) = vB (L.map pC) := by
  intro L
  induction L with
  | nil => intro _ _; rfl
  | cons b r ih =>
    intro h hl
    have hb := h b List.mem_cons_self
    have hr := fun x hx => h x (List.mem_cons_of_mem b hx)
    have hr2 : ∀ x ∈ r, x < 256 := fun x hx => by have := hr x hx; omega
    rw [List.length_cons] at hl
    have i1 := ih hr (by omega)
    have h16 := vB_m (fun x hx => (hr x hx).1)
    obtain ⟨q1, q2⟩ := pC_b b (by omega)
    have hbd : vB r + vB r / 16 < 2 ^ 56 := by
      cases r with
      | nil => show 0 + 0 / 16 < 2 ^ 56; decide
      | cons b2 r2 =>
        have h8 := hr b2 List.mem_cons_self
        rw [List.length_cons] at hl
        have h48 : vB r2 < 2 ^ 48 := Nat.lt_of_lt_of_le (vB_lt r2 (fun x hx => hr2 x (List.mem_cons_of_mem _ hx))) (by
          rw [show (2 : Nat) ^ 48 = 256 ^ 6 from rfl]
          exact Nat.pow_le_pow_right (by omega) (by omega))
        have key : ∀ (S : List Nat), (∀ x ∈ S, x % 16 ≤ 4 ∧ x / 16 ≤ 4) → 255 * vB S + 68 ≤ 68 * 256 ^ S.length := by
          intro S
          induction S with
          | nil => intro _; exact Nat.le_refl _
          | cons z S ihS =>
            intro hS
            have := ihS (fun x hx => hS x (List.mem_cons_of_mem _ hx))
            have hz := hS z List.mem_cons_self
            rw [List.length_cons, Nat.pow_succ]
            show 255 * (256 * vB S + z) + 68 ≤ _
            omega
        have k1 := key (b2 :: r2) hr
        have k2 : 256 ^ (b2 :: r2).length ≤ 2 ^ 56 := by
          rw [show (2 : Nat) ^ 56 = 256 ^ 7 from rfl]
          exact Nat.pow_le_pow_right (by omega) (by rw [List.length_cons]; omega)
        omega
    show pC (256 * vB r + b) = 256 * vB (r.map pC) + pC b
    rw [← i1]
    unfold pC
    have e : 256 * vB r + b + (256 * vB r + b) / 16 = 256 * (vB r + vB r / 16) + (b + b / 16 + 16 * (vB r % 16)) := by omega
    rw [e, land_per (by unfold perM; decide) hbd (by omega), q2 _ (by omega)]

theorem ofN_and {a b : Nat} (ha : a < 2 ^ 64) (hb : b < 2 ^ 64) : Int64.ofNat a &&& Int64.ofNat b = Int64.ofNat (a &&& b) := by
  apply Int64.toBitVec_inj.mp
  apply BitVec.eq_of_toNat_eq
  show (BitVec.ofNat 64 a &&& BitVec.ofNat 64 b).toNat = (BitVec.ofNat 64 (a &&& b)).toNat
  rw [BitVec.toNat_and, BitVec.toNat_ofNat, BitVec.toNat_ofNat, BitVec.toNat_ofNat, Nat.mod_eq_of_lt ha, Nat.mod_eq_of_lt hb, Nat.mod_eq_of_lt (Nat.lt_of_le_of_lt Nat.and_le_left ha)]
theorem ofN_sh {a : Nat} (ha : a < 2 ^ 64) (n : Int32) (k : Nat) (hn : ((n.toInt64.toUInt64 &&& Int64.toUInt64 63).toBitVec.umod 64#64).toNat = k) : ulS (Int64.ofNat a) n = Int64.ofNat (a / 2 ^ k) := by
  apply Int64.toBitVec_inj.mp
  apply BitVec.eq_of_toNat_eq
  unfold ulS
  show ((BitVec.ofNat 64 a) >>> ((n.toInt64.toUInt64 &&& Int64.toUInt64 63).toBitVec.umod 64#64)).toNat = (BitVec.ofNat 64 (a / 2 ^ k)).toNat
  rw [BitVec.ushiftRight_eq', hn, BitVec.toNat_ushiftRight, BitVec.toNat_ofNat, BitVec.toNat_ofNat, Nat.mod_eq_of_lt ha, Nat.shiftRight_eq_div_pow, Nat.mod_eq_of_lt (Nat.lt_of_le_of_lt (Nat.div_le_self _ _) ha)]
theorem and127 (n : Nat) : Int32.ofNat n &&& 127 = Int32.ofNat (n % 128) := by
  apply Int32.toBitVec_inj.mp
  apply BitVec.eq_of_toNat_eq
  show (BitVec.ofNat 32 n &&& BitVec.ofNat 32 127).toNat = (BitVec.ofNat 32 (n % 128)).toNat
  rw [BitVec.toNat_and, BitVec.toNat_ofNat, BitVec.toNat_ofNat, BitVec.toNat_ofNat, show 127 % 2 ^ 32 = 2 ^ 7 - 1 from rfl, Nat.and_two_pow_sub_one_eq_mod]
  omega
theorem dv {A s d : Nat} (h : d = 256 * A + s) (hs : s < 256) : d / 256 = A := by omega
theorem lin8 {p q P Q s t : Nat} (h : p = 256 * P + s) (h2 : q = 256 * Q + t) : p + q = 256 * (P + Q) + (s + t) := by omega
theorem md8 {d A s : Nat} (h : d = 256 * A + s) (hs : s < 128) : d % 128 = s := by omega
theorem fold8 {v x1 x2 x3 x4 x5 x6 x7 c0 c1 c2 c3 c4 c5 c6 c7 : Nat} (e0 : v = 256 * x1 + c0) (e1 : x1 = 256 * x2 + c1) (e2 : x2 = 256 * x3 + c2) (e3 : x3 = 256 * x4 + c3) (e4 : x4 = 256 * x5 + c4) (e5 : x5 = 256 * x6 + c5) (e6 : x6 = 256 * x7 + c6) (e7 : x7 = 256 * 0 + c7)
    (k0 : c0 ≤ 8) (k1 : c1 ≤ 8) (k2 : c2 ≤ 8) (k3 : c3 ≤ 8) (k4 : c4 ≤ 8) (k5 : c5 ≤ 8) (k6 : c6 ≤ 8) (k7 : c7 ≤ 8) :
    v / 2 ^ 8 = x1 ∧ (v + x1) / 2 ^ 16 = x2 + x3 ∧ (v + x1 + (x2 + x3)) / 2 ^ 32 = x4 + x5 + (x6 + x7) ∧ (v + x1 + (x2 + x3) + (x4 + x5 + (x6 + x7))) % 128 = c0 + c1 + (c2 + c3) + (c4 + c5 + (c6 + c7)) := by
  have E0 := lin8 e0 e1
  have E1 := lin8 e1 e2
  have E2 := lin8 e2 e3
  have E3 := lin8 e3 e4
  have E4 := lin8 e4 e5
  have E5 := lin8 e5 e6
  have E6 := lin8 e6 e7
  have F0 := lin8 E0 E2
  have F1 := lin8 E1 E3
  have F2 := lin8 E2 E4
  have F3 := lin8 E3 E5
  have F4 := lin8 E4 E6
  have G0 := lin8 F0 F4
  clear E3 E5 E6
  have s0 : c0 < 256 := Nat.lt_of_le_of_lt k0 (by decide)
  have s1 : c0 + c1 < 256 := Nat.lt_of_le_of_lt (Nat.add_le_add k0 k1) (by decide)
  have s2 : c1 + c2 < 256 := Nat.lt_of_le_of_lt (Nat.add_le_add k1 k2) (by decide)
  have s3 : c0 + c1 + (c2 + c3) < 256 := Nat.lt_of_le_of_lt (Nat.add_le_add (Nat.add_le_add k0 k1) (Nat.add_le_add k2 k3)) (by decide)
  have s4 : c1 + c2 + (c3 + c4) < 256 := Nat.lt_of_le_of_lt (Nat.add_le_add (Nat.add_le_add k1 k2) (Nat.add_le_add k3 k4)) (by decide)
  have s5 : c2 + c3 + (c4 + c5) < 256 := Nat.lt_of_le_of_lt (Nat.add_le_add (Nat.add_le_add k2 k3) (Nat.add_le_add k4 k5)) (by decide)
  have s6 : c3 + c4 + (c5 + c6) < 256 := Nat.lt_of_le_of_lt (Nat.add_le_add (Nat.add_le_add k3 k4) (Nat.add_le_add k5 k6)) (by decide)
  have s7 : c0 + c1 + (c2 + c3) + (c4 + c5 + (c6 + c7)) < 128 := Nat.lt_of_le_of_lt (Nat.add_le_add (Nat.add_le_add (Nat.add_le_add k0 k1) (Nat.add_le_add k2 k3)) (Nat.add_le_add (Nat.add_le_add k4 k5) (Nat.add_le_add k6 k7))) (by decide)
  refine ⟨dv e0 s0, ?_, ?_, md8 G0 s7⟩
  · rw [show (2 : Nat) ^ 16 = 256 * 256 from rfl, ← Nat.div_div_eq_div_mul, dv E0 s1, dv E1 s2]
  · rw [show (2 : Nat) ^ 32 = 256 * 256 * 256 * 256 from rfl, ← Nat.div_div_eq_div_mul, ← Nat.div_div_eq_div_mul, ← Nat.div_div_eq_div_mul, dv F0 s3, dv F1 s4, dv F2 s5, dv F3 s6]
theorem fold_i {v x1 y z w : Nat} (h : v / 2 ^ 8 = x1 ∧ (v + x1) / 2 ^ 16 = y ∧ (v + x1 + y) / 2 ^ 32 = z ∧ (v + x1 + y + z) % 128 = w) (hv : v < 2 ^ 62) : (Int64.ofNat (v + v / 2 ^ 8) + ulS (Int64.ofNat (v + v / 2 ^ 8)) 16 + ulS (Int64.ofNat (v + v / 2 ^ 8) + ulS (Int64.ofNat (v + v / 2 ^ 8)) 16) 32).toInt32 &&& 127 = nI w := by
  obtain ⟨h1, h2, h3, h4⟩ := h
  have b1 : x1 ≤ v := by rw [← h1]; exact Nat.div_le_self _ _
  have b2 : y ≤ v + x1 := by rw [← h2]; exact Nat.div_le_self _ _
  rw [h1, ofN_sh (by omega) 16 16 (by decide), ← Int64.ofNat_add, h2, ofN_sh (by omega) 32 32 (by decide), ← Int64.ofNat_add, h3, Int64.toInt32_ofNat', and127, h4]
  rfl
/-- the count of the bits, over eight bytes -/
theorem bitL_v (b0 b1 b2 b3 b4 b5 b6 b7 : Nat) (h0 : b0 < 256) (h1 : b1 < 256) (h2 : b2 < 256) (h3 : b3 < 256) (h4 : b4 < 256) (h5 : b5 < 256) (h6 : b6 < 256) (h7 : b7 < 256) (hp : ∀ b, b < 256 → pC (pB (pA b)) ≤ 8) : bitL (Int64.ofNat (vB [b0, b1, b2, b3, b4, b5, b6, b7])) = nI (pC (pB (pA b0)) + pC (pB (pA b1)) + (pC (pB (pA b2)) + pC (pB (pA b3))) + (pC (pB (pA b4)) + pC (pB (pA b5)) + (pC (pB (pA b6)) + pC (pB (pA b7))))) := by
  have hL : ∀ b ∈ [b0, b1, b2, b3, b4, b5, b6, b7], b < 256 := by
    intro b hb
    simp only [List.mem_cons, List.not_mem_nil, or_false] at hb
    rcases hb with rfl | rfl | rfl | rfl | rfl | rfl | rfl | rfl <;> assumption
  generalize hLL : [b0, b1, b2, b3, b4, b5, b6, b7] = L at hL
  have hlen : L.length = 8 := by rw [← hLL]; rfl
  have x64 : vB L < 2 ^ 64 := by have := vB_lt L hL; rw [hlen] at this; exact this
  have hA : ∀ b ∈ L.map pA, b < 256 := fun b hb => by
    obtain ⟨z, hz, rfl⟩ := List.mem_map.mp hb
    exact (pA_b z (hL z hz)).1
  have hB : ∀ b ∈ (L.map pA).map pB, b % 16 ≤ 4 ∧ b / 16 ≤ 4 := fun b hb => by
    obtain ⟨z, hz, rfl⟩ := List.mem_map.mp hb
    obtain ⟨y, hy, rfl⟩ := List.mem_map.mp hz
    exact pAB_b y (hL y hy)
  have eA := pA_v L hL (by omega)
  have eB := pB_v (L.map pA) hA (by simp; omega)
  have eC := pC_v ((L.map pA).map pB) hB (by simp; omega)
  have a64 : pA (vB L) < 2 ^ 64 := by unfold pA; omega
  have b64 : pB (pA (vB L)) < 2 ^ 64 := by
    rw [eA, eB]
    have := vB_lt ((L.map pA).map pB) (fun x hx => by have := hB x hx; omega)
    simp only [List.length_map, hlen] at this
    exact this
  have c64 : pC (pB (pA (vB L))) < 2 ^ 64 := Nat.lt_of_le_of_lt Nat.and_le_right (by decide)
  have l1 : vB L / 2 &&& 6148914691236517205 ≤ vB L / 2 := Nat.and_le_left
  have s1 : Int64.ofNat (vB L) - (ulS (Int64.ofNat (vB L)) 1 &&& 6148914691236517205) = Int64.ofNat (pA (vB L)) := by
    rw [ofN_sh x64 1 1 (by decide), show (6148914691236517205 : Int64) = Int64.ofNat 6148914691236517205 from rfl, ofN_and (by omega) (by decide)]
    unfold pA
    rw [Int64.ofNat_sub _ _ (by omega)]
  have s2 : (Int64.ofNat (pA (vB L)) &&& 3689348814741910323) + (ulS (Int64.ofNat (pA (vB L))) 2 &&& 3689348814741910323) = Int64.ofNat (pB (pA (vB L))) := by
    rw [ofN_sh a64 2 2 (by decide), show (3689348814741910323 : Int64) = Int64.ofNat 3689348814741910323 from rfl, ofN_and a64 (by decide), ofN_and (by omega) (by decide)]
    unfold pB
    rw [Int64.ofNat_add]
  have s3 : (Int64.ofNat (pB (pA (vB L))) + ulS (Int64.ofNat (pB (pA (vB L)))) 4) &&& 1085102592571150095 = Int64.ofNat (pC (pB (pA (vB L)))) := by
    have hb2 : pB (pA (vB L)) + pB (pA (vB L)) / 16 < 2 ^ 64 := by
      unfold pB at b64 ⊢
      have q1 : pA (vB L) &&& 3689348814741910323 ≤ 3689348814741910323 := Nat.and_le_right
      have q2 : pA (vB L) / 4 &&& 3689348814741910323 ≤ 3689348814741910323 := Nat.and_le_right
      omega
    rw [ofN_sh b64 4 4 (by decide), show (1085102592571150095 : Int64) = Int64.ofNat 1085102592571150095 from rfl, ← Int64.ofNat_add, ofN_and hb2 (by decide)]
    rfl
  unfold bitL
  simp only [s1, s2, s3]
  rw [ofN_sh c64 8 8 (by decide), ← Int64.ofNat_add]
  have eV : pC (pB (pA (vB L))) = vB [pC (pB (pA b0)), pC (pB (pA b1)), pC (pB (pA b2)), pC (pB (pA b3)), pC (pB (pA b4)), pC (pB (pA b5)), pC (pB (pA b6)), pC (pB (pA b7))] := by
    rw [eA, eB, eC, ← hLL]
    rfl
  rw [eV]
  have k0 := hp b0 h0; have k1 := hp b1 h1; have k2 := hp b2 h2; have k3 := hp b3 h3; have k4 := hp b4 h4; have k5 := hp b5 h5; have k6 := hp b6 h6; have k7 := hp b7 h7
  generalize pC (pB (pA b0)) = c0 at *
  generalize pC (pB (pA b1)) = c1 at *
  generalize pC (pB (pA b2)) = c2 at *
  generalize pC (pB (pA b3)) = c3 at *
  generalize pC (pB (pA b4)) = c4 at *
  generalize pC (pB (pA b5)) = c5 at *
  generalize pC (pB (pA b6)) = c6 at *
  generalize pC (pB (pA b7)) = c7 at *
  have ef := fold8 (v := vB [c0, c1, c2, c3, c4, c5, c6, c7]) (x1 := vB [c1, c2, c3, c4, c5, c6, c7]) (x2 := vB [c2, c3, c4, c5, c6, c7]) (x3 := vB [c3, c4, c5, c6, c7]) (x4 := vB [c4, c5, c6, c7]) (x5 := vB [c5, c6, c7]) (x6 := vB [c6, c7]) (x7 := vB [c7]) rfl rfl rfl rfl rfl rfl rfl rfl k0 k1 k2 k3 k4 k5 k6 k7
  have hl : ∀ S : List Nat, (∀ x ∈ S, x < 256) → S.length ≤ 8 → vB S < 2 ^ 64 := fun S h1 h2 => Nat.lt_of_lt_of_le (vB_lt S h1) (by
    rw [show (2 : Nat) ^ 64 = 256 ^ 8 from rfl]
    exact Nat.pow_le_pow_right (by decide) h2)
  exact fold_i ef (by rw [← eV]; exact Nat.lt_of_le_of_lt Nat.and_le_right (by decide))
theorem pop8 : ∀ a b c d e f g h : Bool, pC (pB (pA (a.toNat + 2 * b.toNat + 4 * c.toNat + 8 * d.toNat + 16 * e.toNat + 32 * f.toNat + 64 * g.toNat + 128 * h.toNat))) = a.toNat + b.toNat + c.toNat + d.toNat + e.toNat + f.toNat + g.toNat + h.toNat := by decide +kernel
theorem pop_le : ∀ b, b < 256 → pC (pB (pA b)) ≤ 8 := by decide +kernel
def mskN (P : Nat → Bool) : Nat → Nat
  | 0 => 0
  | k + 1 => mskN P k + 2 ^ k * (P k).toNat
theorem mskN_lt {P : Nat → Bool} : ∀ k, mskN P k < 2 ^ k := by
  intro k
  induction k with
  | zero => exact Nat.one_pos
  | succ k ih =>
    rw [mskN, Nat.pow_succ]
    have : (P k).toNat ≤ 1 := Bool.toNat_le _
    have h2 : 2 ^ k * (P k).toNat ≤ 2 ^ k * 1 := Nat.mul_le_mul_left _ this
    omega
theorem sh_one : ∀ k, k < 41 → (1 : Int64) <<< ((nI k).toInt64 &&& 63) = Int64.ofNat (2 ^ k) := by decide +kernel
theorem ofN_or {a b : Nat} (ha : a < 2 ^ 63) (hb : b < 2 ^ 63) : Int64.ofNat a ||| Int64.ofNat b = Int64.ofNat (a ||| b) := by
  apply Int64.toBitVec_inj.mp
  apply BitVec.eq_of_toNat_eq
  show (BitVec.ofNat 64 a ||| BitVec.ofNat 64 b).toNat = (BitVec.ofNat 64 (a ||| b)).toNat
  rw [BitVec.toNat_or, BitVec.toNat_ofNat, BitVec.toNat_ofNat, BitVec.toNat_ofNat, Nat.mod_eq_of_lt (by omega), Nat.mod_eq_of_lt (by omega), Nat.mod_eq_of_lt (Nat.lt_trans (Nat.or_lt_two_pow ha hb) (by decide))]
theorem msk_n {P : Nat → Bool} : ∀ k, k ≤ 41 → mskL P k = Int64.ofNat (mskN P k) := by
  intro k
  induction k with
  | zero => intro _; rfl
  | succ k ih =>
    intro hk
    rw [mskL, mskN, ih (by omega)]
    have h41 : mskN P k < 2 ^ 63 := Nat.lt_of_lt_of_le (mskN_lt k) (Nat.pow_le_pow_right (by omega) (by omega))
    have h2 : 2 ^ k < 2 ^ 63 := Nat.pow_lt_pow_right (by omega) (by omega)
    cases hp : P k with
    | false => rw [if_neg (by decide)]; simp
    | true =>
      rw [if_pos rfl, sh_one k (by omega), ofN_or h41 h2]
      have := Nat.two_pow_add_eq_or_of_lt (mskN_lt (P := P) k) 1
      rw [Nat.mul_one] at this
      rw [Nat.or_comm, ← this]
      simp [Nat.add_comm]
theorem cnt_n {P : Nat → Bool} : ∀ k, cntN P k = nI (Nat.rec 0 (fun j s => s + (P j).toNat) k) := by
  intro k
  induction k with
  | zero => rfl
  | succ k ih =>
    rw [cntN, ih]
    cases hp : P k with
    | false => show nI _ + 0 = nI (_ + (P k).toNat); rw [hp]; exact Int32.add_zero _
    | true => show nI _ + nI 1 = nI (_ + (P k).toNat); rw [hp, nI_add]; rfl

theorem lin41 (e0 e1 e2 e3 e4 e5 e6 e7 e8 e9 e10 e11 e12 e13 e14 e15 e16 e17 e18 e19 e20 e21 e22 e23 e24 e25 e26 e27 e28 e29 e30 e31 e32 e33 e34 e35 e36 e37 e38 e39 e40 : Nat) : (((((((((((((((((((((((((((((((((((((((((0 + 2 ^ 0 * e0) + 2 ^ 1 * e1) + 2 ^ 2 * e2) + 2 ^ 3 * e3) + 2 ^ 4 * e4) + 2 ^ 5 * e5) + 2 ^ 6 * e6) + 2 ^ 7 * e7) + 2 ^ 8 * e8) + 2 ^ 9 * e9) + 2 ^ 10 * e10) + 2 ^ 11 * e11) + 2 ^ 12 * e12) + 2 ^ 13 * e13) + 2 ^ 14 * e14) + 2 ^ 15 * e15) + 2 ^ 16 * e16) + 2 ^ 17 * e17) + 2 ^ 18 * e18) + 2 ^ 19 * e19) + 2 ^ 20 * e20) + 2 ^ 21 * e21) + 2 ^ 22 * e22) + 2 ^ 23 * e23) + 2 ^ 24 * e24) + 2 ^ 25 * e25) + 2 ^ 26 * e26) + 2 ^ 27 * e27) + 2 ^ 28 * e28) + 2 ^ 29 * e29) + 2 ^ 30 * e30) + 2 ^ 31 * e31) + 2 ^ 32 * e32) + 2 ^ 33 * e33) + 2 ^ 34 * e34) + 2 ^ 35 * e35) + 2 ^ 36 * e36) + 2 ^ 37 * e37) + 2 ^ 38 * e38) + 2 ^ 39 * e39) + 2 ^ 40 * e40) = 256 * (256 * (256 * (256 * (256 * (e40) + (e32 + 2 * e33 + 4 * e34 + 8 * e35 + 16 * e36 + 32 * e37 + 64 * e38 + 128 * e39)) + (e24 + 2 * e25 + 4 * e26 + 8 * e27 + 16 * e28 + 32 * e29 + 64 * e30 + 128 * e31)) + (e16 + 2 * e17 + 4 * e18 + 8 * e19 + 16 * e20 + 32 * e21 + 64 * e22 + 128 * e23)) + (e8 + 2 * e9 + 4 * e10 + 8 * e11 + 16 * e12 + 32 * e13 + 64 * e14 + 128 * e15)) + (e0 + 2 * e1 + 4 * e2 + 8 * e3 + 16 * e4 + 32 * e5 + 64 * e6 + 128 * e7) := by
  simp only [Nat.reducePow]
  omega

theorem sum41 (e0 e1 e2 e3 e4 e5 e6 e7 e8 e9 e10 e11 e12 e13 e14 e15 e16 e17 e18 e19 e20 e21 e22 e23 e24 e25 e26 e27 e28 e29 e30 e31 e32 e33 e34 e35 e36 e37 e38 e39 e40 : Nat) : (((((((((((((((((((((((((((((((((((((((((0 + e0) + e1) + e2) + e3) + e4) + e5) + e6) + e7) + e8) + e9) + e10) + e11) + e12) + e13) + e14) + e15) + e16) + e17) + e18) + e19) + e20) + e21) + e22) + e23) + e24) + e25) + e26) + e27) + e28) + e29) + e30) + e31) + e32) + e33) + e34) + e35) + e36) + e37) + e38) + e39) + e40) = (e0 + e1 + e2 + e3 + e4 + e5 + e6 + e7) + (e8 + e9 + e10 + e11 + e12 + e13 + e14 + e15) + ((e16 + e17 + e18 + e19 + e20 + e21 + e22 + e23) + (e24 + e25 + e26 + e27 + e28 + e29 + e30 + e31)) + ((e32 + e33 + e34 + e35 + e36 + e37 + e38 + e39) + e40 + (0 + 0)) := by omega
theorem byte_lt (a b c d e f g h : Bool) : a.toNat + 2 * b.toNat + 4 * c.toNat + 8 * d.toNat + 16 * e.toNat + 32 * f.toNat + 64 * g.toNat + 128 * h.toNat < 256 := by
  revert a b c d e f g h
  decide +kernel
theorem pop1 (a : Bool) : pC (pB (pA a.toNat)) = a.toNat ∧ a.toNat < 256 := by
  revert a
  decide +kernel
theorem pop0 : pC (pB (pA 0)) = 0 := by decide +kernel
theorem bit_c (P : Nat → Bool) : bitL (mskL P 41) = cntN P 41 := by
  rw [msk_n 41 (Nat.le_refl _), cnt_n]
  have e : mskN P 41 = vB [(P 0).toNat + 2 * (P 1).toNat + 4 * (P 2).toNat + 8 * (P 3).toNat + 16 * (P 4).toNat + 32 * (P 5).toNat + 64 * (P 6).toNat + 128 * (P 7).toNat, (P 8).toNat + 2 * (P 9).toNat + 4 * (P 10).toNat + 8 * (P 11).toNat + 16 * (P 12).toNat + 32 * (P 13).toNat + 64 * (P 14).toNat + 128 * (P 15).toNat, (P 16).toNat + 2 * (P 17).toNat + 4 * (P 18).toNat + 8 * (P 19).toNat + 16 * (P 20).toNat + 32 * (P 21).toNat + 64 * (P 22).toNat + 128 * (P 23).toNat, (P 24).toNat + 2 * (P 25).toNat + 4 * (P 26).toNat + 8 * (P 27).toNat + 16 * (P 28).toNat + 32 * (P 29).toNat + 64 * (P 30).toNat + 128 * (P 31).toNat, (P 32).toNat + 2 * (P 33).toNat + 4 * (P 34).toNat + 8 * (P 35).toNat + 16 * (P 36).toNat + 32 * (P 37).toNat + 64 * (P 38).toNat + 128 * (P 39).toNat, (P 40).toNat, 0, 0] := by
    have h := lin41 ((P 0).toNat) ((P 1).toNat) ((P 2).toNat) ((P 3).toNat) ((P 4).toNat) ((P 5).toNat) ((P 6).toNat) ((P 7).toNat) ((P 8).toNat) ((P 9).toNat) ((P 10).toNat) ((P 11).toNat) ((P 12).toNat) ((P 13).toNat) ((P 14).toNat) ((P 15).toNat) ((P 16).toNat) ((P 17).toNat) ((P 18).toNat) ((P 19).toNat) ((P 20).toNat) ((P 21).toNat) ((P 22).toNat) ((P 23).toNat) ((P 24).toNat) ((P 25).toNat) ((P 26).toNat) ((P 27).toNat) ((P 28).toNat) ((P 29).toNat) ((P 30).toNat) ((P 31).toNat) ((P 32).toNat) ((P 33).toNat) ((P 34).toNat) ((P 35).toNat) ((P 36).toNat) ((P 37).toNat) ((P 38).toNat) ((P 39).toNat) ((P 40).toNat)
    show mskN P 41 = 256 * (256 * (256 * (256 * (256 * (256 * (256 * (256 * 0 + 0) + 0) + (P 40).toNat) + ((P 32).toNat + 2 * (P 33).toNat + 4 * (P 34).toNat + 8 * (P 35).toNat + 16 * (P 36).toNat + 32 * (P 37).toNat + 64 * (P 38).toNat + 128 * (P 39).toNat)) + ((P 24).toNat + 2 * (P 25).toNat + 4 * (P 26).toNat + 8 * (P 27).toNat + 16 * (P 28).toNat + 32 * (P 29).toNat + 64 * (P 30).toNat + 128 * (P 31).toNat)) + ((P 16).toNat + 2 * (P 17).toNat + 4 * (P 18).toNat + 8 * (P 19).toNat + 16 * (P 20).toNat + 32 * (P 21).toNat + 64 * (P 22).toNat + 128 * (P 23).toNat)) + ((P 8).toNat + 2 * (P 9).toNat + 4 * (P 10).toNat + 8 * (P 11).toNat + 16 * (P 12).toNat + 32 * (P 13).toNat + 64 * (P 14).toNat + 128 * (P 15).toNat)) + ((P 0).toNat + 2 * (P 1).toNat + 4 * (P 2).toNat + 8 * (P 3).toNat + 16 * (P 4).toNat + 32 * (P 5).toNat + 64 * (P 6).toNat + 128 * (P 7).toNat)
    rw [show 256 * (256 * (256 * 0 + 0) + 0) + (P 40).toNat = (P 40).toNat from Nat.zero_add _]
    exact h
  rw [e, bitL_v _ _ _ _ _ _ _ _ (byte_lt _ _ _ _ _ _ _ _) (byte_lt _ _ _ _ _ _ _ _) (byte_lt _ _ _ _ _ _ _ _) (byte_lt _ _ _ _ _ _ _ _) (byte_lt _ _ _ _ _ _ _ _) (pop1 _).2 (by decide) (by decide) pop_le, pop8, pop8, pop8, pop8, pop8, (pop1 _).1, pop0]
  exact congrArg nI (sum41 ((P 0).toNat) ((P 1).toNat) ((P 2).toNat) ((P 3).toNat) ((P 4).toNat) ((P 5).toNat) ((P 6).toNat) ((P 7).toNat) ((P 8).toNat) ((P 9).toNat) ((P 10).toNat) ((P 11).toNat) ((P 12).toNat) ((P 13).toNat) ((P 14).toNat) ((P 15).toNat) ((P 16).toNat) ((P 17).toNat) ((P 18).toNat) ((P 19).toNat) ((P 20).toNat) ((P 21).toNat) ((P 22).toNat) ((P 23).toNat) ((P 24).toNat) ((P 25).toNat) ((P 26).toNat) ((P 27).toNat) ((P 28).toNat) ((P 29).toNat) ((P 30).toNat) ((P 31).toNat) ((P 32).toNat) ((P 33).toNat) ((P 34).toNat) ((P 35).toNat) ((P 36).toNat) ((P 37).toNat) ((P 38).toNat) ((P 39).toNat) ((P 40).toNat)).symm

theorem mskN_bit {P : Nat → Bool} : ∀ K j, (mskN P K).testBit j = (decide (j < K) && P j) := by
  intro K
  induction K with
  | zero => intro j; rw [mskN, Nat.zero_testBit]; simp
  | succ K ih =>
    intro j
    rw [mskN, Nat.add_comm, Nat.testBit_two_pow_mul_add _ (mskN_lt K)]
    by_cases h : j < K
    · rw [if_pos h, ih j, decide_eq_true h, decide_eq_true (show j < K + 1 by omega)]
    · rw [if_neg h]
      by_cases h2 : j = K
      · subst h2
        rw [Nat.sub_self, decide_eq_true (show j < j + 1 by omega)]
        cases P j <;> rfl
      · rw [decide_eq_false (show ¬ j < K + 1 by omega)]
        have : ∀ b : Bool, ∀ n, 0 < n → b.toNat.testBit n = false := by
          intro b n hn
          exact Nat.testBit_lt_two_pow (Nat.lt_of_lt_of_le (show b.toNat < 2 ^ 1 from by cases b <;> decide) (Nat.pow_le_pow_right (by omega) hn))
        rw [this _ _ (by omega)]
        rfl
theorem sh_k : ∀ k, k < 41 → (((nI k).toInt64 &&& 63).toBitVec.smod 64).toNat = k := by decide +kernel
theorem ofN_ar {a k : Nat} (ha : a < 2 ^ 63) (hk : k < 41) : Int64.ofNat a >>> ((nI k).toInt64 &&& 63) = Int64.ofNat (a / 2 ^ k) := by
  apply Int64.toBitVec_inj.mp
  apply BitVec.eq_of_toNat_eq
  show (BitVec.sshiftRight' (BitVec.ofNat 64 a) (((nI k).toInt64 &&& 63).toBitVec.smod 64)).toNat = (BitVec.ofNat 64 (a / 2 ^ k)).toNat
  have hm : (BitVec.ofNat 64 a).msb = false := by
    rw [BitVec.msb_eq_decide, BitVec.toNat_ofNat, Nat.mod_eq_of_lt (by omega)]
    exact decide_eq_false (by omega)
  rw [BitVec.sshiftRight', sh_k k hk, BitVec.sshiftRight_eq_of_msb_false hm, BitVec.toNat_ushiftRight, BitVec.toNat_ofNat, BitVec.toNat_ofNat, Nat.mod_eq_of_lt (by omega), Nat.shiftRight_eq_div_pow, Nat.mod_eq_of_lt (Nat.lt_of_le_of_lt (Nat.div_le_self _ _) (by omega))]
theorem mbit_c (P : Nat → Bool) {k : Nat} (hk : k < 41) : mbit (mskL P 41) k = P k := by
  have h41 : mskN P 41 < 2 ^ 63 := Nat.lt_of_lt_of_le (mskN_lt 41) (by decide)
  have hd : mskN P 41 / 2 ^ k < 2 ^ 63 := Nat.lt_of_le_of_lt (Nat.div_le_self _ _) h41
  have hb := mskN_bit (P := P) 41 k
  rw [decide_eq_true hk, Bool.true_and, Nat.testBit_eq_decide_div_mod_eq] at hb
  unfold mbit
  rw [msk_n 41 (Nat.le_refl _), ofN_ar h41 hk, show (1 : Int64) = Int64.ofNat 1 from rfl, ofN_and (by omega) (by decide), Nat.and_one_is_mod]
  rw [← hb]
  by_cases c : mskN P 41 / 2 ^ k % 2 = 1
  · rw [c, decide_eq_true (show (1 : Nat) = 1 from rfl)]
    rfl
  · have c0 : mskN P 41 / 2 ^ k % 2 = 0 := by omega
    rw [c0]
    rfl

theorem bv_bits (x : BitVec 32) (k : Nat) (hk : k + 8 ≤ 32) : (x >>> k).setWidth 8 = (x.sshiftRight k).setWidth 8 := by
  apply BitVec.eq_of_getLsbD_eq
  intro i hi
  simp only [BitVec.getLsbD_setWidth, BitVec.getLsbD_ushiftRight, BitVec.getLsbD_sshiftRight, hi]
  have h1 : ¬ 32 ≤ i := by omega
  have h2 : k + i < 32 := by omega
  simp [h1, h2]
theorem bv_k (num : Int32) (k : Nat) (hk : k + 8 ≤ 32) (n u : _) (hu : (u : UInt32).toBitVec.toNat = k) (hn : ((n : Int32).toBitVec.smod 32).toNat = k) : ((num.toUInt32 >>> u).toInt32).toInt8 = (num >>> n).toInt8 := by
  apply Int8.toBitVec_inj.mp
  have e1 : ((num.toUInt32 >>> u).toInt32).toBitVec = num.toBitVec >>> k := by
    show num.toBitVec >>> (u.toBitVec.umod 32#32) = _
    rw [BitVec.ushiftRight_eq', show (u.toBitVec.umod 32#32).toNat = k from by rw [BitVec.umod_eq, BitVec.toNat_umod, hu]; exact Nat.mod_eq_of_lt (show k < 32 by omega)]
  have e2 : (num >>> n).toBitVec = num.toBitVec.sshiftRight k := by
    show num.toBitVec.sshiftRight' (n.toBitVec.smod 32) = _
    rw [BitVec.sshiftRight', hn]
  show ((num.toUInt32 >>> u).toInt32).toBitVec.signExtend 8 = (num >>> n).toBitVec.signExtend 8
  rw [e1, e2, BitVec.signExtend_eq_setWidth_of_le _ (by omega), BitVec.signExtend_eq_setWidth_of_le _ (by omega)]
  exact bv_bits _ k hk
theorem bv_e (num : Int32) : ∀ j, j < 4 → bv num j = bvR num j := by
  intro j hj
  unfold bv bvR
  refine congrArg Int8.toInt32 ?_
  rcases (show j = 0 ∨ j = 1 ∨ j = 2 ∨ j = 3 by omega) with rfl | rfl | rfl | rfl
  · exact bv_k num 0 (by omega) _ _ (by decide) (by decide)
  · exact bv_k num 8 (by omega) _ _ (by decide) (by decide)
  · exact bv_k num 16 (by omega) _ _ (by decide) (by decide)
  · exact bv_k num 24 (by omega) _ _ (by decide) (by decide)
theorem and_or (s t u : Int32) : s &&& ((t ||| u) ^^^ (-1)) = (s &&& (t ^^^ (-1))) &&& (u ^^^ (-1)) := by
  apply Int32.toBitVec_inj.mp
  simp only [Int32.toBitVec_and, Int32.toBitVec_or, Int32.toBitVec_xor]
  apply BitVec.eq_of_getLsbD_eq
  intro i hi
  have h1 : (-1 : Int32).toBitVec = BitVec.allOnes 32 := rfl
  rw [h1]
  simp only [BitVec.getLsbD_and, BitVec.getLsbD_or, BitVec.getLsbD_xor, BitVec.getLsbD_allOnes, hi, decide_true]
  cases s.toBitVec.getLsbD i <;> cases t.toBitVec.getLsbD i <;> cases u.toBitVec.getLsbD i <;> rfl
theorem and_m1 (s : Int32) : s &&& (-1) = s := by
  apply Int32.toBitVec_inj.mp
  rw [Int32.toBitVec_and, show (-1 : Int32).toBitVec = BitVec.allOnes 32 from rfl, BitVec.and_allOnes]
theorem i8 (x : Int8) : ∃ n, n < 256 ∧ x = Int8.ofNat n := ⟨x.toBitVec.toNat, x.toBitVec.isLt, by
  apply Int8.toBitVec_inj.mp
  apply BitVec.eq_of_toNat_eq
  show _ = (BitVec.ofNat 8 _).toNat
  rw [BitVec.toNat_ofNat]
  exact (Nat.mod_eq_of_lt x.toBitVec.isLt).symm⟩

theorem cnt_cong {P Q : Nat → Bool} : ∀ n, (∀ k, k < n → P k = Q k) → cntN P n = cntN Q n := by
  intro n
  induction n with
  | zero => intro _; rfl
  | succ n ih => intro h; rw [cntN, cntN, ih (fun k hk => h k (by omega)), h n (by omega)]
theorem fit_g1 {P Q : Nat → Bool} (h : ∀ k, k < 41 → P k = Q k) : bitL (mskL P 41) = cntN Q 41 := (bit_c P).trans (cnt_cong 41 h)
theorem fit_g2 {P Q : Nat → Bool} (h : ∀ k, k < 41 → P k = Q k) : fstN (mbit (mskL P 41)) 41 = fstN Q 41 := fst_cong 41 (fun k hk => (mbit_c P hk).trans (h k hk))
theorem fit_g {P Q : Nat → Bool} (h : ∀ k, k < 41 → P k = Q k) : bitL (mskL P 41) = cntN Q 41 ∧ fstN (mbit (mskL P 41)) 41 = fstN Q 41 := ⟨fit_g1 h, fit_g2 h⟩
theorem q_fit {Mc Mr : Mem} (h : Rel Mc Mr) (s v : Int32) : fitX Mc s v = fitR Mr s v ∧ wrdX Mc s v = wrdR Mr s v := by
  obtain ⟨e, hw⟩ := q_why h s v
  unfold fitX fitR wrdX wrdR
  rw [← e]
  cases hy : whyX Mc s v with
  | some k => exact ⟨rfl, rfl⟩
  | none =>
    obtain ⟨h1, h2, h3⟩ := hw hy
    obtain ⟨z1, z2, z3, z4⟩ := h.szN h1
    have hq : ∀ k, k < 41 → fitP Mc s v k = fiQR Mr s v k := fun k hk => by
      unfold fitP fiQR
      rw [z1]
      exact fitq_c h.1 h2 hk (fun j hj => h.tl h1 (by omega))
    obtain ⟨g1, g2⟩ := fit_g hq
    exact ⟨congrArg Sum.inl g1, congrArg nS g2⟩
-- the tape
theorem ap_c {num : Int32} : ∀ c L (q q' : Dm), c ≤ 4 → (∀ k, k < L → q k = q' k) → ∀ k, k < L + c → apQ q L num c k = apQR q' L num c k := by
  intro c
  induction c with
  | zero => intro L q q' _ h k hk; exact h k hk
  | succ c ih =>
    intro L q q' hc h k hk
    rw [apQ, apQR, bv_e num c (by omega)]
    refine ih (L + 1) _ _ (by omega) (fun j hj => ?_) k (by omega)
    by_cases e : j = L
    · subst e; rw [pk_us, pk_us]
    · rw [pk_un e, pk_un e]; exact h j (by omega)
theorem ap_by {num : Int32} : ∀ c L (q : Dm), (∀ k, k < L → ∃ n, n < 256 ∧ q k = (Int8.ofNat n).toInt32) → ∀ k, k < L + c → ∃ n, n < 256 ∧ apQR q L num c k = (Int8.ofNat n).toInt32 := by
  intro c
  induction c with
  | zero => intro L q h k hk; exact h k hk
  | succ c ih =>
    intro L q h k hk
    rw [apQR]
    refine ih (L + 1) _ (fun j hj => ?_) k (by omega)
    by_cases e : j = L
    · subst e
      rw [pk_us]
      obtain ⟨n, hn, en⟩ := i8 (num >>> (8 * nI c &&& 31)).toInt8
      exact ⟨n, hn, by unfold bvR; rw [en]⟩
    · rw [pk_un e]; exact h j (by omega)
theorem q_fee {Mc Mr : Mem} (h : Rel Mc Mr) (num n : Int32) : (feeX Mc num n).1 = (feeR Mr num n).1 ∧ ∀ r, (feeX Mc num n).1 = .inl r → Rel (feeX Mc num n).2 (feeR Mr num n).2 := by
  have eL : tapeL Mc = tapR Mr := by unfold tapeL tapR; rw [h.2.2.2.1.2.1]
  unfold feeX feeR
  rw [eL]
  by_cases c1 : n < 1
  · rw [if_pos c1, if_neg (by unfold bt; rw [decide_eq_true c1]; exact Bool.false_ne_true)]; exact ⟨rfl, fun r hr => by cases hr⟩
  rw [if_neg c1]
  by_cases c2 : 4 < n
  · rw [if_pos c2, if_neg (by unfold bt; rw [decide_eq_true c2, Bool.not_true, Bool.and_false]; exact Bool.false_ne_true)]; exact ⟨rfl, fun r hr => by cases hr⟩
  rw [if_neg c2, if_pos (show bt n 1 4 = true by unfold bt; rw [decide_eq_false c1, decide_eq_false c2]; rfl)]
  by_cases c3 : tapR Mr + nn n ≤ 120
  · rw [if_pos c3, if_pos c3]
    refine ⟨rfl, fun r _ => ?_⟩
    show Rel (apM Mc (tapR Mr) num (nn n)) (apMR Mr (tapR Mr) num (nn n))
    have hn4 : nn n ≤ 4 := by
      obtain ⟨k, hk, rfl⟩ := nI_of (fun q => c1 (Int32.lt_trans q (by decide)))
      rw [nn_nI hk]
      exact Nat.le_of_not_lt (fun q => c2 (nI_lt (a := 4) q hk))
    obtain ⟨h1, h2, h3, ⟨⟨t1, t2, t3⟩, t4, t5⟩, h5, h6⟩ := h
    unfold apM apMR
    have et : tapR (stB (stB Mr 5 (apQR (Mr 5) (tapR Mr) num (nn n))) 10 (upd (Mr 10) 1 (nI (tapR Mr + nn n)))) = tapR Mr + nn n := by
      unfold tapR
      rw [stB_at, pk_us]
      exact nn_nI (by have : nn (Mr 10 1) + nn n ≤ 120 := c3; omega)
    refine ⟨?_, ?_, ?_, ?_, fun t ht => ?_, fun k hk => ?_⟩
    · rw [stB_ne (by decide), stB_ne (by decide), stB_ne (by decide), stB_ne (by decide)]; exact h1
    · rw [stB_ne (by decide), stB_ne (by decide)]; exact h2
    · unfold imR
      rw [stB_at, stB_ne (show (1 : Nat) ≠ 4 by decide), stB_ne (show (1 : Nat) ≠ 5 by decide), stB_ne (show (3 : Nat) ≠ 4 by decide), stB_ne (show (3 : Nat) ≠ 5 by decide), stB_ne (show (3 : Nat) ≠ 10 by decide), stB_ne (show (3 : Nat) ≠ 5 by decide), pk_un (by decide)]
      exact h3
    · unfold tpR tpOk
      rw [et, stB_at, stB_at, stB_ne (show (5 : Nat) ≠ 10 by decide), stB_at, stB_ne (show (5 : Nat) ≠ 4 by decide), stB_at, pk_us, pk_us]
      exact ⟨⟨c3, rfl, fun k hk => ap_by (nn n) (tapR Mr) (Mr 5) t3 k hk⟩, rfl, fun k hk => ap_c (nn n) (tapR Mr) (Mc 5) (Mr 5) hn4 t5 k hk⟩
    · unfold shR
      rw [stB_ne (show 7 + t ≠ 4 by omega), stB_ne (show 7 + t ≠ 5 by omega), stB_ne (show (6 : Nat) ≠ 10 by decide), stB_ne (show (6 : Nat) ≠ 5 by decide), stB_ne (show (7 : Nat) ≠ 10 by decide), stB_ne (show (7 : Nat) ≠ 5 by decide), stB_ne (show (8 : Nat) ≠ 10 by decide), stB_ne (show (8 : Nat) ≠ 5 by decide)]
      exact h5 t ht
    · rw [stB_ne (show (6 : Nat) ≠ 4 by decide), stB_ne (show (6 : Nat) ≠ 5 by decide), stB_ne (show (4 : Nat) ≠ 10 by decide), stB_ne (show (4 : Nat) ≠ 5 by decide)]; exact h6 k hk
  · rw [if_neg c3, if_neg c3]; exact ⟨rfl, fun r hr => by cases hr⟩
-- the fewest
theorem fst_sat {P : Nat → Bool} : ∀ n k, fstN P n = some k → P k = true := by
  intro n
  induction n with
  | zero => intro k h; cases h
  | succ n ih =>
    intro k h
    rw [fstN] at h
    cases hf : fstN P n with
    | some q => rw [hf] at h; injection h with h; subst h; exact ih _ hf
    | none =>
      rw [hf] at h
      simp only at h
      split at h
      · next q => injection h with h; subst h; exact q
      · cases h
theorem fst2_some {Q : Nat → Nat → Bool} {m : Nat} : ∀ K g, fst2 Q m K = some g → ∃ s, s < K ∧ fstN (Q s) m = some g ∧ ∀ s', s' < s → fstN (Q s') m = none := by
  intro K
  induction K with
  | zero => intro g h; cases h
  | succ K ih =>
    intro g h
    rw [fst2] at h
    cases hf : fst2 Q m K with
    | some q =>
      rw [hf] at h
      injection h with h
      subst h
      obtain ⟨s, s1, s2, s3⟩ := ih _ hf
      exact ⟨s, by omega, s2, s3⟩
    | none =>
      rw [hf] at h
      simp only at h
      refine ⟨K, by omega, h, ?_⟩
      have key : ∀ k, fst2 Q m k = none → ∀ s', s' < k → fstN (Q s') m = none := by
        intro k
        induction k with
        | zero => intro _ s' hs; omega
        | succ k ihk =>
          intro hk s' hs
          rw [fst2] at hk
          cases hg : fst2 Q m k with
          | some q => rw [hg] at hk; cases hk
          | none =>
            rw [hg] at hk
            simp only at hk
            rcases Nat.lt_or_ge s' k with z | z
            · exact ihk hg s' z
            · rw [show s' = k by omega]; exact hk
      exact key K hf
theorem fst2_none {Q : Nat → Nat → Bool} {m : Nat} : ∀ k, fst2 Q m k = none → ∀ s', s' < k → fstN (Q s') m = none := by
  intro k
  induction k with
  | zero => intro _ s' hs; omega
  | succ k ihk =>
    intro hk s' hs
    rw [fst2] at hk
    cases hg : fst2 Q m k with
    | some q => rw [hg] at hk; cases hk
    | none =>
      rw [hg] at hk
      simp only at hk
      rcases Nat.lt_or_ge s' k with z | z
      · exact ihk hg s' z
      · rw [show s' = k by omega]; exact hk
def wg (g : Nat) : Nat := nn (onesF (nI g))
theorem wg_ok : ∀ g, g < 256 → onesF (nI g) = nI (wg g) ∧ wg g ≤ 8 := by decide +kernel
theorem wg_N : ∀ n, n < 9 → ∀ g, g < 2 ^ n → wg g ≤ n := by decide +kernel
theorem min_spec {T : Nat → Bool} : ∀ m, m ≤ 256 → (∀ g, minN T m = some g → g < m ∧ T g = true ∧ ∀ j, j < m → T j = true → wg g < wg j ∨ (wg g = wg j ∧ g ≤ j)) ∧ (minN T m = none → ∀ j, j < m → T j = false) := by
  intro m
  induction m with
  | zero => intro _; exact ⟨fun g h => (by cases h), fun _ j hj => (by omega)⟩
  | succ m ih =>
    intro hm
    obtain ⟨i1, i2⟩ := ih (by omega)
    rw [minN]
    cases hb : minN T m with
    | none =>
      have hn := i2 hb
      simp only
      by_cases hT : T m = true
      · rw [if_pos hT]
        refine ⟨fun g h => ?_, fun h => (by cases h)⟩
        injection h with h
        subst h
        refine ⟨by omega, hT, fun j hj hTj => ?_⟩
        rcases Nat.lt_or_ge j m with z | z
        · rw [hn j z] at hTj; cases hTj
        · have : j = m := by omega
          subst this
          exact Or.inr ⟨rfl, Nat.le_refl _⟩
      · rw [if_neg hT]
        refine ⟨fun g h => (by cases h), fun _ j hj => ?_⟩
        rcases Nat.lt_or_ge j m with z | z
        · exact hn j z
        · rw [show j = m by omega]; exact Bool.not_eq_true _ ▸ hT
    | some b =>
      obtain ⟨b1, b2, b3⟩ := i1 b hb
      have ew : decide (onesF (nI m) < onesF (nI b)) = decide (wg m < wg b) := by
        obtain ⟨e1, l1⟩ := wg_ok m (by omega)
        obtain ⟨e2, l2⟩ := wg_ok b (by omega)
        rw [e1, e2, decide_eq_decide]
        exact nI_ltI (by omega) (by omega)
      simp only
      rw [ew]
      by_cases hT : (T m && decide (wg m < wg b)) = true
      · rw [if_pos hT]
        rw [Bool.and_eq_true, decide_eq_true_iff] at hT
        refine ⟨fun g h => ?_, fun h => (by cases h)⟩
        injection h with h
        subst h
        refine ⟨by omega, hT.1, fun j hj hTj => ?_⟩
        rcases Nat.lt_or_ge j m with z | z
        · rcases b3 j z hTj with q | q
          · exact Or.inl (by omega)
          · exact Or.inl (by omega)
        · have : j = m := by omega
          subst this
          exact Or.inr ⟨rfl, Nat.le_refl _⟩
      · rw [if_neg hT]
        rw [Bool.and_eq_true, decide_eq_true_iff] at hT
        refine ⟨fun g h => ?_, fun h => (by cases h)⟩
        injection h with h
        subst h
        refine ⟨by omega, b2, fun j hj hTj => ?_⟩
        rcases Nat.lt_or_ge j m with z | z
        · exact b3 j z hTj
        · have : j = m := by omega
          subst this
          have hw : ¬ wg j < wg b := fun q => hT ⟨hTj, q⟩
          rcases Nat.lt_or_ge (wg b) (wg j) with y | y
          · exact Or.inl y
          · exact Or.inr ⟨by omega, by omega⟩
/-- by number and then by place, or by place with what is fewer: the same -/
theorem few_min {T : Nat → Bool} {N : Nat} (hN : N ≤ 8) : fst2 (fun s g => decide (bitc (nI g) = nI s) && T g) (2 ^ N) (N + 1) = minN T (2 ^ N) := by
  have h256 : 2 ^ N ≤ 256 := Nat.pow_le_pow_right (n := 2) (by omega) hN
  have hbit : ∀ g s, g < 2 ^ N → s ≤ 8 → (bitc (nI g) = nI s ↔ wg g = s) := by
    intro g s hg hs
    obtain ⟨e1, l1⟩ := wg_ok g (by omega)
    rw [bitc_onesB g (by omega), e1]
    exact ⟨fun q => nI_inj (by omega) (by omega) q, fun q => by rw [q]⟩
  obtain ⟨m1, m2⟩ := min_spec (T := T) (2 ^ N) h256
  cases hf : fst2 (fun s g => decide (bitc (nI g) = nI s) && T g) (2 ^ N) (N + 1) with
  | none =>
    have hn := fst2_none _ hf
    cases hm : minN T (2 ^ N) with
    | none => rfl
    | some g =>
      exfalso
      obtain ⟨g1, g2, g3⟩ := m1 g hm
      have hw := wg_N N (by omega) g g1
      have := fst_none _ (hn (wg g) (by omega)) g g1
      rw [decide_eq_true ((hbit g (wg g) g1 (by omega)).mpr rfl), g2] at this
      cases this
  | some g =>
    obtain ⟨s, s1, s2, s3⟩ := fst2_some _ _ hf
    have hg := fst_lt _ _ s2
    have hs := fst_sat _ _ s2
    have hmin := fst_min _ _ s2
    simp only [Bool.and_eq_true, decide_eq_true_eq] at hs
    have ws := (hbit g s hg (by omega)).mp hs.1
    cases hm : minN T (2 ^ N) with
    | none => have := m2 hm g hg; rw [hs.2] at this; cases this
    | some b =>
      obtain ⟨b1, b2, b3⟩ := m1 b hm
      congr 1
      have hwb := wg_N N (by omega) b b1
      have c1 : ¬ wg b < s := by
        intro q
        have := fst_none _ (s3 (wg b) q) b b1
        rw [decide_eq_true ((hbit b (wg b) b1 (by omega)).mpr rfl), b2] at this
        cases this
      rcases b3 g hg hs.2 with q | ⟨q1, q2⟩
      · omega
      · rcases Nat.lt_or_ge b g with z | z
        · have := hmin b z
          rw [decide_eq_true ((hbit b s b1 (by omega)).mpr (by omega)), b2] at this
          cases this
        · omega
theorem cov_e {d : Dm} {sins g : Int32} : ∀ k, covL d sins g k = sins &&& (tkT d g k ^^^ (-1)) := by
  intro k
  induction k with
  | zero => rw [covL, tkT, show (0 : Int32) ^^^ (-1) = -1 from rfl, and_m1]
  | succ k ih =>
    rw [covL, tkT, ih]
    by_cases c : gB g k = true
    · rw [if_pos c, and_or]
      unfold gB at c
      rw [if_pos (of_decide_eq_true c)]
    · rw [if_neg c]
      unfold gB at c
      rw [if_neg (fun q => c (decide_eq_true q)), and_m1]
theorem tkT_s {a b : Dm} (h : Sim a b) {g : Int32} : ∀ n, n ≤ nOf a → tkT a g n = tkT b g n := by
  intro n
  induction n with
  | zero => intro _; rfl
  | succ n ih => intro hn; rw [tkT, tkT, ih (by omega), h.t (show n < nOf a by omega)]
theorem minN_cong {T T' : Nat → Bool} : ∀ m, (∀ g, g < m → T g = T' g) → minN T m = minN T' m := by
  intro m
  induction m with
  | zero => intro _; rfl
  | succ m ih => intro h; rw [minN, minN, ih (fun g hg => h g (by omega)), h m (by omega)]
theorem q_cov {a b : Dm} (h : MR a b) (sins : Int32) : covX a sins = covR b sins := by
  unfold covX covR
  refine ite_b (fun _ => congrArg nS ?_) rfl
  have h8 : nOf a ≤ 8 := by obtain ⟨N, hN, eN, eNo⟩ := h.2.1.n; omega
  unfold fewO fewQ
  rw [few_min (T := fun g => ttB a (nI g) sins) h8, ← h.1.n]
  refine minN_cong _ (fun g hg => ?_)
  unfold ttB covQ
  rw [cov_e, tkT_s h.1 (nOf a) (Nat.le_refl _), h.1.n]
theorem mkR_e {d : Dm} {g : Int32} : ∀ k, mkR d g k = mkD d g k := by
  intro k
  induction k with
  | zero => rfl
  | succ k ih =>
    rw [mkR, mkD, ih]
    by_cases c : gB g k = true
    · rw [if_pos c]
      unfold gB at c
      rw [if_pos (of_decide_eq_true c)]
    · rw [if_neg c]
      unfold gB at c
      rw [if_neg (fun q => c (decide_eq_true q))]
      funext j
      unfold upd
      split
      · next e => rw [e]
      · rfl
theorem mk_4 {d : Dm} {g : Int32} : ∀ k, mkD d g k 4 = d 4 := by
  intro k
  induction k with
  | zero => rfl
  | succ k ih =>
    rw [mkD]
    split
    · rw [pk_un (by omega)]; exact ih
    · exact ih
theorem q_fas {a b : Dm} (h : MR a b) (n : Int32) : fasX a n = fasR b n := by
  unfold fasX fasR
  refine ite_b (fun _ => congrArg nS ?_) rfl
  have h8 : nOf a ≤ 8 := by obtain ⟨N, hN, eN, eNo⟩ := h.2.1.n; omega
  unfold fasO fasQ
  rw [few_min (T := fun g => qui (mkD a (nI g) (nOf a)) (nn n)) h8, ← h.1.n]
  refine minN_cong _ (fun g hg => ?_)
  have e := (h.1.mk (g := nI g) (nOf a)).qui (h.2.1.mk (nOf a) h8) (t := nn n)
  rw [e]
  unfold qui fasQR
  rw [mkR_e, mk_4, h.1.n]
variable {l : Launch} {sk : (Nat → Nat) × (Nat → Nat)} {D : va_G} {cy : Nat → ClassId} {Ac Ar : Nat → Nat} {Mc Mr : Mem}
theorem d_fits (h : Rel Mc Mr) (s v : Int32) : DUO Rel l sk D cy Ac Ar mX6_fits mX7_fits [.int s, .int v] Value.int Mc Mr := duo_q h (h := 6) (h' := 9) (by decide) (by decide) (fun X => k_X6_fits s v Mc h.ci) (fun X => m_fits s v Mr h.iv h.sz) (q_fit h s v).1
theorem d_words (h : Rel Mc Mr) (s v : Int32) : DUO Rel l sk D cy Ac Ar mX6_words mX7_words [.int s, .int v] Value.int Mc Mr := duo_q h (h := 6) (h' := 9) (by decide) (by decide) (fun X => k_X6_words s v Mc h.ci) (fun X => m_words s v Mr h.iv h.sz) (q_fit h s v).2
theorem d_feed (h : Rel Mc Mr) (num n : Int32) : DUO Rel l sk D cy Ac Ar mX6_feed mX7_feed [.int num, .int n] Value.int Mc Mr := duo_of h (h := 2) (h' := 1) (by decide) (by decide) (fun X => k_X6_feed num n Mc h.ci) (fun X => m_feed num n Mr h.2.2.2.1.1.1 h.2.2.2.1.1.2.1) (q_fee h num n).1 (q_fee h num n).2
theorem d_cover (h : Rel Mc Mr) (sins : Int32) : DUO Rel l sk D cy Ac Ar mX6_cover mX7_cover [.int sins] Value.int Mc Mr := duo_q h (h := 4) (h' := 2) (by decide) (by decide) (fun X => k_X6_cover sins Mc h.ci) (fun X => m_cover sins Mr h.iv) (q_cov h.1 sins)
theorem d_fast (h : Rel Mc Mr) (n : Int32) : DUO Rel l sk D cy Ac Ar mX6_fast mX7_fast [.int n] Value.int Mc Mr := duo_q h (h := 6) (h' := 8) (by decide) (by decide) (fun X => k_X6_fast n Mc h.ci) (fun X => m_fast n Mr h.iv) (q_fas h.1 n)

end PE6
