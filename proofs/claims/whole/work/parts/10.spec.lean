abbrev Dm : Type := Nat → Int32
def hld (v lo hi : Int32) : Int32 := if v < lo then lo else if hi < v then hi else v
def onesN (s : Int32) : Nat → Int32
  | 0 => 0
  | k + 1 => onesN s k + (s >>> (nI k &&& 31) &&& 1)
def onesF (s : Int32) : Int32 := onesN s 8
def holdsV (k kn he : Int32) : Int32 := if k = 1 then 40 else if k = 2 then (if onesF kn = 0 then 30 else 60) else if k = 3 then 40 + 5 * onesF kn else if k = 4 then 2 * (40 + 5 * onesF kn) else if k = 5 then hld (60 + he) 0 99 else if k = 6 then (if onesF kn = 0 then 30 else 60) + 40 else 60
def swellV (k kn sin words water : Int32) : Int32 := if k = 1 then hld (words - water) 0 40 else if k = 2 then (if sin = 3 then words / 3 else words) else if k = 3 then hld (words - water) 0 40 + (if rmI sin 2 = 0 then 5 else 0) else if k = 4 then hld (words - water) 0 40 + (if rmI sin 2 = 0 then 5 else 0) else if k = 5 then words + (if kn >>> (sin &&& 31) &&& 1 = 1 then 10 else 0) else if k = 6 then (if sin = 3 then words / 3 else words) / 2 else words
def digV (k water day : Int32) : Int32 := if k = 1 then 5 + water else if k = 2 then 8 else if k = 3 then 2 + water else if k = 4 then 1 else if k = 5 then (if rmI day 7 = 6 then 0 else 5) else if k = 6 then 16 else 5
def keepV (k kn : Int32) : Bool := decide (k = 4) || (decide (k = 5) && decide (onesF kn < 4))
def holdF (d : Dm) (p : Nat) : Int32 := holdsV (d (12 + p)) (d (36 + p)) (d (44 + p))
def roomF (d : Dm) (p : Nat) : Int32 := holdF d p - d (20 + p)
def swellF (d : Dm) (p : Nat) (sin words : Int32) : Int32 := swellV (d (12 + p)) (d (36 + p)) sin words (d 3)
def digF (d : Dm) (p : Nat) : Int32 := digV (d (12 + p)) (d 3) (d 1)
def keepF (d : Dm) (p : Nat) : Bool := keepV (d (12 + p)) (d (36 + p))
def nOf (d : Dm) : Nat := (d 0).toNatClampNeg
def bestF (d : Dm) (P : Nat → Bool) : Nat → Option Nat
  | 0 => none
  | n + 1 => match bestF d P n with
    | none => if P n = true then some n else none
    | some b => if P n = true then (if roomF d b < roomF d n then some n else some b) else some b
def oI (o : Option Nat) : Int32 := match o with
  | none => -1
  | some k => nI k
def takB (d : Dm) (sin : Int32) (p : Nat) : Bool := decide (d (28 + p) >>> (sin &&& 31) &&& 1 = 1)
def eatF (d : Dm) (p : Nat) (sin words : Int32) : Dm :=
  let d1 := upd d (20 + p) (hld (d (20 + p) + swellF d p sin words) 0 999)
  let d2 := upd d1 (36 + p) (d1 (36 + p) ||| (1 : Int32) <<< (sin &&& 31))
  upd d2 (44 + p) (hld (d2 (44 + p) + 1) 0 9999)
def confF (d : Dm) (cf : Int32) : Dm := if rmI cf 100 = 0 then d else match bestF d (takB d (cf / 100)) (nOf d) with
  | none => upd d 5 (hld (d 5 + 1) 0 99999)
  | some p => eatF d p (cf / 100) (rmI cf 100)
def fallF (d : Dm) (p : Nat) : Dm :=
  let d1 := upd d (36 + p) 0
  let d2 := upd d1 (20 + p) 0
  upd d2 (52 + p) (hld (d2 (52 + p) + 1) 0 9999)
def ill1 (d : Dm) (p : Nat) : Dm := if roomF d p < 0 then fallF (upd d 4 (d 4 ||| (if keepF d p = true then 0 else d (36 + p)))) p else d
def illF (d : Dm) : Nat → Dm
  | 0 => d
  | k + 1 => ill1 (illF d k) k
def dig1 (d : Dm) (p : Nat) : Dm := upd d (20 + p) (hld (d (20 + p) - digF d p) 0 999)
def digA (d : Dm) : Nat → Dm
  | 0 => d
  | k + 1 => dig1 (digA d k) k
def todN (d : Dm) : Nat := (rmI (d 1) 6).toNatClampNeg
def dayF (d : Dm) : Dm :=
  let d1 := confF d (d (6 + todN d))
  let d2 := illF d1 (nOf d)
  let d3 := digA d2 (nOf d)
  upd d3 1 (hld (d3 1 + 1) 0 99999)
def daysF (d : Dm) : Nat → Dm
  | 0 => d
  | k + 1 => dayF (daysF d k)
def sumF (d : Dm) (w : Nat) : Nat → Int32
  | 0 => 0
  | k + 1 => sumF d w k + d (12 + 8 * w + k)
def togF (d : Dm) (w : Nat) : Nat → Int32
  | 0 => 0
  | k + 1 => togF d w k ||| d (12 + 8 * w + k)
-- what holds of a mission at all times
def bnd (j : Nat) : Nat := if j = 0 then 8 else if j = 1 then 99999 else if j = 3 then 9 else if j = 4 then 255 else if j = 5 then 99999 else if j < 12 then 740 else if j < 20 then 6 else if j < 28 then 999 else if j < 44 then 255 else 9999
def Inv (d : Dm) : Prop := (∀ j, j < 60 → j ≠ 2 → ∃ n, n ≤ bnd j ∧ d j = nI n) ∧ ∀ j, j < 6 → ∃ n, n ≤ 740 ∧ n % 100 ≤ 40 ∧ d (6 + j) = nI n
theorem bnd_ge (j : Nat) : bnd j ≤ 99999 := by unfold bnd; (repeat' split) <;> omega
theorem Inv.n {d : Dm} (h : Inv d) : ∃ n, n ≤ 8 ∧ d 0 = nI n ∧ nOf d = n := by
  obtain ⟨n, h1, h2⟩ := h.1 0 (by omega) (by omega)
  refine ⟨n, h1, h2, ?_⟩
  unfold nOf
  rw [h2]
  exact nI_clamp (by have : bnd 0 = 8 := rfl; omega)
theorem Inv.k {d : Dm} (h : Inv d) {p : Nat} (hp : p < 8) : ∃ n, n ≤ 6 ∧ d (12 + p) = nI n := by
  obtain ⟨n, h1, h2⟩ := h.1 (12 + p) (by omega) (by omega)
  exact ⟨n, by unfold bnd at h1; split at h1 <;> first | omega | ((repeat' split at h1) <;> omega), h2⟩
theorem Inv.s {d : Dm} (h : Inv d) {p : Nat} (hp : p < 8) : ∃ n, n ≤ 999 ∧ d (20 + p) = nI n := by
  obtain ⟨n, h1, h2⟩ := h.1 (20 + p) (by omega) (by omega)
  exact ⟨n, by unfold bnd at h1; split at h1 <;> first | omega | ((repeat' split at h1) <;> omega), h2⟩
theorem Inv.t {d : Dm} (h : Inv d) {p : Nat} (hp : p < 8) : ∃ n, n ≤ 255 ∧ d (28 + p) = nI n := by
  obtain ⟨n, h1, h2⟩ := h.1 (28 + p) (by omega) (by omega)
  exact ⟨n, by unfold bnd at h1; split at h1 <;> first | omega | ((repeat' split at h1) <;> omega), h2⟩
theorem Inv.kn {d : Dm} (h : Inv d) {p : Nat} (hp : p < 8) : ∃ n, n ≤ 255 ∧ d (36 + p) = nI n := by
  obtain ⟨n, h1, h2⟩ := h.1 (36 + p) (by omega) (by omega)
  exact ⟨n, by unfold bnd at h1; split at h1 <;> first | omega | ((repeat' split at h1) <;> omega), h2⟩
theorem Inv.he {d : Dm} (h : Inv d) {p : Nat} (hp : p < 8) : ∃ n, n ≤ 9999 ∧ d (44 + p) = nI n := by
  obtain ⟨n, h1, h2⟩ := h.1 (44 + p) (by omega) (by omega)
  exact ⟨n, by unfold bnd at h1; split at h1 <;> first | omega | ((repeat' split at h1) <;> omega), h2⟩
theorem Inv.il {d : Dm} (h : Inv d) {p : Nat} (hp : p < 8) : ∃ n, n ≤ 9999 ∧ d (52 + p) = nI n := by
  obtain ⟨n, h1, h2⟩ := h.1 (52 + p) (by omega) (by omega)
  exact ⟨n, by unfold bnd at h1; split at h1 <;> first | omega | ((repeat' split at h1) <;> omega), h2⟩
theorem Inv.day {d : Dm} (h : Inv d) : ∃ n, n ≤ 99999 ∧ d 1 = nI n := h.1 1 (by omega) (by omega)
theorem Inv.wa {d : Dm} (h : Inv d) : ∃ n, n ≤ 9 ∧ d 3 = nI n := h.1 3 (by omega) (by omega)
theorem Inv.ou {d : Dm} (h : Inv d) : ∃ n, n ≤ 255 ∧ d 4 = nI n := h.1 4 (by omega) (by omega)
theorem Inv.ke {d : Dm} (h : Inv d) : ∃ n, n ≤ 99999 ∧ d 5 = nI n := h.1 5 (by omega) (by omega)
theorem Inv.li {d : Dm} (h : Inv d) {j : Nat} (hj : j < 6) : ∃ n, n ≤ 740 ∧ n % 100 ≤ 40 ∧ d (6 + j) = nI n := h.2 j hj
theorem bitc_onesB : ∀ n, n < 256 → bitc (nI n) = onesF (nI n) := by decide +kernel
theorem bitc_ones {x : Int32} (h : ∃ n, n ≤ 255 ∧ x = nI n) : bitc x = onesF x := by
  obtain ⟨n, h1, rfl⟩ := h
  exact bitc_onesB n (by omega)
theorem ones_leB : ∀ n, n < 256 → onesF (nI n) = nI (onesF (nI n)).toNatClampNeg ∧ (onesF (nI n)).toNatClampNeg ≤ 8 := by decide +kernel
theorem ones0B : ∀ n, n < 256 → (onesF (nI n) = 0 ↔ nI n = 0) := by decide +kernel
theorem ones_le {x : Int32} (h : ∃ n, n ≤ 255 ∧ x = nI n) : ∃ m, m ≤ 8 ∧ onesF x = nI m := by
  obtain ⟨n, h1, rfl⟩ := h
  exact ⟨_, (ones_leB n (by omega)).2, (ones_leB n (by omega)).1⟩
theorem ones0 {x : Int32} (h : ∃ n, n ≤ 255 ∧ x = nI n) : onesF x = 0 ↔ x = 0 := by
  obtain ⟨n, h1, rfl⟩ := h
  exact ones0B n (by omega)
theorem hld_mn {x t : Int32} (h : ¬ x < 0) : hld x 0 t = mnI x t := by unfold hld mnI; rw [if_neg h]
theorem hld_mx {x t : Int32} (ht : ¬ t < 0) (h : ¬ t < x) : hld x 0 t = mxI x 0 := by unfold hld mxI; rw [if_neg h]
theorem nn_add {x y : Int32} {a b : Nat} (hx : x = nI a) (hy : y = nI b) (h : a + b < 2 ^ 31) : ¬ x + y < 0 := by
  rw [hx, hy, nI_add]
  exact nI_pos h
