theorem Inv.up {d : Dm} (h : Inv d) {j n : Nat} {v : Int32} (hj : j < 6 ∨ 12 ≤ j) (hv : v = nI n) (hn : j < 60 → j ≠ 2 → n ≤ bnd j) : Inv (upd d j v) := by
  refine ⟨fun q hq hq2 => ?_, fun q hq => ?_⟩
  · by_cases e : q = j
    · subst e
      exact ⟨n, hn hq hq2, by rw [pk_us]; exact hv⟩
    · rw [pk_un e]
      exact h.1 q hq hq2
  · rw [pk_un (by omega)]
    exact h.2 q hq
theorem Inv.upl {d : Dm} (h : Inv d) {j n : Nat} {v : Int32} (hj : j < 6) (hv : v = nI n) (hn : n ≤ 740) (hm : n % 100 ≤ 40) : Inv (upd d (6 + j) v) := by
  refine ⟨fun q hq hq2 => ?_, fun q hq => ?_⟩
  · by_cases e : q = 6 + j
    · subst e
      exact ⟨n, by unfold bnd; rw [if_neg (by omega), if_neg (by omega), if_neg (by omega), if_neg (by omega), if_neg (by omega), if_pos (by omega)]; exact hn, by rw [pk_us]; exact hv⟩
    · rw [pk_un e]
      exact h.1 q hq hq2
  · by_cases e : q = j
    · subst e
      exact ⟨n, hn, hm, by rw [pk_us]; exact hv⟩
    · rw [pk_un (by omega)]
      exact h.2 q hq
theorem bnd_k {p : Nat} (hp : p < 8) : bnd (12 + p) = 6 := by unfold bnd; (repeat' split) <;> omega
theorem bnd_s {p : Nat} (hp : p < 8) : bnd (20 + p) = 999 := by unfold bnd; (repeat' split) <;> omega
theorem bnd_t {p : Nat} (hp : p < 8) : bnd (28 + p) = 255 := by unfold bnd; (repeat' split) <;> omega
theorem bnd_kn {p : Nat} (hp : p < 8) : bnd (36 + p) = 255 := by unfold bnd; (repeat' split) <;> omega
theorem bnd_he {p : Nat} (hp : p < 8) : bnd (44 + p) = 9999 := by unfold bnd; (repeat' split) <;> omega
theorem bnd_il {p : Nat} (hp : p < 8) : bnd (52 + p) = 9999 := by unfold bnd; (repeat' split) <;> omega
theorem hld_nI {a t : Nat} (ha : a < 2 ^ 31) (ht : t < 2 ^ 31) : hld (nI a) 0 (nI t) = nI (if t < a then t else a) := by
  unfold hld
  rw [if_neg (nI_pos ha)]
  by_cases h : t < a
  · rw [if_pos (nI_lt h ha), if_pos h]
  · rw [if_neg (nI_nlt (by omega) ht), if_neg h]
theorem hld_le {x : Int32} {a t : Nat} {T : Int32} (hT : T = nI t) (hx : x = nI a) (ha : a < 2 ^ 31) (ht : t < 2 ^ 31) : ∃ n, n ≤ t ∧ hld x 0 T = nI n := by
  subst hx; subst hT
  exact ⟨_, by split <;> omega, hld_nI ha ht⟩
theorem hld_sub {x y : Int32} {a b : Nat} (hx : x = nI a) (hy : y = nI b) (ha : a ≤ 999) (hb : b ≤ 999) : hld (x - y) 0 999 = nI (a - b) := by
  subst hx; subst hy
  by_cases h : b ≤ a
  · rw [pk_sub h, show (999 : Int32) = nI 999 from rfl, hld_nI (by omega) (by omega), if_neg (by omega)]
  · unfold hld
    rw [if_pos (pk_sneg (by omega) (by omega)), show a - b = 0 by omega]
    rfl
theorem rm_nI {a d : Nat} (ha : a < 2 ^ 31) (h0 : 0 < d) (hd : d < 2 ^ 31) : rmI (nI a) (nI d) = nI (a % d) := pk_rem ha h0 hd
theorem cf_parts {cf : Int32} {n : Nat} (h : cf = nI n) (hn : n ≤ 740) : cf / 100 = nI (n / 100) ∧ rmI cf 100 = nI (n % 100) := by
  subst h
  exact ⟨pk_div (d := 100) (by omega) (by omega) (by omega), rm_nI (d := 100) (by omega) (by omega) (by omega)⟩
theorem swell_le {k kn sin words water : Int32} {w b : Nat} (hw : words = nI w) (hw4 : w ≤ 40) (hb : water = nI b) (hb9 : b ≤ 9) : ∃ n, n ≤ 60 ∧ swellV k kn sin words water = nI n := by
  subst hw; subst hb
  have h1 : ∃ n, n ≤ 40 ∧ hld (nI w - nI b) 0 40 = nI n := by
    have key : ∀ w, w < 41 → ∀ b, b < 10 → hld (nI w - nI b) 0 40 = nI (w - b) := by decide +kernel
    exact ⟨w - b, by omega, key w (by omega) b (by omega)⟩
  have h3 : nI w / 3 = nI (w / 3) := pk_div (d := 3) (by omega) (by omega) (by omega)
  have h2 : ∃ n, n ≤ 40 ∧ (if sin = 3 then nI w / 3 else nI w) = nI n := by
    by_cases h : sin = 3
    · rw [if_pos h, h3]; exact ⟨w / 3, by omega, rfl⟩
    · rw [if_neg h]; exact ⟨w, by omega, rfl⟩
  obtain ⟨n1, a1, e1⟩ := h1
  obtain ⟨n2, a2, e2⟩ := h2
  unfold swellV
  rw [e1, e2]
  by_cases k1 : k = 1
  · rw [if_pos k1]; exact ⟨n1, by omega, rfl⟩
  rw [if_neg k1]
  by_cases k2 : k = 2
  · rw [if_pos k2]; exact ⟨n2, by omega, rfl⟩
  rw [if_neg k2]
  have h5 : ∃ n, n ≤ 60 ∧ nI n1 + (if rmI sin 2 = 0 then (5 : Int32) else 0) = nI n := by
    split
    · exact ⟨n1 + 5, by omega, nI_add n1 5⟩
    · exact ⟨n1 + 0, by omega, nI_add n1 0⟩
  by_cases k3 : k = 3
  · rw [if_pos k3]; exact h5
  rw [if_neg k3]
  by_cases k4 : k = 4
  · rw [if_pos k4]; exact h5
  rw [if_neg k4]
  by_cases k5 : k = 5
  · rw [if_pos k5]
    split
    · exact ⟨w + 10, by omega, nI_add w 10⟩
    · exact ⟨w + 0, by omega, nI_add w 0⟩
  rw [if_neg k5]
  by_cases k6 : k = 6
  · rw [if_pos k6]; exact ⟨n2 / 2, by omega, pk_div (d := 2) (by omega) (by omega) (by omega)⟩
  rw [if_neg k6]
  exact ⟨w, by omega, rfl⟩
theorem dig_le {k water day : Int32} {b : Nat} (hb : water = nI b) (hb9 : b ≤ 9) : ∃ n, n ≤ 16 ∧ digV k water day = nI n := by
  subst hb
  unfold digV
  repeat' split
  · exact ⟨5 + b, by omega, nI_add 5 b⟩
  · exact ⟨8, by omega, rfl⟩
  · exact ⟨2 + b, by omega, nI_add 2 b⟩
  · exact ⟨1, by omega, rfl⟩
  · exact ⟨0, by omega, rfl⟩
  · exact ⟨5, by omega, rfl⟩
  · exact ⟨16, by omega, rfl⟩
  · exact ⟨5, by omega, rfl⟩
theorem holds_le {k kn he : Int32} (hkn : ∃ n, n ≤ 255 ∧ kn = nI n) (hhe : ∃ n, n ≤ 9999 ∧ he = nI n) : ∃ n, n ≤ 160 ∧ holdsV k kn he = nI n := by
  obtain ⟨o, ho, eo⟩ := ones_le hkn
  obtain ⟨h, hh, rfl⟩ := hhe
  have e5 : 40 + 5 * onesF kn = nI (40 + 5 * o) := by
    rw [eo, show (5 : Int32) = nI 5 from rfl, pk_mul, show (40 : Int32) = nI 40 from rfl, nI_add]
  have ee : ∃ n, n ≤ 60 ∧ (if onesF kn = 0 then (30 : Int32) else 60) = nI n := by
    split
    · exact ⟨30, by omega, rfl⟩
    · exact ⟨60, by omega, rfl⟩
  obtain ⟨ne, hne, e1⟩ := ee
  unfold holdsV
  rw [e5, e1]
  repeat' split
  · exact ⟨40, by omega, rfl⟩
  · exact ⟨ne, by omega, rfl⟩
  · exact ⟨_, by omega, rfl⟩
  · exact ⟨2 * (40 + 5 * o), by omega, pk_mul 2 _⟩
  · obtain ⟨n, h1, h2⟩ := hld_le (t := 99) (T := 99) rfl (nI_add 60 h) (by omega) (by omega)
    exact ⟨n, by omega, h2⟩
  · exact ⟨ne + 40, by omega, nI_add ne 40⟩
  · exact ⟨60, by omega, rfl⟩
theorem shl_bit : ∀ s, s < 8 → (1 : Int32) <<< (nI s &&& 31) = nI (2 ^ s) := by decide +kernel
theorem or_le {x y : Int32} (hx : ∃ n, n ≤ 255 ∧ x = nI n) (hy : ∃ n, n ≤ 255 ∧ y = nI n) : ∃ n, n ≤ 255 ∧ x ||| y = nI n := by
  obtain ⟨a, ha, rfl⟩ := hx
  obtain ⟨b, hb, rfl⟩ := hy
  refine ⟨a ||| b, ?_, fa_or a b⟩
  have := Nat.or_lt_two_pow (x := a) (y := b) (n := 8) (by omega) (by omega)
  omega
theorem sinb_le {sin : Int32} (h : ∃ s, s < 8 ∧ sin = nI s) : ∃ n, n ≤ 255 ∧ (1 : Int32) <<< (sin &&& 31) = nI n := by
  obtain ⟨s, hs, rfl⟩ := h
  refine ⟨2 ^ s, ?_, shl_bit s hs⟩
  have : 2 ^ s ≤ 2 ^ 7 := Nat.pow_le_pow_right (by omega) (by omega)
  omega
theorem swF_le {d : Dm} (h : Inv d) {p : Nat} {sin words : Int32} (hw : ∃ w, w ≤ 40 ∧ words = nI w) : ∃ n, n ≤ 60 ∧ swellF d p sin words = nI n := by
  obtain ⟨w, h1, h2⟩ := hw
  obtain ⟨b, h3, h4⟩ := h.wa
  exact swell_le h2 h1 h4 h3
theorem Inv.vEat {d : Dm} (h : Inv d) {p : Nat} (hp : p < 8) {sin words : Int32} (hs : ∃ s, s < 8 ∧ sin = nI s) (hw : ∃ w, w ≤ 40 ∧ words = nI w) : Inv (eatF d p sin words) := by
  obtain ⟨a, ha, ea⟩ := h.s hp
  obtain ⟨b, hb, eb⟩ := swF_le h (p := p) (sin := sin) hw
  obtain ⟨n1, hn1, e1⟩ := hld_le (x := d (20 + p) + swellF d p sin words) (t := 999) (T := 999) rfl (by rw [ea, eb, nI_add]) (by omega) (by omega)
  have h1 : Inv (upd d (20 + p) (hld (d (20 + p) + swellF d p sin words) 0 999)) := h.up (Or.inr (by omega)) e1 (fun _ _ => by rw [bnd_s hp]; omega)
  obtain ⟨n2, hn2, e2⟩ := or_le (h1.kn hp) (sinb_le hs)
  have h2 := h1.up (j := 36 + p) (Or.inr (by omega)) e2 (fun _ _ => by rw [bnd_kn hp]; omega)
  obtain ⟨c, hc, ec⟩ := h2.he hp
  obtain ⟨n3, hn3, e3⟩ := hld_le (x := nI c + 1) (t := 9999) (T := 9999) rfl (nI_1 c) (by omega) (by omega)
  rw [← ec] at e3
  exact h2.up (j := 44 + p) (Or.inr (by omega)) e3 (fun _ _ => by rw [bnd_he hp]; omega)
theorem best_lt (d : Dm) (P : Nat → Bool) : ∀ n b, bestF d P n = some b → b < n := by
  intro n
  induction n with
  | zero => intro b h; simp [bestF] at h
  | succ n ih =>
    intro b h
    unfold bestF at h
    cases hb : bestF d P n with
    | none => rw [hb] at h; dsimp only at h; split at h <;> simp at h; omega
    | some c =>
      rw [hb] at h
      dsimp only at h
      have := ih c hb
      split at h
      · split at h <;> simp at h <;> omega
      · simp at h; omega
theorem Inv.vConf {d : Dm} (h : Inv d) {cf : Int32} (hc : ∃ n, n ≤ 740 ∧ n % 100 ≤ 40 ∧ cf = nI n) : Inv (confF d cf) := by
  obtain ⟨n, h1, h2, h3⟩ := hc
  obtain ⟨e1, e2⟩ := cf_parts h3 h1
  obtain ⟨N, hN, eN, eNo⟩ := h.n
  unfold confF
  split
  · exact h
  · split
    · obtain ⟨a, ha, ea⟩ := h.ke
      obtain ⟨n1, hn1, e3⟩ := hld_le (x := d 5 + 1) (t := 99999) (T := 99999) rfl (by rw [ea, nI_1]) (by omega) (by omega)
      exact h.up (Or.inl (by omega)) e3 (fun _ _ => hn1)
    · rename_i q hq
      have := best_lt _ _ _ _ hq
      exact h.vEat (by omega) ⟨n / 100, by omega, e1⟩ ⟨n % 100, h2, e2⟩
theorem Inv.vIll1 {d : Dm} (h : Inv d) {p : Nat} (hp : p < 8) : Inv (ill1 d p) := by
  unfold ill1
  split
  · have hk : ∃ n, n ≤ 255 ∧ (if keepF d p = true then (0 : Int32) else d (36 + p)) = nI n := by
      split
      · exact ⟨0, by omega, rfl⟩
      · exact h.kn hp
    obtain ⟨n1, hn1, e1⟩ := or_le h.ou hk
    have h1 := h.up (j := 4) (Or.inl (by omega)) e1 (fun _ _ => hn1)
    have h2 := h1.up (j := 36 + p) (v := 0) (n := 0) (Or.inr (by omega)) rfl (fun _ _ => Nat.zero_le _)
    have h3 := h2.up (j := 20 + p) (v := 0) (n := 0) (Or.inr (by omega)) rfl (fun _ _ => Nat.zero_le _)
    obtain ⟨a, ha, ea⟩ := h3.il hp
    obtain ⟨n2, hn2, e2⟩ := hld_le (x := nI a + 1) (t := 9999) (T := 9999) rfl (nI_1 a) (by omega) (by omega)
    rw [← ea] at e2
    exact h3.up (j := 52 + p) (Or.inr (by omega)) e2 (fun _ _ => by rw [bnd_il hp]; omega)
  · exact h
theorem Inv.vIllF {d : Dm} (h : Inv d) : ∀ n, n ≤ 8 → Inv (illF d n) := by
  intro n
  induction n with
  | zero => intro _; exact h
  | succ n ih => intro hn; exact (ih (by omega)).vIll1 (by omega)
theorem Inv.vDig1 {d : Dm} (h : Inv d) {p : Nat} (hp : p < 8) : Inv (dig1 d p) := by
  obtain ⟨a, ha, ea⟩ := h.s hp
  obtain ⟨b, hb, eb⟩ := h.wa
  obtain ⟨c, hc, ec⟩ := dig_le (k := d (12 + p)) (water := d 3) (day := d 1) eb hb
  exact h.up (Or.inr (by omega)) (hld_sub ea ec (by omega) (by omega)) (fun _ _ => by rw [bnd_s hp]; omega)
theorem Inv.vDigA {d : Dm} (h : Inv d) : ∀ n, n ≤ 8 → Inv (digA d n) := by
  intro n
  induction n with
  | zero => intro _; exact h
  | succ n ih => intro hn; exact (ih (by omega)).vDig1 (by omega)
theorem Inv.tod {d : Dm} (h : Inv d) : todN d < 6 ∧ rmI (d 1) 6 = nI (todN d) := by
  obtain ⟨a, ha, ea⟩ := h.day
  unfold todN
  have e : rmI (d 1) 6 = nI (a % 6) := by rw [ea]; exact rm_nI (d := 6) (by omega) (by omega) (by omega)
  rw [e, nI_clamp (by omega)]
  exact ⟨by omega, rfl⟩
theorem Inv.vDay1 {d : Dm} (h : Inv d) : Inv (upd d 1 (hld (d 1 + 1) 0 99999)) := by
  obtain ⟨a, ha, ea⟩ := h.day
  obtain ⟨n1, hn1, e3⟩ := hld_le (x := d 1 + 1) (t := 99999) (T := 99999) rfl (by rw [ea, nI_1]) (by omega) (by omega)
  exact h.up (Or.inl (by omega)) e3 (fun _ _ => hn1)
theorem Inv.vDay {d : Dm} (h : Inv d) : Inv (dayF d) := by
  obtain ⟨N, hN, eN, eNo⟩ := h.n
  have h1 := h.vConf (h.li h.tod.1)
  have h2 := (h1.vIllF (nOf d) (by omega)).vDigA (nOf d) (by omega)
  exact h2.vDay1
theorem Inv.vDays {d : Dm} (h : Inv d) : ∀ n, Inv (daysF d n) := by
  intro n
  induction n with
  | zero => exact h
  | succ n ih => exact ih.vDay
-- what a day leaves alone
theorem eat_off {d : Dm} {p j : Nat} {sin words : Int32} (h1 : j ≠ 20 + p) (h2 : j ≠ 36 + p) (h3 : j ≠ 44 + p) : eatF d p sin words j = d j := by
  unfold eatF
  rw [pk_un h3, pk_un h2, pk_un h1]
theorem conf_off {d : Dm} {cf : Int32} {j : Nat} (h : j < 12 ∨ 52 ≤ j) (h5 : j ≠ 5) (hN : nOf d ≤ 8) : confF d cf j = d j := by
  unfold confF
  split
  · rfl
  · cases hq : bestF d (takB d (cf / 100)) (nOf d) with
    | none => exact pk_un h5
    | some q =>
      have := best_lt _ _ _ _ hq
      exact eat_off (by omega) (by omega) (by omega)
theorem ill1_off {d : Dm} {p j : Nat} (h4 : j ≠ 4) (h1 : j ≠ 36 + p) (h2 : j ≠ 20 + p) (h3 : j ≠ 52 + p) : ill1 d p j = d j := by
  unfold ill1
  split
  · unfold fallF
    try dsimp only
    rw [pk_un h3, pk_un h2, pk_un h1, pk_un h4]
  · rfl
theorem illF_off {d : Dm} {j : Nat} : ∀ n, n ≤ 8 → j ≠ 4 → (j < 20 ∨ 60 ≤ j) → illF d n j = d j := by
  intro n
  induction n with
  | zero => intro _ _ _; rfl
  | succ n ih =>
    intro hn h4 h
    show ill1 (illF d n) n j = d j
    rw [ill1_off h4 (by omega) (by omega) (by omega)]
    exact ih (by omega) h4 h
theorem digA_off {d : Dm} {j : Nat} : ∀ n, n ≤ 8 → (j < 20 ∨ 28 ≤ j) → digA d n j = d j := by
  intro n
  induction n with
  | zero => intro _ _; rfl
  | succ n ih =>
    intro hn h
    show upd (digA d n) (20 + n) _ j = d j
    rw [pk_un (by omega)]
    exact ih (by omega) h
theorem nOf_upd {d : Dm} {j : Nat} {v : Int32} (h : j ≠ 0) : nOf (upd d j v) = nOf d := by unfold nOf; rw [pk_un (Ne.symm h)]
theorem day_off {d : Dm} {j : Nat} (hI : Inv d) (h : j < 12 ∨ 60 ≤ j) (h1 : j ≠ 1) (h4 : j ≠ 4) (h5 : j ≠ 5) : dayF d j = d j := by
  obtain ⟨N, hN, eN, eNo⟩ := hI.n
  unfold dayF
  rw [pk_un h1, digA_off _ (by omega) (by omega), illF_off _ (by omega) h4 (by omega), conf_off (by omega) h5 (by omega)]
theorem nOf_day {d : Dm} (hI : Inv d) : nOf (dayF d) = nOf d := by
  unfold nOf
  rw [day_off hI (by omega) (by omega) (by omega) (by omega)]
theorem days_off {d : Dm} {j : Nat} (hI : Inv d) (h : j < 12 ∨ 60 ≤ j) (h1 : j ≠ 1) (h4 : j ≠ 4) (h5 : j ≠ 5) : ∀ n, daysF d n j = d j := by
  intro n
  induction n with
  | zero => rfl
  | succ n ih => exact (day_off (hI.vDays n) h h1 h4 h5).trans ih
