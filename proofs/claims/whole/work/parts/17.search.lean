-- searches, said of one mission
def outQ (d : Dm) (sin : Int32) (n : Nat) : Bool := decide (daysF d n 4 >>> (sin &&& 31) &&& 1 = 1)
def illQ (d : Dm) (p : Nat) (n : Nat) : Bool := decide (1 ≤ n) && decide (d (52 + p) < daysF d n (52 + p))
def wisQ (d : Dm) (p : Nat) (v : Int32) (n : Nat) : Bool := !decide (onesF (daysF d n (36 + p)) < v)
def whnQ (d : Dm) (p : Nat) (v : Int32) (n : Nat) : Bool := !decide (daysF d n (20 + p) < v)
def worD (d : Dm) (j k : Nat) : Dm := upd d (6 + j) (100 * (d (6 + j) / 100) + nI k)
def worQ (d : Dm) (j t : Nat) (k : Nat) : Bool := decide (sumT (daysF (worD d j (40 - k)) t) 5 (nOf d) = sumT d 5 (nOf d))
def qui (d : Dm) (t : Nat) : Bool := decide (daysF d t 4 = d 4)
def watQ (d : Dm) (t k : Nat) : Bool := qui (upd d 3 (nI k)) t
def amin (f : Nat → Int32) (l0 : Int32) : Nat → Int32 × Int32
  | 0 => (0, l0)
  | k + 1 => if f k < (amin f l0 k).2 then (nI k, f k) else amin f l0 k
def spaD (d : Dm) (p k : Nat) : Dm := upd d (28 + p) (d (28 + p) &&& ((1 : Int32) <<< (nI k &&& 31) ^^^ (-1)))
def spaV (d : Dm) (p t k : Nat) : Int32 := daysF (spaD d p k) t (20 + p)
def kinD (d : Dm) (p k : Nat) : Dm := upd d (12 + p) (nI k)
def kinV (d : Dm) (p t k : Nat) : Int32 := sumT (daysF (kinD d p k) t) 5 (nOf d)
def mkD (d : Dm) (g : Int32) : Nat → Dm
  | 0 => d
  | k + 1 => if gB g k = true then upd (mkD d g k) (28 + k) 0 else mkD d g k
def fasQ (d : Dm) (t s g : Nat) : Bool := decide (bitc (nI g) = nI s) && qui (mkD d (nI g) (nOf d)) t
def fasO (d : Dm) (t : Nat) : Option Nat := fst2 (fasQ d t) (2 ^ nOf d) (nOf d + 1)
def allN (P : Nat → Bool) : Nat → Bool
  | 0 => true
  | k + 1 => allN P k && P k
def asT (d : Dm) (p : Nat) (tl : Nat → Int32) (k : Nat) : Bool := decide (tl k = -1) || decide (tl k = daysF d k (20 + p))
def fitD (d : Dm) (k : Nat) : Dm := worD d (todN d) k
def fitQ (d : Dm) (p : Nat) (tl : Nat → Int32) (sz k : Nat) : Bool := allN (asT (fitD d k) p tl) sz
def knQ (d : Dm) (p : Nat) (tl : Nat → Int32) (sz k : Nat) : Bool := allN (asT (kinD d p k) p tl) sz
def mskL (P : Nat → Bool) : Nat → Int64
  | 0 => 0
  | k + 1 => if P k = true then mskL P k ||| (1 : Int64) <<< ((nI k).toInt64 &&& 63) else mskL P k
def mskI (P : Nat → Bool) : Nat → Int32
  | 0 => 0
  | k + 1 => if P k = true then mskI P k ||| (1 : Int32) <<< (nI k &&& 31) else mskI P k
theorem fst_cong {P P' : Nat → Bool} : ∀ n, (∀ k, k < n → P k = P' k) → fstN P n = fstN P' n := by
  intro n
  induction n with
  | zero => intro _; rfl
  | succ n ih => intro h; rw [fstN, fstN, ih (fun k hk => h k (by omega)), h n (by omega)]
-- what is out stays out
theorem or_sub {x y : Int32} (hx : ∃ n, n ≤ 255 ∧ x = nI n) (hy : ∃ n, n ≤ 255 ∧ y = nI n) : x ||| (x ||| y) = x ||| y := by
  obtain ⟨a, ha, rfl⟩ := hx
  obtain ⟨b, hb, rfl⟩ := hy
  rw [fa_or, fa_or, ← Nat.or_assoc, Nat.or_self]
theorem sub_tr {x y z : Int32} (hx : ∃ n, n ≤ 255 ∧ x = nI n) (hy : ∃ n, n ≤ 255 ∧ y = nI n) (hz : ∃ n, n ≤ 255 ∧ z = nI n) (h1 : x ||| y = y) (h2 : y ||| z = z) : x ||| z = z := by
  obtain ⟨a, ha, rfl⟩ := hx
  obtain ⟨b, hb, rfl⟩ := hy
  obtain ⟨c, hc, rfl⟩ := hz
  rw [fa_or] at h1 h2 ⊢
  have l1 := Nat.or_lt_two_pow (x := a) (y := b) (n := 8) (by omega) (by omega)
  have l2 := Nat.or_lt_two_pow (x := b) (y := c) (n := 8) (by omega) (by omega)
  have e1 := (nI_eq (by omega) (by omega)).mp h1
  have e2 := (nI_eq (by omega) (by omega)).mp h2
  rw [← e2, ← Nat.or_assoc, e1]
theorem sub_eq {x y : Int32} (hx : ∃ n, n ≤ 255 ∧ x = nI n) (hy : ∃ n, n ≤ 255 ∧ y = nI n) (h1 : x ||| y = y) (h2 : y ||| x = x) : x = y := by
  obtain ⟨a, ha, rfl⟩ := hx
  obtain ⟨b, hb, rfl⟩ := hy
  rw [fa_or] at h1 h2
  rw [Nat.or_comm] at h2
  exact h2.symm.trans h1
theorem sub_rf {x : Int32} (hx : ∃ n, n ≤ 255 ∧ x = nI n) : x ||| x = x := by
  obtain ⟨a, ha, rfl⟩ := hx
  rw [fa_or, Nat.or_self]
theorem ill1_sub {d : Dm} (h : Inv d) {p : Nat} (hp : p < 8) : d 4 ||| ill1 d p 4 = ill1 d p 4 := by
  unfold ill1
  by_cases h0 : roomF d p < 0
  · rw [if_pos h0]
    have e : fallF (upd d 4 (d 4 ||| (if keepF d p = true then 0 else d (36 + p)))) p 4 = d 4 ||| (if keepF d p = true then 0 else d (36 + p)) := by
      unfold fallF
      rw [pk_un (by omega), pk_un (by omega), pk_un (by omega), pk_us]
    rw [e]
    refine or_sub h.ou ?_
    split
    · exact ⟨0, by omega, rfl⟩
    · exact h.kn hp
  · rw [if_neg h0]
    exact sub_rf h.ou
theorem illF_sub {d : Dm} (h : Inv d) : ∀ n, n ≤ 8 → d 4 ||| illF d n 4 = illF d n 4 := by
  intro n
  induction n with
  | zero => intro _; exact sub_rf h.ou
  | succ n ih =>
    intro hn
    have hI := h.vIllF n (by omega)
    exact sub_tr h.ou hI.ou (hI.vIll1 (show n < 8 by omega)).ou (ih (by omega)) (ill1_sub hI (by omega))
theorem day_sub {d : Dm} (h : Inv d) : d 4 ||| dayF d 4 = dayF d 4 := by
  obtain ⟨N, hN, eN, eNo⟩ := h.n
  have h1 := h.vConf (h.li h.tod.1)
  have e1 : dayF d 4 = illF (confF d (d (6 + todN d))) (nOf d) 4 := by
    unfold dayF
    rw [pk_un (by omega), digA_off _ (by omega) (by omega)]
  have e2 : d 4 = confF d (d (6 + todN d)) 4 := (conf_off (by omega) (by omega) (by omega)).symm
  rw [e1, e2]
  exact illF_sub h1 _ (by omega)
theorem days_sub {d : Dm} (h : Inv d) : ∀ n, d 4 ||| daysF d n 4 = daysF d n 4 := by
  intro n
  induction n with
  | zero => exact sub_rf h.ou
  | succ n ih => exact sub_tr h.ou (h.vDays n).ou (h.vDays (n + 1)).ou ih (day_sub (h.vDays n))
theorem days_add (d : Dm) : ∀ n k, daysF d (k + n) = daysF (daysF d k) n := by
  intro n
  induction n with
  | zero => intro k; rfl
  | succ n ih => intro k; exact congrArg dayF (ih k)
theorem qui_no {d : Dm} (h : Inv d) {k t : Nat} (hk : k ≤ t) (hne : ¬ daysF d k 4 = d 4) : qui d t = false := by
  unfold qui
  refine decide_eq_false (fun he => hne ?_)
  have h1 := days_sub h k
  have h2 := days_sub (h.vDays k) (t - k)
  rw [← days_add, show k + (t - k) = t by omega, he] at h2
  exact (sub_eq h.ou (h.vDays k).ou h1 h2).symm
theorem Sim.outQ {a b : Dm} (h : Sim a b) (hI : Inv a) {sin : Int32} {n : Nat} : outQ a sin n = outQ b sin n := by
  show decide (daysF a n 4 >>> (sin &&& 31) &&& 1 = 1) = decide (daysF b n 4 >>> (sin &&& 31) &&& 1 = 1)
  rw [(h.days hI n).1 4 (by omega)]
theorem Sim.qui {a b : Dm} (h : Sim a b) (hI : Inv a) {t : Nat} : qui a t = qui b t := by
  show decide (daysF a t 4 = a 4) = decide (daysF b t 4 = b 4)
  rw [(h.days hI t).1 4 (by omega), h.1 4 (by omega)]
theorem and_le {x y : Int32} (hx : ∃ n, n ≤ 255 ∧ x = nI n) : ∃ n, n ≤ 255 ∧ x &&& y = nI n := by
  obtain ⟨a, ha, rfl⟩ := hx
  have h0 : nI a &&& y = nI (a &&& y.toBitVec.toNat) := by
    apply Int32.toBitVec_inj.mp
    apply BitVec.eq_of_toNat_eq
    rw [pk_tn (Nat.lt_of_le_of_lt Nat.and_le_left (by omega))]
    show ((nI a).toBitVec &&& y.toBitVec).toNat = _
    rw [BitVec.toNat_and, pk_tn (by omega)]
  exact ⟨_, Nat.le_trans Nat.and_le_left ha, h0⟩
theorem Inv.spa {d : Dm} (h : Inv d) {p k : Nat} (hp : p < 8) : Inv (spaD d p k) := by
  obtain ⟨n, h1, h2⟩ := and_le (y := (1 : Int32) <<< (nI k &&& 31) ^^^ (-1)) (h.t hp)
  exact h.up (Or.inr (by omega)) h2 (fun _ _ => by rw [bnd_t hp]; exact h1)
theorem Inv.kin {d : Dm} (h : Inv d) {p k : Nat} (hp : p < 8) (hk : k < 7) : Inv (kinD d p k) := h.up (Or.inr (by omega)) rfl (fun _ _ => by rw [bnd_k hp]; omega)
theorem Inv.wor {d : Dm} (h : Inv d) {j k : Nat} (hj : j < 6) (hk : k ≤ 40) : Inv (worD d j k) := by
  obtain ⟨n, h1, h2, h3⟩ := h.li hj
  obtain ⟨e1, e2⟩ := cf_parts h3 h1
  refine h.upl (n := 100 * (n / 100) + k) hj ?_ (by omega) (by omega)
  rw [e1, show (100 : Int32) = nI 100 from rfl, pk_mul, nI_add]
theorem Inv.mk {d : Dm} (h : Inv d) {g : Int32} : ∀ n, n ≤ 8 → Inv (mkD d g n) := by
  intro n
  induction n with
  | zero => intro _; exact h
  | succ n ih =>
    intro hn
    unfold mkD
    split
    · exact (ih (by omega)).up (j := 28 + n) (n := 0) (Or.inr (by omega)) rfl (fun _ _ => Nat.zero_le _)
    · exact ih (by omega)
theorem Inv.wat {d : Dm} (h : Inv d) {k : Nat} (hk : k ≤ 9) : Inv (upd d 3 (nI k)) := h.up (Or.inl (by omega)) rfl (fun _ _ => hk)
theorem Sim.mk {a b : Dm} (h : Sim a b) {g : Int32} : ∀ n, Sim (mkD a g n) (mkD b g n) := by
  intro n
  induction n with
  | zero => exact h
  | succ n ih =>
    unfold mkD
    by_cases hg : gB g n = true
    · rw [if_pos hg, if_pos hg]; exact ih.up (by omega) rfl
    · rw [if_neg hg, if_neg hg]; exact ih
theorem Sim.wor {a b : Dm} (h : Sim a b) {j k : Nat} (hj : j < 6) : Sim (worD a j k) (worD b j k) := h.up (by omega) (by rw [h.1 (6 + j) (by omega)])
theorem Sim.spa {a b : Dm} (h : Sim a b) {p k : Nat} (hp : p < nOf a) : Sim (spaD a p k) (spaD b p k) := h.up (by omega) (by rw [h.t hp])
theorem Sim.kin {a b : Dm} (h : Sim a b) {p k : Nat} : Sim (kinD a p k) (kinD b p k) := h.up (by omega) rfl
theorem mk_n {d : Dm} {g : Int32} : ∀ n, nOf (mkD d g n) = nOf d := by
  intro n
  induction n with
  | zero => rfl
  | succ n ih =>
    unfold mkD
    split
    · exact (nOf_upd (by omega)).trans ih
    · exact ih
theorem all_cong {P P' : Nat → Bool} : ∀ n, (∀ k, k < n → P k = P' k) → allN P n = allN P' n := by
  intro n
  induction n with
  | zero => intro _; rfl
  | succ n ih => intro h; rw [allN, allN, ih (fun k hk => h k (by omega)), h n (by omega)]
theorem all_no {P : Nat → Bool} {m : Nat} (h : P m = false) : ∀ n, m < n → allN P n = false := by
  intro n
  induction n with
  | zero => intro hn; omega
  | succ n ih =>
    intro hn
    rw [allN]
    by_cases e : m = n
    · subst e; rw [h]; exact Bool.and_false _
    · rw [ih (by omega)]; rfl
theorem Sim.asT {a b : Dm} (h : Sim a b) (hI : Inv a) {p : Nat} (hp : p < nOf a) {tl : Nat → Int32} {k : Nat} : asT a p tl k = asT b p tl k := by
  show (decide (tl k = -1) || decide (tl k = daysF a k (20 + p))) = (decide (tl k = -1) || decide (tl k = daysF b k (20 + p)))
  rw [(h.days hI k).s (by rw [days_n hI]; exact hp)]
