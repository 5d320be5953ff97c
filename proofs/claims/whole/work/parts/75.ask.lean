section PE2
theorem wi_nn {v : Int32} {t : Nat} (ht : t < 1000) (h : wi v (nI t) = true) : nn v ≤ t ∧ v = nI (nn v) := by
  rcases wi_cases v (show t < 2 ^ 31 by omega) with ⟨q, h1, h2, -⟩ | h2
  · rw [h2, nn_nI (by omega)]; exact ⟨h1, rfl⟩
  · rw [h2] at h; cases h
theorem isP_nn {d : Dm} (hI : Inv d) {v : Int32} (h : isP d v = true) : nn v < nOf d ∧ v = nI (nn v) ∧ nn v < 8 := by
  rcases at_cases hI v with ⟨q, h1, h2, h3, -, -⟩ | ⟨-, h2⟩
  · rw [h3, nn_nI (by omega)]; exact ⟨h1, rfl, h2⟩
  · rw [h2] at h; cases h
theorem Sim.pr {a b : Dm} (h : Sim a b) (v : Int32) : isP a v = isP b v := by unfold isP; rw [h.1 0 (by omega)]
theorem Sim.full {a b : Dm} (h : Sim a b) : ∀ n, n ≤ nOf a → fullO a n = fullO b n ∧ ∀ k, fullO b n = some k → k < n := by
  intro n
  induction n with
  | zero => intro _; exact ⟨rfl, fun k h => by cases h⟩
  | succ n ih =>
    intro hn
    obtain ⟨e1, e2⟩ := ih (by omega)
    rw [fullO, fullO, e1]
    cases hb : fullO b n with
    | none => exact ⟨rfl, fun k h => by injection h with h; omega⟩
    | some q =>
      have hq := e2 q hb
      simp only
      rw [h.s (show q < nOf a by omega), h.s (show n < nOf a by omega)]
      exact ⟨rfl, fun k hk => by split at hk <;> (injection hk with hk; omega)⟩
theorem ite_b {c : Bool} {α : Type} {x x' y y' : α} (h : c = true → x = x') (hy : y = y') : (if c then x else y) = (if c then x' else y') := by
  cases c with
  | true => exact h rfl
  | false => exact hy
theorem q_lsd {a b : Dm} (h : Sim a b) (i : Int32) : lsdX a i = lsdX b i := by
  unfold lsdX
  exact ite_b (fun q => by rw [h.1 _ (by have := (wi_nn (t := 5) (by omega) q).1; omega)]) rfl
theorem q_of {a b : Dm} (h : Sim a b) (hI : Inv a) (p what : Int32) : ofX a p what = ofX b p what := by
  unfold ofX
  rw [h.pr]
  refine ite_b (fun q => ?_) rfl
  rw [Bool.and_eq_true, ← h.pr] at q
  rw [h.tell (isP_nn hI q.1).1]
theorem q_swe {a b : Dm} (h : Sim a b) (hI : Inv a) (p cf : Int32) : sweX a p cf = sweX b p cf := by
  unfold sweX
  rw [h.pr]
  refine ite_b (fun q => ?_) rfl
  rw [Bool.and_eq_true, ← h.pr] at q
  rw [h.swell (isP_nn hI q.1).1]
theorem q_goe {a b : Dm} (h : Sim a b) (sin : Int32) : goeX a sin = goeX b sin := by
  unfold goeX
  refine ite_b (fun q => ?_) rfl
  rw [h.best (P' := takB b sin) (nOf a) (Nat.le_refl _) (fun p hp => h.tak hp), h.n]
theorem q_now {a b : Dm} (h : Sim a b) (what : Int32) : nowX a what = nowX b what := by
  unfold nowX
  rw [h.1 1 (by omega), h.1 4 (by omega), h.1 5 (by omega), h.tog (nOf a) (Nat.le_refl _), h.sum (nOf a) (Nat.le_refl _), h.sum (nOf a) (Nat.le_refl _), h.tog (nOf a) (Nat.le_refl _), (h.full (nOf a) (Nat.le_refl _)).1, h.n]
theorem q_ahe {a b : Dm} (h : Sim a b) (hI : Inv a) (p what n : Int32) : aheX a p what n = aheX b p what n := by
  unfold aheX
  rw [h.pr]
  refine ite_b (fun q => ?_) rfl
  rw [Bool.and_eq_true, Bool.and_eq_true, ← h.pr] at q
  rw [(h.days hI (nn n)).tell (by rw [days_n hI]; exact (isP_nn hI q.1.1).1)]
theorem q_ill {a b : Dm} (h : Sim a b) (hI : Inv a) (p : Int32) : illX a p = illX b p := by
  unfold illX
  rw [h.pr]
  refine ite_b (fun q => ?_) rfl
  rw [← h.pr] at q
  have hp := (isP_nn hI q).1
  refine congrArg nS (fst_cong _ (fun k _ => ?_))
  unfold illQ
  rw [h.il hp, (h.days hI k).il (by rw [days_n hI]; exact hp)]
theorem q_out {a b : Dm} (h : Sim a b) (hI : Inv a) (sin : Int32) : outX a sin = outX b sin := by
  unfold outX
  refine ite_b (fun q => ?_) rfl
  refine congrArg nS (fst_cong _ (fun k _ => ?_))
  unfold outQ
  rw [(h.days hI k).1 4 (by omega)]
theorem q_wis {a b : Dm} (h : Sim a b) (hI : Inv a) (p v : Int32) : wisX a p v = wisX b p v := by
  unfold wisX
  rw [h.pr]
  refine ite_b (fun q => ?_) rfl
  rw [Bool.and_eq_true, ← h.pr] at q
  refine congrArg nS (fst_cong _ (fun k _ => ?_))
  unfold wisQ
  rw [(h.days hI k).kn (by rw [days_n hI]; exact (isP_nn hI q.1).1)]
theorem q_whn {a b : Dm} (h : Sim a b) (hI : Inv a) (p v : Int32) : whnX a p v = whnX b p v := by
  unfold whnX
  rw [h.pr]
  refine ite_b (fun q => ?_) rfl
  rw [Bool.and_eq_true, ← h.pr] at q
  refine congrArg nS (fst_cong _ (fun k _ => ?_))
  unfold whnQ
  rw [(h.days hI k).s (by rw [days_n hI]; exact (isP_nn hI q.1).1)]
theorem n_wor {a : Dm} {j k : Nat} : nOf (worD a j k) = nOf a := by unfold worD; exact nOf_upd (by omega)
theorem q_wor {a b : Dm} (h : Sim a b) (hI : Inv a) (i n : Int32) : worX a i n = worX b i n := by
  unfold worX
  refine ite_b (fun q => ?_) rfl
  rw [Bool.and_eq_true] at q
  have hj : nn i < 6 := by have := (wi_nn (t := 5) (by omega) q.1).1; omega
  refine congrArg wS (fst_cong _ (fun k hk => ?_))
  unfold worQ
  have h2 := (h.wor (k := 40 - k) hj).days (hI.wor hj (by omega)) (nn n)
  rw [h2.sum (nOf a) (by rw [days_n (hI.wor hj (by omega)), n_wor]; exact Nat.le_refl _), h.sum (nOf a) (Nat.le_refl _), h.n]
theorem q_wat {a b : Dm} (h : Sim a b) (hI : Inv a) (n : Int32) : watX a n = watX b n := by
  unfold watX
  refine ite_b (fun q => ?_) rfl
  refine congrArg nS (fst_cong _ (fun k hk => ?_))
  unfold watQ qui
  have h1 : Sim (upd a 3 (nI k)) (upd b 3 (nI k)) := h.up (by omega) rfl
  rw [(h1.days (hI.wat (by omega)) (nn n)).1 4 (by omega), h1.1 4 (by omega)]
theorem amin_cong {f f' : Nat → Int32} {l0 : Int32} : ∀ n, (∀ k, k < n → f k = f' k) → amin f l0 n = amin f' l0 n := by
  intro n
  induction n with
  | zero => intro _; rfl
  | succ n ih => intro h; rw [amin, amin, ih (fun k hk => h k (by omega)), h n (by omega)]
theorem q_spa {a b : Dm} (h : Sim a b) (hI : Inv a) (p n : Int32) : spaX a p n = spaX b p n := by
  unfold spaX
  rw [h.pr]
  refine ite_b (fun q => ?_) rfl
  rw [Bool.and_eq_true, ← h.pr] at q
  obtain ⟨hp, -, hp8⟩ := isP_nn hI q.1
  rw [amin_cong 8 (fun k hk => ?_)]
  unfold spaV
  have h1 : Sim (spaD a (nn p) k) (spaD b (nn p) k) := by unfold spaD; exact h.up (by omega) (by rw [h.t hp])
  have n1 : nOf (spaD a (nn p) k) = nOf a := by unfold spaD; exact nOf_upd (by omega)
  exact (h1.days (hI.spa hp8) (nn n)).s (by rw [days_n (hI.spa hp8), n1]; exact hp)
theorem n_kin {a : Dm} {p k : Nat} : nOf (kinD a p k) = nOf a := by unfold kinD; exact nOf_upd (by omega)
theorem kinV_s {a b : Dm} (h : Sim a b) (hI : Inv a) {p t k : Nat} (hp : p < 8) (hk : k < 7) : kinV a p t k = kinV b p t k := by
  unfold kinV
  have h1 := (h.kin (p := p) (k := k)).days (hI.kin hp hk) t
  rw [h1.sum (nOf a) (by rw [days_n (hI.kin hp hk), n_kin]; exact Nat.le_refl _), h.n]
variable {l : Launch} {sk : (Nat → Nat) × (Nat → Nat)} {D : va_G} {cy : Nat → ClassId} {Ac Ar : Nat → Nat} {Mc Mr : Mem}

theorem d_listed (h : Rel Mc Mr) (i : Int32) : DUO Rel l sk D cy Ac Ar mX6_listed mX7_listed [.int i] Value.int Mc Mr := duo_q h (h := 2) (h' := 2) (by decide) (by decide) (fun X => k_X6_listed i Mc h.ci) (fun X => m_listed i Mr h.iv) (q_lsd h.1.1 i)
theorem d_of (h : Rel Mc Mr) (p what : Int32) : DUO Rel l sk D cy Ac Ar mX6_of mX7_of [.int p, .int what] Value.int Mc Mr := duo_q h (h := 3) (h' := 3) (by decide) (by decide) (fun X => k_X6_of p what Mc h.ci) (fun X => m_of p what Mr h.iv) (q_of h.1.1 h.1.2.1 p what)
theorem d_swells (h : Rel Mc Mr) (p cf : Int32) : DUO Rel l sk D cy Ac Ar mX6_swells mX7_swells [.int p, .int cf] Value.int Mc Mr := duo_q h (h := 2) (h' := 2) (by decide) (by decide) (fun X => k_X6_swells p cf Mc h.ci) (fun X => m_swells p cf Mr h.iv) (q_swe h.1.1 h.1.2.1 p cf)
theorem d_goes (h : Rel Mc Mr) (sin : Int32) : DUO Rel l sk D cy Ac Ar mX6_goes mX7_goes [.int sin] Value.int Mc Mr := duo_q h (h := 3) (h' := 4) (by decide) (by decide) (fun X => k_X6_goes sin Mc h.ci) (fun X => m_goes sin Mr h.iv) (q_goe h.1.1 sin)
theorem d_now (h : Rel Mc Mr) (what : Int32) : DUO Rel l sk D cy Ac Ar mX6_now mX7_now [.int what] Value.int Mc Mr := duo_q h (h := 4) (h' := 2) (by decide) (by decide) (fun X => k_X6_now what Mc h.ci) (fun X => m_now what Mr h.iv) (q_now h.1.1 what)
theorem d_ahead (h : Rel Mc Mr) (p what n : Int32) : DUO Rel l sk D cy Ac Ar mX6_ahead mX7_ahead [.int p, .int what, .int n] Value.int Mc Mr := duo_q h (h := 6) (h' := 7) (by decide) (by decide) (fun X => k_X6_ahead p what n Mc h.ci) (fun X => m_ahead p what n Mr h.iv) (q_ahe h.1.1 h.1.2.1 p what n)
theorem d_ill (h : Rel Mc Mr) (p : Int32) : DUO Rel l sk D cy Ac Ar mX6_ill mX7_ill [.int p] Value.int Mc Mr := duo_q h (h := 6) (h' := 7) (by decide) (by decide) (fun X => k_X6_ill p Mc h.ci) (fun X => m_ill p Mr h.iv) (q_ill h.1.1 h.1.2.1 p)
theorem d_out (h : Rel Mc Mr) (sin : Int32) : DUO Rel l sk D cy Ac Ar mX6_out mX7_out [.int sin] Value.int Mc Mr := duo_q h (h := 6) (h' := 6) (by decide) (by decide) (fun X => k_X6_out sin Mc h.ci) (fun X => m_out sin Mr h.iv) (q_out h.1.1 h.1.2.1 sin)
theorem d_wise (h : Rel Mc Mr) (p v : Int32) : DUO Rel l sk D cy Ac Ar mX6_wise mX7_wise [.int p, .int v] Value.int Mc Mr := duo_q h (h := 6) (h' := 6) (by decide) (by decide) (fun X => k_X6_wise p v Mc h.ci) (fun X => m_wise p v Mr h.iv) (q_wis h.1.1 h.1.2.1 p v)
theorem d_when (h : Rel Mc Mr) (p v : Int32) : DUO Rel l sk D cy Ac Ar mX6_when mX7_when [.int p, .int v] Value.int Mc Mr := duo_q h (h := 6) (h' := 7) (by decide) (by decide) (fun X => k_X6_when p v Mc h.ci) (fun X => m_when p v Mr h.iv) (q_whn h.1.1 h.1.2.1 p v)
theorem d_wordsFor (h : Rel Mc Mr) (i n : Int32) : DUO Rel l sk D cy Ac Ar mX6_wordsFor mX7_wordsFor [.int i, .int n] Value.int Mc Mr := duo_q h (h := 6) (h' := 8) (by decide) (by decide) (fun X => k_X6_wordsFor i n Mc h.ci) (fun X => m_wordsFor i n Mr h.iv) (q_wor h.1.1 h.1.2.1 i n)
theorem d_waterFor (h : Rel Mc Mr) (n : Int32) : DUO Rel l sk D cy Ac Ar mX6_waterFor mX7_waterFor [.int n] Value.int Mc Mr := duo_q h (h := 6) (h' := 8) (by decide) (by decide) (fun X => k_X6_waterFor n Mc h.ci) (fun X => m_waterFor n Mr h.iv) (q_wat h.1.1 h.1.2.1 n)
theorem d_spare (h : Rel Mc Mr) (p n : Int32) : DUO Rel l sk D cy Ac Ar mX6_spare mX7_spare [.int p, .int n] Value.int Mc Mr := duo_q h (h := 6) (h' := 8) (by decide) (by decide) (fun X => k_X6_spare p n Mc h.ci) (fun X => m_spare p n Mr h.iv) (q_spa h.1.1 h.1.2.1 p n)
end PE2
