
def hasB (r : Nat × Nat) (l : List (Nat × Nat)) : Bool := l.any (fun q => q.1 == r.1 && q.2 == r.2)
def ndB : List (Nat × Nat) → Bool
  | [] => true
  | a :: l => !hasB a l && ndB l
def twB (nP : Nat) (T : Nat → CS) : Bool := (List.range nP).all (fun p => ndB (rdC (T p)) && (List.range nP).all (fun q => q == p || (rdC (T p)).all (fun r => !hasB r (rdC (T q)))))
theorem hasB_of {r : Nat × Nat} {l : List (Nat × Nat)} (h : r ∈ l) : hasB r l = true := List.any_eq_true.mpr ⟨r, h, by simp⟩
theorem ndB_of : ∀ (l : List (Nat × Nat)), ndB l = true → l.Nodup
  | [], _ => List.nodup_nil
  | a :: l, h => by
    simp only [ndB, Bool.and_eq_true, Bool.not_eq_true'] at h
    exact List.nodup_cons.mpr ⟨fun hm => by rw [hasB_of hm] at h; exact absurd h.1 (by decide), ndB_of l h.2⟩
theorem tw_of {nP : Nat} {T : Nat → CS} (h : twB nP T = true) : TW nP T := by
  intro p hp
  have h1 := List.all_eq_true.mp h p (List.mem_range.mpr hp)
  rw [Bool.and_eq_true] at h1
  refine ⟨ndB_of _ h1.1, fun r hr q hq hne hm => ?_⟩
  have h2 := List.all_eq_true.mp h1.2 q (List.mem_range.mpr hq)
  rw [Bool.or_eq_true] at h2
  rcases h2 with h2 | h2
  · exact hne (by simpa using h2)
  · have h3 := List.all_eq_true.mp h2 r hr
    rw [hasB_of hm] at h3
    exact absurd h3 (by decide)

set_option maxRecDepth 100000 in
theorem twM : TW 11 TM := tw_of (by decide +kernel)
set_option maxRecDepth 100000 in
theorem twC : TW 51 TC := tw_of (by decide +kernel)
theorem tcM : ∀ i, i < 3 → TC (1 + 12 * i) = .inl (0, [.inl (i, 1), .inl (i, 3), .inl (i, 4), .inl (i, 5), .inl (i, 2), .inl (i, 0), .inr (.inl (2 + 12 * i)), .inr (.inl (3 + 12 * i)), .inr (.inl (4 + 12 * i))]) := by intro i h; rcases (show i = 0 ∨ i = 1 ∨ i = 2 by omega) with rfl | rfl | rfl <;> rfl
theorem tcL : ∀ i, i < 3 → TC (2 + 12 * i) = .inr (.inl (0, i, 6, 6)) := by intro i h; rcases (show i = 0 ∨ i = 1 ∨ i = 2 by omega) with rfl | rfl | rfl <;> rfl
theorem tcS : ∀ i, i < 3 → TC (3 + 12 * i) = .inr (.inl (0, i, 60, 10)) := by intro i h; rcases (show i = 0 ∨ i = 1 ∨ i = 2 by omega) with rfl | rfl | rfl <;> rfl
theorem tcR : ∀ i, i < 3 → TC (4 + 12 * i) = .inr (.inr (2, [5 + 12 * i + 0, 5 + 12 * i + 1, 5 + 12 * i + 2, 5 + 12 * i + 3, 5 + 12 * i + 4, 5 + 12 * i + 5, 5 + 12 * i + 6, 5 + 12 * i + 7])) := by intro i h; rcases (show i = 0 ∨ i = 1 ∨ i = 2 by omega) with rfl | rfl | rfl <;> rfl
theorem tcP : ∀ i, i < 3 → ∀ k, k < 8 → TC (5 + 12 * i + k) = .inl (1, [.inl (i, 12 + k), .inl (i, 20 + k), .inl (i, 28 + k), .inl (i, 36 + k), .inl (i, 44 + k), .inl (i, 52 + k)]) := by
  intro i h k hk; rcases (show i = 0 ∨ i = 1 ∨ i = 2 by omega) with rfl | rfl | rfl <;> rcases (show k = 0 ∨ k = 1 ∨ k = 2 ∨ k = 3 ∨ k = 4 ∨ k = 5 ∨ k = 6 ∨ k = 7 by omega) with rfl | rfl | rfl | rfl | rfl | rfl | rfl | rfl <;> rfl
theorem tcT : ∀ t, t < 4 → TC (43 + 2 * t) = .inl (4, [.inl (7 + t, 0), .inl (7 + t, 1), .inr (.inl (44 + 2 * t))]) := by intro t h; rcases (show t = 0 ∨ t = 1 ∨ t = 2 ∨ t = 3 by omega) with rfl | rfl | rfl | rfl <;> rfl
theorem tcN : ∀ t, t < 4 → TC (44 + 2 * t) = .inr (.inl (0, 7 + t, 2, 40)) := by intro t h; rcases (show t = 0 ∨ t = 1 ∨ t = 2 ∨ t = 3 by omega) with rfl | rfl | rfl | rfl <;> rfl
