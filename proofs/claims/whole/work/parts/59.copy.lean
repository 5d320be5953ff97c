section R20
theorem nI_int {a : Nat} (ha : a < 2 ^ 31) : (nI a).toInt = (a : Int) := by
  have h0 : 0 ≤ (nI a).toInt := by
    have := nI_pos' ha
    rw [Int32.le_iff_toInt_le] at this
    exact this
  have h2 : (nI a).toNatClampNeg = a := nI_clamp ha
  have h3 : (nI a).toNatClampNeg = (nI a).toInt.toNat := rfl
  omega
theorem add_cmp {a c S : Nat} (ha : a < 2 ^ 31) (hc : c < 2 ^ 31) (hS : S ≤ 40) : (0 < lg_cmp ((nI a).toInt64 + (nI c).toInt64) (nI S).toInt64) ↔ S < a + c := by
  have e : ((nI a).toInt64 + (nI c).toInt64).toInt = (a : Int) + c := by
    rw [Int64.toInt_add, Int32.toInt_toInt64, Int32.toInt_toInt64, nI_int ha, nI_int hc]
    exact Int.bmod_eq_of_le (by omega) (by omega)
  have eS : ((nI S).toInt64).toInt = (S : Int) := by rw [Int32.toInt_toInt64, nI_int (by omega)]
  unfold lg_cmp
  by_cases h : (nI S).toInt64 < (nI a).toInt64 + (nI c).toInt64
  · rw [if_pos h]
    rw [Int64.lt_iff_toInt_lt, e, eS] at h
    exact ⟨fun _ => by omega, fun _ => by decide⟩
  · rw [if_neg h]
    rw [Int64.lt_iff_toInt_lt, e, eS] at h
    refine ⟨fun q => ?_, fun q => by omega⟩
    split at q <;> exact absurd q (by decide)
end R20
