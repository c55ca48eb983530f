section
theorem pm_rng_out {a b : Nat} {x : Int32} (ha : a < 2 ^ 31) (hb : b < 2 ^ 31) (h : pm_rng a b x = false) : x.toInt < (a : Int) ∨ (b : Int) < x.toInt := by
  rcases (show x.toInt < (a : Int) ∨ (a : Int) ≤ x.toInt by omega) with q | q
  · exact Or.inl q
  · rcases (show (b : Int) < x.toInt ∨ x.toInt ≤ (b : Int) by omega) with q2 | q2
    · exact Or.inr q2
    · exfalso
      have h1 : nI a ≤ x := by rw [Int32.le_iff_toInt_le, nI_toInt ha]; exact q
      have h2 : x ≤ nI b := by rw [Int32.le_iff_toInt_le, nI_toInt hb]; exact q2
      rw [pm_rng_t h1 h2] at h
      cases h
/-- what count answers -/
def pm_ct (j N : Nat) (fa : Int32) (f fn qn : Nat) (iC : Bool) : Int32 := match j with
  | 0 => nI N
  | 1 => fa
  | 2 => nI f
  | 3 => nI fn
  | 4 => nI qn
  | _ => pm_b iC
end
