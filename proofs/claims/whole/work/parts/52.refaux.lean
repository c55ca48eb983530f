section
def pm_gs (o1 o2 : Bool) : Nat := match o1, o2 with
  | false, _ => 1
  | true, false => 2
  | true, true => 0
variable {N a : Nat} {cn : Nat → Nat} {f : Int32}
theorem pm_j1 (h : pm_has N (nI a) = true) (h2 : f < 0) : nI 0 = pm_b (pm_hf N cn (nI a) f) := by simp only [pm_hf, h, pm_has_f1 h2, Bool.and_false]; rfl
theorem pm_j2 (h : pm_has N (nI a) = true) (ha : a < 2 ^ 31) (h2 : nI (cn a) ≤ f) : nI 0 = pm_b (pm_hf N cn (nI a) f) := by
  have h3 : pm_has (cn (nI a).toNatClampNeg) f = false := by rw [nI_clamp ha]; exact pm_has_f2 h2
  simp only [pm_hf, h, h3, Bool.and_false]; rfl
theorem pm_j3 (h : pm_has N (nI a) = true) (ha : a < 2 ^ 31) (h1 : ¬ f < 0) (h2 : ¬ nI (cn a) ≤ f) : nI 1 = pm_b (pm_hf N cn (nI a) f) := by
  have h3 : pm_has (cn (nI a).toNatClampNeg) f = true := by rw [nI_clamp ha]; exact pm_has_t h1 h2
  simp only [pm_hf, h, h3, Bool.and_true]; rfl
/-- an object or nothing, as the reference holds it -/
def pm_v (x : Int32) : Nat := (x + nI 1).toNatClampNeg
theorem pm_v_ok {x : Int32} (hN : N ≤ 400) (h : (decide (x = -1) || pm_has N x) = true) : x + nI 1 = nI (pm_v x) ∧ pm_v x ≤ N ∧ x = nI (pm_v x) - nI 1 := by
  have key : ∃ v : Nat, v ≤ N ∧ x + nI 1 = nI v ∧ x = nI v - nI 1 := by
    rcases pm_tf (decide (x = -1)) with q | q
    · have e := of_decide_eq_true q
      subst e
      exact ⟨0, Nat.zero_le _, by decide +kernel, by decide +kernel⟩
    · rw [q, Bool.false_or] at h
      obtain ⟨m, hm, rfl⟩ := pm_has_of (by omega) h
      exact ⟨m + 1, hm, nI_add m 1, (pk_sub (a := m + 1) (b := 1) (by omega)).symm⟩
  obtain ⟨v, hv, e1, e2⟩ := key
  have e3 : pm_v x = v := by simp only [pm_v]; rw [e1, nI_clamp (by omega)]
  rw [e3]
  exact ⟨e1, hv, e2⟩
theorem pm_nb01 {x : Int32} (h : x = 0 ∨ x = 1) : vp_nar .boolean x = x := by
  rcases h with rfl | rfl <;> decide +kernel
/-- the first n are another's -/
def pm_cp (n : Nat) (f g : Nat → Int32) : Nat → Int32 := fun i => if i < n then f i else g i
theorem pm_cp_0 (f g : Nat → Int32) : pm_cp 0 f g = g := by
  funext i
  simp [pm_cp]
theorem pm_cp_s (n : Nat) (f g : Nat → Int32) : upd (pm_cp n f g) n (f n) = pm_cp (n + 1) f g := by
  funext i
  simp only [upd, pm_cp]
  by_cases h : i = n
  · rw [if_pos h, if_pos (by omega), h]
  · rw [if_neg h]
    by_cases h2 : i < n
    · rw [if_pos h2, if_pos (by omega)]
    · rw [if_neg h2, if_neg (by omega)]
theorem pm_cp_in {n i : Nat} {f g : Nat → Int32} (h : i < n) : pm_cp n f g i = f i := by simp [pm_cp, h]
/-- what the reference's count answers -/
def pq_ct (j N af : Nat) (f cy qc : Nat) (go : Bool) : Int32 := match j with
  | 0 => nI N
  | 1 => nI af
  | 2 => nI f
  | 3 => nI cy
  | 4 => nI qc
  | _ => pm_b go
end
theorem pm_h16 {x : Int32} (h : ¬ x < 0) (h2 : ¬ nI 15 < x) : pm_has 16 x = true := by
  refine pm_has_t h (fun q => h2 ?_)
  rw [Int32.lt_iff_toInt_lt, nI_toInt (by decide)]
  rw [Int32.le_iff_toInt_le, nI_toInt (by decide)] at q
  omega
