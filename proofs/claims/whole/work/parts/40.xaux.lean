/-! ranges of ints, as both classes look at them -/
section
def pm_rng (a b : Nat) (x : Int32) : Bool := decide (nI a ≤ x) && decide (x ≤ nI b)
theorem pm_rng_t {a b : Nat} {x : Int32} (h : nI a ≤ x) (h2 : x ≤ nI b) : pm_rng a b x = true := by simp [pm_rng, h, h2]
theorem pm_rng_f1 {a b : Nat} {x : Int32} (h : ¬ nI a ≤ x) : pm_rng a b x = false := by simp [pm_rng, h]
theorem pm_rng_f2 {a b : Nat} {x : Int32} (h : ¬ x ≤ nI b) : pm_rng a b x = false := by simp [pm_rng, h]
theorem pm_nle {x y : Int32} (h : x < y) : ¬ y ≤ x := by
  rw [Int32.le_iff_toInt_le]
  rw [Int32.lt_iff_toInt_lt] at h
  omega
theorem pm_len {x y : Int32} (h : ¬ x < y) : y ≤ x := by
  rw [Int32.le_iff_toInt_le]
  rw [Int32.lt_iff_toInt_lt] at h
  omega
theorem pm_rng_of {a b : Nat} {x : Int32} (ha : a < 2 ^ 31) (hb : b < 2 ^ 31) (h : pm_rng a b x = true) : ∃ j : Nat, a ≤ j ∧ j ≤ b ∧ x = nI j := by
  simp only [pm_rng, Bool.and_eq_true, decide_eq_true_eq] at h
  have h3 : (nI a).toInt ≤ x.toInt := by
    have := h.1
    rw [Int32.le_iff_toInt_le] at this
    exact this
  have h4 : x.toInt ≤ (nI b).toInt := by
    have := h.2
    rw [Int32.le_iff_toInt_le] at this
    exact this
  rw [nI_toInt hb] at h4
  rw [nI_toInt ha] at h3
  have h0 : ¬ x < 0 := by
    rw [Int32.lt_iff_toInt_lt, Int32.toInt_zero]
    omega
  obtain ⟨j, hj, rfl⟩ := nI_of h0
  rw [nI_toInt hj] at h3 h4
  exact ⟨j, by omega, by omega, rfl⟩
theorem pm_ge0 {x : Int32} (h : ¬ x < 0) : nI 0 ≤ x := by rw [nI_0]; exact pm_len h
theorem pm_lt0 {x : Int32} (h : x < 0) : ¬ nI 0 ≤ x := by rw [nI_0]; exact pm_nle h
theorem gw_S2 {own : String} {i : Nat} {y : MethodName} {c : Cond} (h1 : Cond.methodLink own i y ∈ gw) (h2 : Cond.static y ∈ gw) (h3 : Cond.initialized own ∈ gw) (h5 : c ∈ gw) : GoodIn gw (wsS own i y (c :: gw)) := by
  intro w hw
  simp only [wsS, List.cons_append, List.nil_append, List.mem_cons] at hw
  rcases hw with rfl | rfl | rfl | rfl | hw
  · exact gw_ok h1
  · exact gw_ok h2
  · exact gw_ok h3
  · exact gw_ok h5
  · exact gw_ok hw
/-- whether the latest cycle still holds -/
def pm_still (iC tc : Bool) (fn : Nat) : Bool := !iC && (decide (0 < fn) && !tc)
/-- found and not marked, of the first n -/
def pm_ls (N : Nat) (fd mr : Nat → Int32) : Nat → Nat
  | 0 => 0
  | k + 1 => pm_ls N fd mr k + (if (pm_hm N fd (nI k) && !pm_hm N mr (nI k)) = true then 1 else 0)
theorem pm_ls_t {N : Nat} {fd mr : Nat → Int32} {k : Nat} (h : pm_hm N fd (nI k) = true) (h2 : pm_hm N mr (nI k) = false) : pm_ls N fd mr (k + 1) = pm_ls N fd mr k + 1 := by
  simp only [pm_ls, h, h2]; rfl
theorem pm_ls_f1 {N : Nat} {fd mr : Nat → Int32} {k : Nat} (h : pm_hm N fd (nI k) = false) : pm_ls N fd mr (k + 1) = pm_ls N fd mr k := by
  simp only [pm_ls, h, Bool.false_and]; rfl
theorem pm_ls_f2 {N : Nat} {fd mr : Nat → Int32} {k : Nat} (h2 : pm_hm N mr (nI k) = true) : pm_ls N fd mr (k + 1) = pm_ls N fd mr k := by
  simp only [pm_ls, h2, Bool.not_true, Bool.and_false]; rfl
theorem pm_ls_0 {N : Nat} {fd mr : Nat → Int32} : ∀ n, (∀ k, k < n → pm_hm N fd (nI k) = true → pm_hm N mr (nI k) = true) → pm_ls N fd mr n = 0 := by
  intro n
  induction n with
  | zero => intro _; rfl
  | succ n ih =>
    intro h
    have h1 := ih (fun k hk => h k (by omega))
    rcases pm_tf (pm_hm N fd (nI n)) with q | q
    · rw [pm_ls_f2 (h n (by omega) q)]; exact h1
    · rw [pm_ls_f1 q]; exact h1
end
