/-! small rows: booleans as the machine has them, objects' numbers, a loop of the machine -/
section
def pm_b (b : Bool) : Int32 := match b with
  | true => nI 1
  | false => nI 0
theorem pm_has_f1 {N : Nat} {x : Int32} (h : x < 0) : pm_has N x = false := by
  have h1 : ¬ (0 : Int32) ≤ x := by
    rw [Int32.le_iff_toInt_le]
    rw [Int32.lt_iff_toInt_lt] at h
    omega
  simp [pm_has, h1]
theorem pm_has_f2 {N : Nat} {x : Int32} (h : nI N ≤ x) : pm_has N x = false := by
  have h1 : ¬ x < nI N := by
    rw [Int32.lt_iff_toInt_lt]
    rw [Int32.le_iff_toInt_le] at h
    omega
  simp [pm_has, h1]
theorem pm_has_t {N : Nat} {x : Int32} (h : ¬ x < 0) (h2 : ¬ nI N ≤ x) : pm_has N x = true := by
  have h1 : (0 : Int32) ≤ x := by
    rw [Int32.le_iff_toInt_le]
    rw [Int32.lt_iff_toInt_lt] at h
    omega
  have h3 : x < nI N := by
    rw [Int32.lt_iff_toInt_lt]
    rw [Int32.le_iff_toInt_le] at h2
    omega
  simp [pm_has, h1, h3]
theorem pm_has_in {N M : Nat} {x : Int32} (hN : N ≤ M) (hM : M < 2 ^ 31) (h : pm_has N x = true) : vp_in x M := by
  obtain ⟨j, hj, rfl⟩ := pm_has_of (by omega) h
  exact vp_in_nI (by omega) hM
/-- object k has such a field -/
def pm_hf (N : Nat) (cn : Nat → Nat) (k f : Int32) : Bool := pm_has N k && pm_has (cn k.toNatClampNeg) f
theorem pm_h1 {N : Nat} {x : Int32} (h : x < 0) : nI 0 = pm_b (pm_has N x) := by rw [pm_has_f1 h]; rfl
theorem pm_h2 {N : Nat} {x : Int32} (h : nI N ≤ x) : nI 0 = pm_b (pm_has N x) := by rw [pm_has_f2 h]; rfl
theorem pm_h3 {N : Nat} {x : Int32} (h : ¬ x < 0) (h2 : ¬ nI N ≤ x) : nI 1 = pm_b (pm_has N x) := by rw [pm_has_t h h2]; rfl
theorem pm_h4 {b : Bool} {x : Int32} (h : x = -1) : nI 1 = pm_b (decide (x = -1) || b) := by rw [decide_eq_true h]; rfl
theorem pm_h5 {b : Bool} {x : Int32} (h : ¬ x = -1) (h2 : b = true) : nI 1 = pm_b (decide (x = -1) || b) := by rw [decide_eq_false h, h2]; rfl
theorem pm_h6 {b : Bool} {x : Int32} (h : ¬ x = -1) (h2 : b = false) : nI 0 = pm_b (decide (x = -1) || b) := by rw [decide_eq_false h, h2]; rfl
theorem pm_h7 {N : Nat} {cn : Nat → Nat} {k f : Int32} (h : pm_has N k = false) : nI 0 = pm_b (pm_hf N cn k f) := by simp only [pm_hf, h, Bool.false_and]; rfl
theorem pm_h8 {N : Nat} {cn : Nat → Nat} {k f : Int32} (h : pm_has N k = true) (h2 : f < 0) : nI 0 = pm_b (pm_hf N cn k f) := by simp only [pm_hf, h, pm_has_f1 h2, Bool.and_false]; rfl
theorem pm_h9 {N : Nat} {cn : Nat → Nat} {k f : Int32} (h : pm_has N k = true) (h2 : pm_nf9 cn k.toNatClampNeg ≤ f) : nI 0 = pm_b (pm_hf N cn k f) := by
  have h3 : pm_has (cn k.toNatClampNeg) f = false := pm_has_f2 h2
  simp only [pm_hf, h, h3, Bool.and_false]; rfl
theorem pm_h10 {N : Nat} {cn : Nat → Nat} {k f : Int32} (h : pm_has N k = true) (h1 : ¬ f < 0) (h2 : ¬ pm_nf9 cn k.toNatClampNeg ≤ f) : nI 1 = pm_b (pm_hf N cn k f) := by
  have h3 : pm_has (cn k.toNatClampNeg) f = true := pm_has_t h1 h2
  simp only [pm_hf, h, h3, Bool.and_true]; rfl
theorem pm_hf_of {N : Nat} {cn : Nat → Nat} {k f : Int32} (hN : N < 2 ^ 31) (hc : ∀ i, i < N → cn i ≤ 20) (h : pm_hf N cn k f = true) : ∃ a j : Nat, a < N ∧ j < cn a ∧ k = nI a ∧ f = nI j := by
  simp only [pm_hf, Bool.and_eq_true] at h
  obtain ⟨a, ha, rfl⟩ := pm_has_of hN h.1
  have h2 := h.2
  rw [nI_clamp (by omega)] at h2
  have := hc a ha
  obtain ⟨j, hj, rfl⟩ := pm_has_of (by omega) h2
  exact ⟨a, j, ha, hj, rfl, rfl⟩
theorem pm_hf_nI {N : Nat} {cn : Nat → Nat} {a j : Nat} (hN : N < 2 ^ 31) (hc : cn a < 2 ^ 31) (ha : a < N) (hj : j < cn a) : pm_hf N cn (nI a) (nI j) = true := by
  simp only [pm_hf, Bool.and_eq_true]
  rw [nI_clamp (by omega)]
  exact ⟨pm_has_nI hN ha, pm_has_nI hc hj⟩
/-- a loop of the machine: its state x, what holds at its head, a measure that falls -/
theorem lp_loop {σ : Type} {p : Program} {l : Launch} {e : Env} {R : Room} {s : State} {m : MethodId} {args : Array Value} {below : List Frame} {meth : Method} {c : Code} {cells slots : Nat} {Q : State → Prop} {head : Nat} {stk : List Value}
    (I : σ → Heap → List Loc → Array Slot → Prop) (μ : σ → Nat)
    (step : ∀ (x : σ) (H : Heap) (locs : List Loc) (ls : Array Slot), I x H locs ls → (∀ (y : σ) (H' : Heap) (locs' : List Loc) (ls' : Array Slot), I y H' locs' ls' → μ y < μ x → W p l e R s m args below meth c H' locs' cells slots Q (F0 m head ls' stk)) → W p l e R s m args below meth c H locs cells slots Q (F0 m head ls stk))
    (x : σ) (H : Heap) (locs : List Loc) (ls : Array Slot) (h : I x H locs ls) : W p l e R s m args below meth c H locs cells slots Q (F0 m head ls stk) := by
  have key : ∀ (n : Nat) (x : σ) (H : Heap) (locs : List Loc) (ls : Array Slot), μ x < n → I x H locs ls → W p l e R s m args below meth c H locs cells slots Q (F0 m head ls stk) := by
    intro n
    induction n with
    | zero => intro x _ _ _ h; omega
    | succ n ih => intro x H locs ls hm hI; exact step x H locs ls hI (fun y H' locs' ls' hy hlt => ih y H' locs' ls' (by omega) hy)
  exact key (μ x + 1) x H locs ls (Nat.lt_succ_self _) h
end
section
/-- what a field has, as fieldOf answers -/
def pm_fo (N : Nat) (cn : Nat → Nat) (fl : Nat → Int32) (k f : Int32) : Int32 := if pm_hf N cn k f = true then fl (k.toNatClampNeg * 20 + f.toNatClampNeg) else -1
theorem pm_fo_t {N : Nat} {cn : Nat → Nat} {fl : Nat → Int32} {a j : Nat} (h : pm_hf N cn (nI a) (nI j) = true) (ha : a < 2 ^ 31) (hj : j < 2 ^ 31) : fl (a * 20 + j) = pm_fo N cn fl (nI a) (nI j) := by
  simp only [pm_fo]
  rw [if_pos h, nI_clamp ha, nI_clamp hj]
theorem pm_fo_f {N : Nat} {cn : Nat → Nat} {fl : Nat → Int32} {k f : Int32} (h : pm_hf N cn k f = false) : -1 = pm_fo N cn fl k f := by
  simp only [pm_fo]
  rw [if_neg (by rw [h]; decide)]
end
section
theorem pm_k1 {lim kc nf j : Nat} {mr kp : Nat → Int32} (h1 : kc < lim) (h2 : kc < 64) : (mr, upd kp kc (nI j), kc + 1, nf) = pm_keep lim (mr, kp, kc, nf) j := by
  simp only [pm_keep]; rw [if_pos ⟨h1, h2⟩]
theorem pm_k2 {lim kc nf j : Nat} {mr kp : Nat → Int32} (h1 : ¬ (kc < lim ∧ kc < 64)) (h2 : j < nf) : (mr, kp, kc, j) = pm_keep lim (mr, kp, kc, nf) j := by
  simp only [pm_keep]; rw [if_neg h1, if_pos h2]
theorem pm_k3 {lim kc nf j : Nat} {mr kp : Nat → Int32} (h1 : ¬ (kc < lim ∧ kc < 64)) (h2 : nf ≤ j) : (mr, kp, kc, nf) = pm_keep lim (mr, kp, kc, nf) j := by
  simp only [pm_keep]; rw [if_neg h1, if_neg (by omega)]
theorem pm_keep_mk (lim : Nat) (mr kp : Nat → Int32) (kc nf j : Nat) : (pm_keep lim (mr, kp, kc, nf) j).1 = mr := by
  simp only [pm_keep]
  split
  · rfl
  · split <;> rfl
theorem pm_p1 {N lim : Nat} {P : pm_P} {x : Int32} (h : pm_has N x = false) : P = pm_put N lim P x := by
  obtain ⟨mr, kp, kc, nf⟩ := P
  simp only [pm_put]; rw [if_neg (by rw [h]; decide)]
theorem pm_p2 {N lim kc nf k : Nat} {mr kp : Nat → Int32} (h : pm_has N (nI k) = true) (hk : k < 2 ^ 31) (h2 : ¬ mr k = 0) : (mr, kp, kc, nf) = pm_put N lim (mr, kp, kc, nf) (nI k) := by
  simp only [pm_put]; rw [if_pos h, nI_clamp hk, if_neg h2]
theorem pm_p3 {N lim kc nf k : Nat} {mr kp : Nat → Int32} (h : pm_has N (nI k) = true) (hk : k < 2 ^ 31) (h2 : mr k = 0) : pm_keep lim (upd mr k 1, kp, kc, nf) k = pm_put N lim (mr, kp, kc, nf) (nI k) := by
  simp only [pm_put]; rw [if_pos h, nI_clamp hk, if_pos h2]
theorem pm_g1 {N lim : Nat} {cn : Nat → Nat} {fl : Nat → Int32} {P : pm_P} {x : Int32} (h : pm_has N x = false) : P = pm_go N cn fl lim P x := by
  simp only [pm_go]; rw [if_neg (by rw [h]; decide)]
theorem pm_g2 {N lim a : Nat} {cn : Nat → Nat} {fl : Nat → Int32} {P : pm_P} (h : pm_has N (nI a) = true) (ha : a < 2 ^ 31) : pm_mf N lim (fun j => fl (a * 20 + j)) (cn a) P = pm_go N cn fl lim P (nI a) := by
  simp only [pm_go]; rw [if_pos h, nI_clamp ha]
end
section
theorem pm_z1 : vp_nar .boolean (nI 1) = 1 := by decide +kernel
theorem pm_z0 : vp_nar .boolean (nI 0) = 0 := by decide +kernel
theorem pm_nz1 : narrow .boolean (.int (nI 1)) = .int (nI 1) := by decide +kernel
theorem pm_nz0 : narrow .boolean (.int (nI 0)) = .int (nI 0) := by decide +kernel
theorem pm_nzb (b : Bool) : narrow .boolean (.int (pm_b b)) = .int (pm_b b) := by cases b; exact pm_nz0; exact pm_nz1
variable {N : Nat} {cn : Nat → Nat} {fl rt : Nat → Int32} {mr ch kp mk9 kp9 : Nat → Int32} {lim kc nr nf nc kc9 nf9 : Nat}
theorem pm_sA (h : nr < 16) (hw : (mk9, kp9, kc9, nf9) = pm_put N lim (mr, kp, kc, nf) (rt nr)) : nI 1 = pm_b (pm_ms N cn fl rt (mr, ch, kp, lim, kc, nr, nf, nc)).1 ∧ (mk9, ch, kp9, lim, kc9, nr + 1, nf9, nc) = (pm_ms N cn fl rt (mr, ch, kp, lim, kc, nr, nf, nc)).2 := by
  simp only [pm_ms]
  rw [if_pos h, ← hw]
  exact ⟨rfl, rfl⟩
theorem pm_sB (h : ¬ nr < 16) (h2 : 0 < kc) (hw : (mk9, kp9, kc9, nf9) = pm_go N cn fl lim (mr, kp, kc - 1, nf) (kp (kc - 1))) : nI 1 = pm_b (pm_ms N cn fl rt (mr, ch, kp, lim, kc, nr, nf, nc)).1 ∧ (mk9, ch, kp9, lim, kc9, nr, nf9, nc) = (pm_ms N cn fl rt (mr, ch, kp, lim, kc, nr, nf, nc)).2 := by
  simp only [pm_ms]
  rw [if_neg h, if_pos h2, ← hw]
  exact ⟨rfl, rfl⟩
theorem pm_sC (h : ¬ nr < 16) (h2 : ¬ 0 < kc) (h3 : nf < N) (h4 : mr nf = 0) : nI 1 = pm_b (pm_ms N cn fl rt (mr, ch, kp, lim, kc, nr, nf, nc)).1 ∧ (mr, ch, kp, lim, kc, nr, nf + 1, nc) = (pm_ms N cn fl rt (mr, ch, kp, lim, kc, nr, nf, nc)).2 := by
  simp only [pm_ms]
  rw [if_neg h, if_neg h2, if_pos h3, if_pos h4]
  exact ⟨rfl, rfl⟩
theorem pm_sD (h : ¬ nr < 16) (h2 : ¬ 0 < kc) (h3 : nf < N) (h4 : ¬ mr nf = 0) (hw : (mk9, kp9, kc9, nf9) = pm_go N cn fl lim (mr, kp, kc, nf + 1) (nI nf)) : nI 1 = pm_b (pm_ms N cn fl rt (mr, ch, kp, lim, kc, nr, nf, nc)).1 ∧ (mk9, ch, kp9, lim, kc9, nr, nf9, nc) = (pm_ms N cn fl rt (mr, ch, kp, lim, kc, nr, nf, nc)).2 := by
  simp only [pm_ms]
  rw [if_neg h, if_neg h2, if_pos h3, if_neg h4, ← hw]
  exact ⟨rfl, rfl⟩
theorem pm_sE (h : ¬ nr < 16) (h2 : ¬ 0 < kc) (h3 : ¬ nf < N) : nI 0 = pm_b (pm_ms N cn fl rt (mr, ch, kp, lim, kc, nr, nf, nc)).1 ∧ (mr, ch, kp, lim, kc, nr, nf, nc) = (pm_ms N cn fl rt (mr, ch, kp, lim, kc, nr, nf, nc)).2 := by
  simp only [pm_ms]
  rw [if_neg h, if_neg h2, if_neg h3]
  exact ⟨rfl, rfl⟩
theorem pm_cA (h : ¬ nc < N) : nI 0 = pm_b (pm_cs N cn fl (mr, ch, kp, lim, kc, nr, nf, nc)).1 ∧ (mr, ch, kp, lim, kc, nr, nf, nc) = (pm_cs N cn fl (mr, ch, kp, lim, kc, nr, nf, nc)).2 := by
  simp only [pm_cs]
  rw [if_neg h]
  exact ⟨rfl, rfl⟩
theorem pm_cB (h : nc < N) (h2 : ch nc = 0) : nI 1 = pm_b (pm_cs N cn fl (mr, ch, kp, lim, kc, nr, nf, nc)).1 ∧ (mr, ch, kp, lim, kc, nr, nf, nc + 1) = (pm_cs N cn fl (mr, ch, kp, lim, kc, nr, nf, nc)).2 := by
  simp only [pm_cs]
  rw [if_pos h, if_pos h2]
  exact ⟨rfl, rfl⟩
theorem pm_cC (h : nc < N) (h2 : ¬ ch nc = 0) (h3 : mr nc = 0) : nI 1 = pm_b (pm_cs N cn fl (mr, ch, kp, lim, kc, nr, nf, nc)).1 ∧ (mr, upd ch nc 0, kp, lim, kc, nr, nf, nc + 1) = (pm_cs N cn fl (mr, ch, kp, lim, kc, nr, nf, nc)).2 := by
  simp only [pm_cs]
  rw [if_pos h, if_neg h2, if_pos h3]
  exact ⟨rfl, rfl⟩
theorem pm_cD (h : nc < N) (h2 : ¬ ch nc = 0) (h3 : ¬ mr nc = 0) (hw : (mk9, kp9, kc9, nf9) = pm_go N cn fl lim (mr, kp, kc, nf) (nI nc)) : nI 1 = pm_b (pm_cs N cn fl (mr, ch, kp, lim, kc, nr, nf, nc)).1 ∧ (mk9, upd ch nc 0, kp9, lim, kc9, nr, nf9, nc + 1) = (pm_cs N cn fl (mr, ch, kp, lim, kc, nr, nf, nc)).2 := by
  simp only [pm_cs]
  rw [if_pos h, if_neg h2, if_neg h3, ← hw]
  exact ⟨rfl, rfl⟩
/-- has a mark, as hasMark answers -/
def pm_hm (N : Nat) (mr : Nat → Int32) (x : Int32) : Bool := pm_has N x && !decide (mr x.toNatClampNeg = 0)
theorem pm_hm1 {x : Int32} (h : pm_has N x = false) : nI 0 = pm_b (pm_hm N mr x) := by simp only [pm_hm, h, Bool.false_and]; rfl
theorem pm_hm2 {x : Int32} (h : pm_has N x = true) (h2 : mr x.toNatClampNeg = 0) : nI 0 = pm_b (pm_hm N mr x) := by simp only [pm_hm, h, h2]; rfl
theorem pm_hm3 {x : Int32} (h : pm_has N x = true) (h2 : ¬ mr x.toNatClampNeg = 0) : nI 1 = pm_b (pm_hm N mr x) := by simp only [pm_hm, h, decide_eq_false h2]; rfl
theorem pm_hm_nI {k : Nat} (hN : N < 2 ^ 31) (hk : k < N) : pm_hm N mr (nI k) = !decide (mr k = 0) := by
  simp only [pm_hm, pm_has_nI hN hk, Bool.true_and]
  rw [nI_clamp (by omega)]
end
section
def pm_tg (f : pm_M → Bool × pm_M) (b : Bool) (k : Nat) (M : pm_M) : pm_M := match b with
  | true => pm_run f k M
  | false => M
theorem pm_tg0 {f : pm_M → Bool × pm_M} {b : Bool} {k : Nat} {M T : pm_M} (h : pm_tg f b k M = T) (hk : k = 0) : M = T := by
  subst hk
  cases b <;> exact h
theorem pm_run_s {f : pm_M → Bool × pm_M} {i n : Nat} {M : pm_M} (h : i < n) : pm_tg f (f M).1 (n - (i + 1)) (f M).2 = pm_run f (n - i) M := by
  rw [show n - i = (n - (i + 1)) + 1 by omega]
  simp only [pm_run]
  cases hb : (f M).1 with
  | true => rw [if_pos rfl]; rfl
  | false => rw [if_neg (by decide)]; rfl
end
section
variable {N : Nat} {cn : Nat → Nat} {fl rt : Nat → Int32} {M : pm_M} {i n : Nat}
theorem pm_fsA (h : (pm_ms N cn fl rt M).1 = true) (hi : i < n) : pm_tg (pm_fs N cn fl rt) true (n - (i + 1)) (pm_ms N cn fl rt M).2 = pm_run (pm_fs N cn fl rt) (n - i) M := by
  have e : pm_fs N cn fl rt M = pm_ms N cn fl rt M := by simp only [pm_fs]; rw [if_pos h]
  have q := pm_run_s (f := pm_fs N cn fl rt) (M := M) hi
  rw [e, h] at q
  exact q
theorem pm_fsB (h : (pm_ms N cn fl rt M).1 = false) (h2 : (pm_cs N cn fl (pm_ms N cn fl rt M).2).1 = true) (hi : i < n) : pm_tg (pm_fs N cn fl rt) true (n - (i + 1)) (pm_cs N cn fl (pm_ms N cn fl rt M).2).2 = pm_run (pm_fs N cn fl rt) (n - i) M := by
  have e : pm_fs N cn fl rt M = pm_cs N cn fl (pm_ms N cn fl rt M).2 := by simp only [pm_fs]; rw [if_neg (by rw [h]; decide)]
  have q := pm_run_s (f := pm_fs N cn fl rt) (M := M) hi
  rw [e, h2] at q
  exact q
theorem pm_fsC (h : (pm_ms N cn fl rt M).1 = false) (h2 : (pm_cs N cn fl (pm_ms N cn fl rt M).2).1 = false) (hi : i < n) : pm_tg (pm_fs N cn fl rt) false (n - (i + 1)) (pm_cs N cn fl (pm_ms N cn fl rt M).2).2 = pm_run (pm_fs N cn fl rt) (n - i) M := by
  have e : pm_fs N cn fl rt M = pm_cs N cn fl (pm_ms N cn fl rt M).2 := by simp only [pm_fs]; rw [if_neg (by rw [h]; decide)]
  have q := pm_run_s (f := pm_fs N cn fl rt) (M := M) hi
  rw [e, h2] at q
  exact q
end
section
variable {N : Nat} {cn : Nat → Nat} {fl rt fd od fd1 od1 : Nat → Int32} {c c1 k : Nat}
theorem pm_e1 {F : pm_F} {x : Int32} (h : pm_has N x = false) : F = pm_en N F x := by
  obtain ⟨fd, od, c⟩ := F
  simp only [pm_en]; rw [if_neg (by rw [h]; decide)]
theorem pm_e2 (h : pm_has N (nI k) = true) (hk : k < 2 ^ 31) (h2 : ¬ fd k = 0) : (fd, od, c) = pm_en N (fd, od, c) (nI k) := by
  simp only [pm_en]; rw [if_pos h, nI_clamp hk, if_neg h2]
theorem pm_e3 (h : pm_has N (nI k) = true) (hk : k < 2 ^ 31) (h2 : fd k = 0) (h3 : 400 ≤ c) : (fd, od, c) = pm_en N (fd, od, c) (nI k) := by
  simp only [pm_en]; rw [if_pos h, nI_clamp hk, if_pos h2, if_neg (by omega)]
theorem pm_e4 (h : pm_has N (nI k) = true) (hk : k < 2 ^ 31) (h2 : fd k = 0) (h3 : c < 400) : (upd fd k 1, upd od c (nI k), c + 1) = pm_en N (fd, od, c) (nI k) := by
  simp only [pm_en]; rw [if_pos h, nI_clamp hk, if_pos h2, if_pos h3]
theorem pm_o1 {F : pm_F} {x : Int32} (h : pm_has N x = false) : F = pm_eo N cn fl F x := by
  simp only [pm_eo]; rw [if_neg (by rw [h]; decide)]
theorem pm_o2 {F : pm_F} {a : Nat} (h : pm_has N (nI a) = true) (ha : a < 2 ^ 31) : pm_ef N (fun j => fl (a * 20 + j)) (cn a) F = pm_eo N cn fl F (nI a) := by
  simp only [pm_eo]; rw [if_pos h, nI_clamp ha]
theorem pm_en_c {F : pm_F} {x : Int32} (h : F.2.2 ≤ 400) : (pm_en N F x).2.2 ≤ 400 := by
  obtain ⟨fd, od, c⟩ := F
  simp only [pm_en]
  split
  · split
    · split
      · show c + 1 ≤ 400; omega
      · exact h
    · exact h
  · exact h
theorem pm_ef_c0 {g : Nat → Int32} {F : pm_F} (h : F.2.2 ≤ 400) : ∀ n, (pm_ef N g n F).2.2 ≤ 400 := by
  intro n
  induction n with
  | zero => exact h
  | succ n ih => exact pm_en_c ih
theorem pm_ef_c {g : Nat → Int32} {j : Nat} (h : c ≤ 400) (e : (fd1, od1, c1) = pm_ef N g j (fd, od, c)) : c1 ≤ 400 := by
  have q := pm_ef_c0 (N := N) (g := g) (F := (fd, od, c)) h j
  rw [← e] at q
  exact q
theorem pm_eo_c {x : Int32} (h : c ≤ 400) (e : (fd1, od1, c1) = pm_eo N cn fl (fd, od, c) x) : c1 ≤ 400 := by
  simp only [pm_eo] at e
  split at e
  · exact pm_ef_c h e
  · cases e; exact h
theorem pm_q_s {i : Nat} (h : i < 400) (h2 : i < c) : pm_q N cn fl (400 - (i + 1)) (i + 1) (pm_eo N cn fl (fd, od, c) (od i)) = pm_q N cn fl (400 - i) i (fd, od, c) := by
  rw [show 400 - i = (400 - (i + 1)) + 1 by omega]
  simp only [pm_q]
  rw [if_pos h2]
theorem pm_q_e {n i : Nat} (h : c ≤ i) : (fd, od, c) = pm_q N cn fl n i (fd, od, c) := by
  cases n with
  | zero => rfl
  | succ n => simp only [pm_q]; rw [if_neg (by omega)]
end
