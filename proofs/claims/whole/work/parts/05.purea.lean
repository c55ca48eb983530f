/-! THE PURE SIDE: what the class's marker and search do to numbers, and why they end at what is reached. Nothing here speaks of the machine. -/
section
/-- k is an object's number -/
def pm_has (N : Nat) (x : Int32) : Bool := decide (0 ≤ x) && decide (x < nI N)
theorem pm_has_nI {N j : Nat} (hN : N < 2 ^ 31) (hj : j < N) : pm_has N (nI j) = true := by
  simp only [pm_has, Bool.and_eq_true, decide_eq_true_eq]
  exact ⟨nI_pos' (by omega), nI_lt hj hN⟩
theorem pm_has_of {N : Nat} {x : Int32} (hN : N < 2 ^ 31) (h : pm_has N x = true) : ∃ j : Nat, j < N ∧ x = nI j := by
  simp only [pm_has, Bool.and_eq_true, decide_eq_true_eq] at h
  have h0 : ¬ x < 0 := by
    have := h.1
    rw [Int32.le_iff_toInt_le] at this
    rw [Int32.lt_iff_toInt_lt]
    omega
  obtain ⟨j, hj, rfl⟩ := nI_of h0
  exact ⟨j, (nI_ltI hj hN).mp h.2, rfl⟩
theorem pm_has_cl {N : Nat} {x : Int32} (hN : N < 2 ^ 31) (h : pm_has N x = true) : x.toNatClampNeg < N ∧ x = nI x.toNatClampNeg := by
  obtain ⟨j, hj, rfl⟩ := pm_has_of hN h
  rw [nI_clamp (by omega)]
  exact ⟨hj, rfl⟩
theorem pm_has_no {N : Nat} (x : Int32) (hN : N < 2 ^ 31) (h : ∀ j, j < N → x ≠ nI j) : pm_has N x = false := by
  cases hh : pm_has N x with
  | false => rfl
  | true =>
    obtain ⟨j, hj, e⟩ := pm_has_of hN hh
    exact absurd e (h j hj)
/-- how many of the first n are not 0 -/
def pm_cnt (f : Nat → Int32) : Nat → Nat
  | 0 => 0
  | n + 1 => pm_cnt f n + (if f n = 0 then 0 else 1)
theorem pm_cnt_le (f : Nat → Int32) : ∀ n, pm_cnt f n ≤ n := by
  intro n
  induction n with
  | zero => exact Nat.le_refl 0
  | succ n ih => simp only [pm_cnt]; split <;> omega
theorem pm_cnt_congr {f g : Nat → Int32} : ∀ n, (∀ i, i < n → (f i = 0 ↔ g i = 0)) → pm_cnt f n = pm_cnt g n := by
  intro n
  induction n with
  | zero => intro _; rfl
  | succ n ih =>
    intro h
    have h1 := ih (fun i hi => h i (by omega))
    have h2 := h n (by omega)
    simp only [pm_cnt, h1]
    by_cases hf : f n = 0
    · rw [if_pos hf, if_pos (h2.mp hf)]
    · rw [if_neg hf, if_neg (fun q => hf (h2.mpr q))]
theorem pm_cnt_up {f : Nat → Int32} {k : Nat} {v : Int32} (hv : ¬ v = 0) (h0 : f k = 0) : ∀ n, k < n → pm_cnt (upd f k v) n = pm_cnt f n + 1 := by
  intro n
  induction n with
  | zero => intro h; omega
  | succ n ih =>
    intro h
    by_cases hk : k = n
    · subst hk
      have h1 : pm_cnt (upd f k v) k = pm_cnt f k := pm_cnt_congr k (fun i hi => by rw [pk_un (by omega)])
      simp only [pm_cnt, h1, pk_us, if_neg hv, if_pos h0]
    · have h1 := ih (by omega)
      simp only [pm_cnt, h1]
      rw [pk_un (show n ≠ k by omega)]
      omega
theorem pm_cnt_lt {f : Nat → Int32} {k n : Nat} (h0 : f k = 0) (hk : k < n) : pm_cnt f n < n := by
  have h1 := pm_cnt_up (v := 1) (by decide) h0 n hk
  have h2 := pm_cnt_le (upd f k 1) n
  omega
theorem pm_cnt_0 {f : Nat → Int32} : ∀ n, (∀ i, i < n → f i = 0) → pm_cnt f n = 0 := by
  intro n
  induction n with
  | zero => intro _; rfl
  | succ n ih =>
    intro h
    simp only [pm_cnt, ih (fun i hi => h i (by omega)), if_pos (h n (by omega))]
/-- the first n are 0 -/
def pm_clr (n : Nat) (f : Nat → Int32) : Nat → Int32 := fun i => if i < n then 0 else f i
theorem pm_clr_0 (f : Nat → Int32) : pm_clr 0 f = f := by
  funext i
  simp [pm_clr]
theorem pm_clr_s (n : Nat) (f : Nat → Int32) : upd (pm_clr n f) n 0 = pm_clr (n + 1) f := by
  funext i
  simp only [upd, pm_clr]
  by_cases h : i = n
  · rw [if_pos h, if_pos (by omega)]
  · rw [if_neg h]
    by_cases h2 : i < n
    · rw [if_pos h2, if_pos (by omega)]
    · rw [if_neg h2, if_neg (by omega)]
theorem pm_clr_in {n i : Nat} (f : Nat → Int32) (h : i < n) : pm_clr n f i = 0 := by
  simp [pm_clr, h]
/-! the graph -/
def pm_Ok (N : Nat) (cn : Nat → Nat) (fl rt : Nat → Int32) : Prop :=
  N ≤ 400 ∧ (∀ k, k < N → cn k ≤ 20) ∧ (∀ k, k < N → ∀ j, j < cn k → fl (k * 20 + j) = -1 ∨ ∃ m, m < N ∧ fl (k * 20 + j) = nI m) ∧ (∀ i, i < 16 → rt i = -1 ∨ ∃ m, m < N ∧ rt i = nI m)
def pm_E (N : Nat) (cn : Nat → Nat) (fl : Nat → Int32) (a b : Nat) : Prop := a < N ∧ b < N ∧ ∃ j, j < cn a ∧ fl (a * 20 + j) = nI b
def pm_R (N : Nat) (rt : Nat → Int32) (b : Nat) : Prop := b < N ∧ ∃ i, i < 16 ∧ rt i = nI b
def pm_reach (N : Nat) (cn : Nat → Nat) (fl rt : Nat → Int32) (m : Nat) : Prop := ∀ S : Nat → Prop, (∀ b, pm_R N rt b → S b) → (∀ a b, S a → pm_E N cn fl a b → S b) → S m
theorem pm_reach_r {N : Nat} {cn : Nat → Nat} {fl rt : Nat → Int32} {b : Nat} (h : pm_R N rt b) : pm_reach N cn fl rt b := fun _ h1 _ => h1 b h
theorem pm_reach_e {N : Nat} {cn : Nat → Nat} {fl rt : Nat → Int32} {a b : Nat} (h : pm_reach N cn fl rt a) (he : pm_E N cn fl a b) : pm_reach N cn fl rt b := fun S h1 h2 => h2 a b (h S h1 h2) he
theorem pm_reach_lt {N : Nat} {cn : Nat → Nat} {fl rt : Nat → Int32} {m : Nat} (h : pm_reach N cn fl rt m) : m < N := h (fun b => b < N) (fun _ hb => hb.1) (fun _ _ _ he => he.2.1)
/-! the pile: marks, what is kept, how many are kept, the lowest forgotten -/
abbrev pm_P : Type := (Nat → Int32) × (Nat → Int32) × Nat × Nat
def pm_keep (lim : Nat) (P : pm_P) (k : Nat) : pm_P := match P with
  | (mr, kp, kc, nf) => if kc < lim ∧ kc < 64 then (mr, upd kp kc (nI k), kc + 1, nf) else if k < nf then (mr, kp, kc, k) else (mr, kp, kc, nf)
def pm_put (N lim : Nat) (P : pm_P) (x : Int32) : pm_P := match P with
  | (mr, kp, kc, nf) => if pm_has N x = true then (if mr x.toNatClampNeg = 0 then pm_keep lim (upd mr x.toNatClampNeg 1, kp, kc, nf) x.toNatClampNeg else (mr, kp, kc, nf)) else (mr, kp, kc, nf)
def pm_mf (N lim : Nat) (g : Nat → Int32) : Nat → pm_P → pm_P
  | 0, P => P
  | j + 1, P => pm_put N lim (pm_mf N lim g j P) (g j)
def pm_go (N : Nat) (cn : Nat → Nat) (fl : Nat → Int32) (lim : Nat) (P : pm_P) (x : Int32) : pm_P :=
  if pm_has N x = true then pm_mf N lim (fun j => fl (x.toNatClampNeg * 20 + j)) (cn x.toNatClampNeg) P else P
/-- what a pile is worth: it falls with each mark -/
def pm_pot (P : pm_P) : Nat := (400 - pm_cnt P.1 400) * 402 + P.2.2.1 + (400 - P.2.2.2)
/-- the pile P' comes of P by marking: S is where the marks may lie -/
def pm_Le (N : Nat) (P P' : pm_P) : Prop :=
  (∀ m, m < 400 → ¬ P.1 m = 0 → ¬ P'.1 m = 0) ∧ P.2.2.1 ≤ P'.2.2.1 ∧ (∀ i, i < P.2.2.1 → P'.2.1 i = P.2.1 i) ∧ P'.2.2.2 ≤ P.2.2.2 ∧
  (∀ m, m < 400 → P.1 m = 0 → ¬ P'.1 m = 0 → m < N ∧ ((∃ i, i < P'.2.2.1 ∧ P'.2.1 i = nI m) ∨ P'.2.2.2 ≤ m)) ∧
  (∀ i, P.2.2.1 ≤ i → i < P'.2.2.1 → ∃ m, m < N ∧ P'.2.1 i = nI m ∧ ¬ P'.1 m = 0) ∧
  (P.2.2.1 ≤ 64 → P'.2.2.1 ≤ 64) ∧ pm_pot P' ≤ pm_pot P
theorem pm_Le_rf {N : Nat} (P : pm_P) : pm_Le N P P :=
  ⟨fun _ _ h => h, Nat.le_refl _, fun _ _ => rfl, Nat.le_refl _, fun m _ h h' => absurd h h', fun i h h' => by omega, fun h => h, Nat.le_refl _⟩
theorem pm_Le_tr {N : Nat} (hN : N ≤ 400) {P P1 P2 : pm_P} (h : pm_Le N P P1) (h' : pm_Le N P1 P2) : pm_Le N P P2 := by
  obtain ⟨a1, a2, a3, a4, a5, a6, a7, a8⟩ := h
  obtain ⟨b1, b2, b3, b4, b5, b6, b7, b8⟩ := h'
  refine ⟨fun m hm q => b1 m hm (a1 m hm q), by omega, fun i hi => ?_, by omega, fun m hm q q' => ?_, fun i hi hi' => ?_, fun q => b7 (a7 q), by omega⟩
  · rw [b3 i (by omega), a3 i hi]
  · by_cases hm1 : P1.1 m = 0
    · exact b5 m hm hm1 q'
    · obtain ⟨c1, c2⟩ := a5 m hm q hm1
      refine ⟨c1, ?_⟩
      rcases c2 with ⟨i, hi, e⟩ | c2
      · exact Or.inl ⟨i, by omega, by rw [b3 i hi]; exact e⟩
      · exact Or.inr (by omega)
  · by_cases hx : i < P1.2.2.1
    · obtain ⟨m, hm, e, hk⟩ := a6 i hi hx
      exact ⟨m, hm, by rw [b3 i hx]; exact e, b1 m (by omega) hk⟩
    · exact b6 i (by omega) hi'
/-- one object is marked: what comes of it -/
theorem pm_put_le {N lim : Nat} (hN : N ≤ 400) (P : pm_P) (x : Int32) : pm_Le N P (pm_put N lim P x) := by
  obtain ⟨mr, kp, kc, nf⟩ := P
  simp only [pm_put]
  by_cases hx : pm_has N x = true
  · rw [if_pos hx]
    obtain ⟨k, hk, rfl⟩ := pm_has_of (by omega) hx
    rw [nI_clamp (by omega)]
    by_cases h0 : mr k = 0
    · rw [if_pos h0]
      have hc := pm_cnt_up (v := 1) (by decide) h0 400 (by omega)
      have hl := pm_cnt_le (upd mr k 1) 400
      have hmk : ∀ m, m < 400 → ¬ mr m = 0 → ¬ upd mr k 1 m = 0 := fun m _ q => by
        by_cases e : m = k
        · rw [e, pk_us]; decide
        · rw [pk_un e]; exact q
      have hnew : ∀ m, mr m = 0 → ¬ upd mr k 1 m = 0 → m = k := fun m q q' => by
        by_cases e : m = k
        · exact e
        · rw [pk_un e] at q'; exact absurd q q'
      simp only [pm_keep]
      by_cases hp : kc < lim ∧ kc < 64
      · rw [if_pos hp]
        refine ⟨hmk, Nat.le_succ _, fun i hi => pk_un (show i ≠ kc from Nat.ne_of_lt hi), Nat.le_refl _, fun m _ q q' => ?_, fun i hi hi' => ?_, fun _ => hp.2, ?_⟩
        · have e := hnew m q q'
          subst e
          exact ⟨hk, Or.inl ⟨kc, Nat.lt_succ_self _, pk_us⟩⟩
        · have e : i = kc := by dsimp only at hi hi'; omega
          subst e
          exact ⟨k, hk, pk_us, by show ¬ upd mr k 1 k = 0; rw [pk_us]; decide⟩
        · simp only [pm_pot]; omega
      · rw [if_neg hp]
        by_cases hf : k < nf
        · rw [if_pos hf]
          refine ⟨hmk, Nat.le_refl _, fun i _ => rfl, Nat.le_of_lt hf, fun m _ q q' => ?_, fun i hi hi' => by dsimp only at hi hi'; omega, fun h => h, ?_⟩
          · have e := hnew m q q'
            subst e
            exact ⟨hk, Or.inr (Nat.le_refl _)⟩
          · simp only [pm_pot]; omega
        · rw [if_neg hf]
          refine ⟨hmk, Nat.le_refl _, fun i _ => rfl, Nat.le_refl _, fun m _ q q' => ?_, fun i hi hi' => by dsimp only at hi hi'; omega, fun h => h, ?_⟩
          · have e := hnew m q q'
            subst e
            exact ⟨hk, Or.inr (by dsimp only; omega)⟩
          · simp only [pm_pot]; omega
    · rw [if_neg h0]; exact pm_Le_rf _
  · rw [if_neg hx]; exact pm_Le_rf _
theorem pm_put_mk {N lim : Nat} (hN : N ≤ 400) (P : pm_P) {k : Nat} (hk : k < N) : ¬ (pm_put N lim P (nI k)).1 k = 0 := by
  obtain ⟨mr, kp, kc, nf⟩ := P
  simp only [pm_put]
  rw [if_pos (pm_has_nI (by omega) hk), nI_clamp (by omega)]
  by_cases h0 : mr k = 0
  · rw [if_pos h0]
    have e : (pm_keep lim (upd mr k 1, kp, kc, nf) k).1 = upd mr k 1 := by
      simp only [pm_keep]
      split
      · rfl
      · split <;> rfl
    rw [e, pk_us]; decide
  · rw [if_neg h0]; exact h0
/-- marks lie in S -/
def pm_Sd (S : Nat → Prop) (P : pm_P) : Prop := ∀ m, m < 400 → ¬ P.1 m = 0 → S m
theorem pm_put_sd {N lim : Nat} (hN : N ≤ 400) {S : Nat → Prop} {P : pm_P} {x : Int32} (h : pm_Sd S P) (hx : ∀ k, k < N → x = nI k → S k) : pm_Sd S (pm_put N lim P x) := by
  obtain ⟨mr, kp, kc, nf⟩ := P
  simp only [pm_put]
  by_cases hh : pm_has N x = true
  · rw [if_pos hh]
    obtain ⟨k, hk, rfl⟩ := pm_has_of (by omega) hh
    rw [nI_clamp (by omega)]
    by_cases h0 : mr k = 0
    · rw [if_pos h0]
      have e : (pm_keep lim (upd mr k 1, kp, kc, nf) k).1 = upd mr k 1 := by
        simp only [pm_keep]
        split
        · rfl
        · split <;> rfl
      intro m hm hmk
      rw [e] at hmk
      by_cases em : m = k
      · subst em; exact hx m hk rfl
      · rw [pk_un em] at hmk; exact h m hm hmk
    · rw [if_neg h0]; exact h
  · rw [if_neg hh]; exact h
theorem pm_mf_le {N lim : Nat} (hN : N ≤ 400) (g : Nat → Int32) : ∀ (n : Nat) (P : pm_P), pm_Le N P (pm_mf N lim g n P) := by
  intro n
  induction n with
  | zero => intro P; exact pm_Le_rf P
  | succ n ih => intro P; exact pm_Le_tr hN (ih P) (pm_put_le hN _ _)
theorem pm_mf_mk {N lim : Nat} (hN : N ≤ 400) (g : Nat → Int32) : ∀ (n : Nat) (P : pm_P) (j k : Nat), j < n → k < N → g j = nI k → ¬ (pm_mf N lim g n P).1 k = 0 := by
  intro n
  induction n with
  | zero => intro P j k h; omega
  | succ n ih =>
    intro P j k hj hk e
    simp only [pm_mf]
    by_cases h : j = n
    · subst h; rw [e]; exact pm_put_mk hN _ hk
    · exact (pm_put_le hN _ _).1 k (by omega) (ih P j k (by omega) hk e)
theorem pm_mf_sd {N lim : Nat} (hN : N ≤ 400) {S : Nat → Prop} (g : Nat → Int32) : ∀ (n : Nat) (P : pm_P), pm_Sd S P → (∀ j k, j < n → k < N → g j = nI k → S k) → pm_Sd S (pm_mf N lim g n P) := by
  intro n
  induction n with
  | zero => intro P h _; exact h
  | succ n ih =>
    intro P h hg
    simp only [pm_mf]
    exact pm_put_sd hN (ih P h (fun j k hj => hg j k (by omega))) (fun k hk e => hg n k (Nat.lt_succ_self n) hk e)
theorem pm_go_le {N lim : Nat} (hN : N ≤ 400) (cn : Nat → Nat) (fl : Nat → Int32) (P : pm_P) (x : Int32) : pm_Le N P (pm_go N cn fl lim P x) := by
  simp only [pm_go]
  split
  · exact pm_mf_le hN _ _ _
  · exact pm_Le_rf P
theorem pm_go_mk {N lim : Nat} (hN : N ≤ 400) {cn : Nat → Nat} {fl : Nat → Int32} (P : pm_P) {a b : Nat} (h : pm_E N cn fl a b) : ¬ (pm_go N cn fl lim P (nI a)).1 b = 0 := by
  obtain ⟨ha, hb, j, hj, e⟩ := h
  simp only [pm_go]
  rw [if_pos (pm_has_nI (by omega) ha), nI_clamp (by omega)]
  exact pm_mf_mk hN _ _ _ j b hj hb e
theorem pm_go_sd {N lim : Nat} (hN : N ≤ 400) {S : Nat → Prop} {cn : Nat → Nat} {fl : Nat → Int32} {P : pm_P} {a : Nat} (h : pm_Sd S P) (ha : a < N) (hS : ∀ b, pm_E N cn fl a b → S b) : pm_Sd S (pm_go N cn fl lim P (nI a)) := by
  simp only [pm_go]
  rw [if_pos (pm_has_nI (by omega) ha), nI_clamp (by omega)]
  exact pm_mf_sd hN _ _ _ h (fun j k hj hk e => hS k ⟨ha, hk, j, hj, e⟩)
end
