/-! THE SEARCH of what is reached -/
section
/-- found, in what order, how many -/
abbrev pm_F : Type := (Nat → Int32) × (Nat → Int32) × Nat
def pm_en (N : Nat) (F : pm_F) (x : Int32) : pm_F := match F with
  | (fd, od, c) => if pm_has N x = true then (if fd x.toNatClampNeg = 0 then (if c < 400 then (upd fd x.toNatClampNeg 1, upd od c x, c + 1) else (fd, od, c)) else (fd, od, c)) else (fd, od, c)
def pm_ef (N : Nat) (g : Nat → Int32) : Nat → pm_F → pm_F
  | 0, F => F
  | j + 1, F => pm_en N (pm_ef N g j F) (g j)
def pm_eo (N : Nat) (cn : Nat → Nat) (fl : Nat → Int32) (F : pm_F) (x : Int32) : pm_F :=
  if pm_has N x = true then pm_ef N (fun j => fl (x.toNatClampNeg * 20 + j)) (cn x.toNatClampNeg) F else F
def pm_q (N : Nat) (cn : Nat → Nat) (fl : Nat → Int32) : Nat → Nat → pm_F → pm_F
  | 0, _, F => F
  | n + 1, i, F => if i < F.2.2 then pm_q N cn fl n (i + 1) (pm_eo N cn fl F (F.2.1 i)) else F
def pm_srch (N : Nat) (cn : Nat → Nat) (fl rt fd od : Nat → Int32) : pm_F := pm_q N cn fl 400 0 (pm_ef N rt 16 (pm_clr 400 fd, od, 0))
/-- what holds of found, order and count: all found are in S, and stand in the order -/
def pm_Fi (N : Nat) (S : Nat → Prop) (F : pm_F) : Prop :=
  F.2.2 = pm_cnt F.1 400 ∧ (∀ m, m < 400 → ¬ F.1 m = 0 → m < N ∧ S m ∧ ∃ t, t < F.2.2 ∧ F.2.1 t = nI m) ∧ (∀ t, t < F.2.2 → ∃ m, m < N ∧ F.2.1 t = nI m ∧ ¬ F.1 m = 0)
def pm_Fl (F F' : pm_F) : Prop := (∀ m, m < 400 → ¬ F.1 m = 0 → ¬ F'.1 m = 0) ∧ F.2.2 ≤ F'.2.2 ∧ ∀ t, t < F.2.2 → F'.2.1 t = F.2.1 t
theorem pm_Fl_rf (F : pm_F) : pm_Fl F F := ⟨fun _ _ h => h, Nat.le_refl _, fun _ _ => rfl⟩
theorem pm_Fl_tr {F F1 F2 : pm_F} (h : pm_Fl F F1) (h' : pm_Fl F1 F2) : pm_Fl F F2 :=
  ⟨fun m hm q => h'.1 m hm (h.1 m hm q), Nat.le_trans h.2.1 h'.2.1, fun t ht => by rw [h'.2.2 t (Nat.lt_of_lt_of_le ht h.2.1), h.2.2 t ht]⟩
theorem pm_en_ok {N : Nat} (hN : N ≤ 400) {S : Nat → Prop} {F : pm_F} {x : Int32} (h : pm_Fi N S F) (hx : ∀ k, k < N → x = nI k → S k) :
    pm_Fi N S (pm_en N F x) ∧ pm_Fl F (pm_en N F x) ∧ ∀ k, k < N → x = nI k → ¬ (pm_en N F x).1 k = 0 := by
  obtain ⟨fd, od, c⟩ := F
  obtain ⟨h1, h2, h3⟩ := h
  dsimp only at h1 h2 h3
  simp only [pm_en]
  by_cases hh : pm_has N x = true
  · rw [if_pos hh]
    obtain ⟨k, hk, rfl⟩ := pm_has_of (by omega) hh
    rw [nI_clamp (by omega)]
    by_cases h0 : fd k = 0
    · have hlt := pm_cnt_lt h0 (show k < 400 by omega)
      rw [if_pos h0, if_pos (by omega)]
      have hc := pm_cnt_up (v := 1) (by decide) h0 400 (by omega)
      refine ⟨⟨by dsimp only; omega, fun m hm q => ?_, fun t ht => ?_⟩, ⟨fun m _ q => ?_, Nat.le_succ _, fun t ht => pk_un (show t ≠ c from Nat.ne_of_lt ht)⟩, fun k' hk' e => ?_⟩
      · dsimp only at q ⊢
        by_cases em : m = k
        · subst em
          exact ⟨hk, hx m hk rfl, c, Nat.lt_succ_self _, pk_us⟩
        · rw [pk_un em] at q
          obtain ⟨a1, a2, t, ht, e⟩ := h2 m hm q
          exact ⟨a1, a2, t, Nat.lt_succ_of_lt ht, by rw [pk_un (show t ≠ c from Nat.ne_of_lt ht)]; exact e⟩
      · dsimp only at ht ⊢
        by_cases et : t = c
        · subst et
          exact ⟨k, hk, pk_us, by rw [pk_us]; decide⟩
        · obtain ⟨m, a1, a2, a3⟩ := h3 t (by omega)
          refine ⟨m, a1, by rw [pk_un et]; exact a2, ?_⟩
          by_cases em : m = k
          · rw [em, pk_us]; decide
          · rw [pk_un em]; exact a3
      · dsimp only at q ⊢
        by_cases em : m = k
        · rw [em, pk_us]; decide
        · rw [pk_un em]; exact q
      · have ek : k = k' := (nI_eq (by omega) (by omega)).mp e
        subst ek
        dsimp only
        rw [pk_us]; decide
    · rw [if_neg h0]
      exact ⟨⟨h1, h2, h3⟩, pm_Fl_rf _, fun k' hk' e => by
        have ek : k = k' := (nI_eq (by omega) (by omega)).mp e
        subst ek; exact h0⟩
  · rw [if_neg hh]
    exact ⟨⟨h1, h2, h3⟩, pm_Fl_rf _, fun k' hk' e => absurd (by rw [e]; exact pm_has_nI (by omega) hk') hh⟩
theorem pm_ef_ok {N : Nat} (hN : N ≤ 400) {S : Nat → Prop} {g : Nat → Int32} : ∀ (n : Nat) {F : pm_F}, pm_Fi N S F → (∀ j k, j < n → k < N → g j = nI k → S k) →
    pm_Fi N S (pm_ef N g n F) ∧ pm_Fl F (pm_ef N g n F) ∧ ∀ j k, j < n → k < N → g j = nI k → ¬ (pm_ef N g n F).1 k = 0 := by
  intro n
  induction n with
  | zero => intro F h _; exact ⟨h, pm_Fl_rf F, fun j k hj => absurd hj (Nat.not_lt_zero j)⟩
  | succ n ih =>
    intro F h hg
    obtain ⟨a1, a2, a3⟩ := ih h (fun j k hj => hg j k (by omega))
    obtain ⟨b1, b2, b3⟩ := pm_en_ok hN (x := g n) a1 (fun k hk e => hg n k (Nat.lt_succ_self n) hk e)
    refine ⟨b1, pm_Fl_tr a2 b2, fun j k hj hk e => ?_⟩
    by_cases ej : j = n
    · subst ej; exact b3 k hk e
    · exact b2.1 k (by omega) (a3 j k (by omega) hk e)
theorem pm_eo_ok {N : Nat} (hN : N ≤ 400) {S : Nat → Prop} {cn : Nat → Nat} {fl : Nat → Int32} {F : pm_F} {a : Nat} (ha : a < N) (h : pm_Fi N S F) (hS : ∀ b, pm_E N cn fl a b → S b) :
    pm_Fi N S (pm_eo N cn fl F (nI a)) ∧ pm_Fl F (pm_eo N cn fl F (nI a)) ∧ ∀ b, pm_E N cn fl a b → ¬ (pm_eo N cn fl F (nI a)).1 b = 0 := by
  simp only [pm_eo]
  rw [if_pos (pm_has_nI (by omega) ha), nI_clamp (by omega)]
  obtain ⟨b1, b2, b3⟩ := pm_ef_ok hN (g := fun j => fl (a * 20 + j)) (cn a) h (fun j k hj hk e => hS k ⟨ha, hk, j, hj, e⟩)
  exact ⟨b1, b2, fun b he => by
    obtain ⟨-, hb, j, hj, e⟩ := he
    exact b3 j b hj hb e⟩
theorem pm_q_ok {N : Nat} (hN : N ≤ 400) {S : Nat → Prop} {cn : Nat → Nat} {fl : Nat → Int32} (hS : ∀ a b, S a → pm_E N cn fl a b → S b) : ∀ (n i : Nat) {F : pm_F}, 400 ≤ i + n → pm_Fi N S F →
    (∀ t m, t < i → t < F.2.2 → m < N → F.2.1 t = nI m → ∀ b, pm_E N cn fl m b → ¬ F.1 b = 0) →
    pm_Fi N S (pm_q N cn fl n i F) ∧ pm_Fl F (pm_q N cn fl n i F) ∧ ∀ a b, a < N → ¬ (pm_q N cn fl n i F).1 a = 0 → pm_E N cn fl a b → ¬ (pm_q N cn fl n i F).1 b = 0 := by
  intro n
  induction n with
  | zero =>
    intro i F hi h hd
    refine ⟨h, pm_Fl_rf F, fun a b ha q he => ?_⟩
    obtain ⟨-, -, t, ht, e⟩ := h.2.1 a (by omega) q
    have := pm_cnt_le F.1 400
    have h1 := h.1
    exact hd t a (by omega) ht ha e b he
  | succ n ih =>
    intro i F hi h hd
    simp only [pm_q]
    by_cases hc : i < F.2.2
    · rw [if_pos hc]
      obtain ⟨x, hx, ex, mx⟩ := h.2.2 i hc
      rw [ex]
      obtain ⟨b1, b2, b3⟩ := pm_eo_ok hN (cn := cn) (fl := fl) hx h (fun b he => hS x b (h.2.1 x (by omega) mx).2.1 he)
      have hd' : ∀ t m, t < i + 1 → t < (pm_eo N cn fl F (nI x)).2.2 → m < N → (pm_eo N cn fl F (nI x)).2.1 t = nI m → ∀ b, pm_E N cn fl m b → ¬ (pm_eo N cn fl F (nI x)).1 b = 0 := by
        intro t m ht ht' hm e b he
        by_cases et : t = i
        · subst et
          have e' := b2.2.2 t hc
          rw [e', ex] at e
          have em : x = m := (nI_eq (by omega) (by omega)).mp e
          subst em
          exact b3 b he
        · have ht2 : t < F.2.2 := by omega
          rw [b2.2.2 t ht2] at e
          exact b2.1 b (by have := he.2.1; omega) (hd t m (by omega) ht2 hm e b he)
      obtain ⟨c1, c2, c3⟩ := ih (i + 1) (by omega) b1 hd'
      exact ⟨c1, pm_Fl_tr b2 c2, c3⟩
    · rw [if_neg hc]
      refine ⟨h, pm_Fl_rf F, fun a b ha q he => ?_⟩
      obtain ⟨-, -, t, ht, e⟩ := h.2.1 a (by omega) q
      exact hd t a (by omega) ht ha e b he
/-- THE SEARCH finds what is reached, and counts it -/
theorem pm_srch_ok {N : Nat} (hN : N ≤ 400) (cn : Nat → Nat) (fl rt fd od : Nat → Int32) :
    (∀ m, m < 400 → (¬ (pm_srch N cn fl rt fd od).1 m = 0 ↔ pm_reach N cn fl rt m)) ∧ (pm_srch N cn fl rt fd od).2.2 = pm_cnt (pm_srch N cn fl rt fd od).1 400 := by
  have i0 : pm_Fi N (pm_reach N cn fl rt) (pm_clr 400 fd, od, 0) :=
    ⟨(pm_cnt_0 400 (fun i hi => pm_clr_in fd hi)).symm, fun m hm q => absurd (pm_clr_in fd hm) q, fun t ht => absurd ht (Nat.not_lt_zero t)⟩
  obtain ⟨a1, a2, a3⟩ := pm_ef_ok hN (g := rt) 16 i0 (fun j k hj hk e => pm_reach_r ⟨hk, j, hj, e⟩)
  obtain ⟨b1, b2, b3⟩ := pm_q_ok hN (S := pm_reach N cn fl rt) (cn := cn) (fl := fl) (fun a b ha he => pm_reach_e ha he) 400 0 (by omega) a1 (fun t m ht => absurd ht (Nat.not_lt_zero t))
  refine ⟨fun m hm => ⟨fun q => (b1.2.1 m hm q).2.1, fun q => ?_⟩, b1.1⟩
  refine q (fun m => ¬ (pm_srch N cn fl rt fd od).1 m = 0) (fun b hb => ?_) (fun a b ha he => b3 a b he.1 ha he)
  obtain ⟨hb, i, hi, e⟩ := hb
  exact b2.1 b (by omega) (a3 i b hi hb e)
end
