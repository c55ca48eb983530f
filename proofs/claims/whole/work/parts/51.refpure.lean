/-! THE REFERENCE, pure: how it finds what is reached, and that it is the same -/
section
/-- what the reference's heap keeps to: starts, fields and roots as it holds them -/
def pq_MO (N : Nat) (sm gv gr : Nat → Nat) (af : Nat) : Prop :=
  N ≤ 400 ∧ af = sm N ∧ sm 0 = 0 ∧ (∀ k, k < N → sm k ≤ sm (k + 1) ∧ sm (k + 1) ≤ sm k + 20) ∧ (∀ f, gv f ≤ N) ∧ (∀ i, i < 16 → gr i ≤ N) ∧ ∀ f, sm N ≤ f → gv f = 0
def pq_dn (sm : Nat → Nat) : Nat → Nat := fun k => sm (k + 1) - sm k
theorem pq_le {N : Nat} {sm gv gr : Nat → Nat} {af : Nat} (h : pq_MO N sm gv gr af) : ∀ k, k ≤ N → sm k ≤ 20 * k := by
  intro k
  induction k with
  | zero => intro _; rw [h.2.2.1]; exact Nat.zero_le _
  | succ k ih =>
    intro hk
    have h1 := ih (by omega)
    have h2 := (h.2.2.2.1 k (by omega)).2
    omega
theorem pq_mono {N : Nat} {sm gv gr : Nat → Nat} {af : Nat} (h : pq_MO N sm gv gr af) {k : Nat} : ∀ d, k + d ≤ N → sm k ≤ sm (k + d) := by
  intro d
  induction d with
  | zero => intro _; exact Nat.le_refl _
  | succ d ih =>
    intro hk
    have h1 := ih (by omega)
    have h2 := (h.2.2.2.1 (k + d) (by omega)).1
    exact Nat.le_trans h1 h2
theorem pq_mn {N : Nat} {sm gv gr : Nat → Nat} {af : Nat} (h : pq_MO N sm gv gr af) {k m : Nat} (hk : k ≤ m) (hm : m ≤ N) : sm k ≤ sm m := by
  have := pq_mono h (k := k) (m - k) (by omega)
  rw [show k + (m - k) = m by omega] at this
  exact this
def pq_E (N : Nat) (sm gv : Nat → Nat) (a b : Nat) : Prop := a < N ∧ b < N ∧ ∃ j, j < sm (a + 1) - sm a ∧ gv (sm a + j) = b + 1
def pq_R (N : Nat) (gr : Nat → Nat) (b : Nat) : Prop := b < N ∧ ∃ i, i < 16 ∧ gr i = b + 1
/-! its search -/
abbrev pq_X : Type := (Nat → Int32) × Bool
def pq_set (rc : Nat → Int32) (v : Nat) : Nat → Int32 := if v = 0 then rc else upd rc (v - 1) 1
def pq_rt (gr : Nat → Nat) : Nat → (Nat → Int32) → (Nat → Int32)
  | 0, rc => rc
  | i + 1, rc => pq_set (pq_rt gr i rc) (gr i)
def pq_f (gv : Nat → Nat) (k f : Nat) (X : pq_X) : pq_X := if X.1 k = 0 then X else if gv f = 0 then X else if X.1 (gv f - 1) = 0 then (upd X.1 (gv f - 1) 1, true) else X
def pq_j (gv : Nat → Nat) (k s : Nat) : Nat → pq_X → pq_X
  | 0, X => X
  | j + 1, X => pq_f gv k (s + j) (pq_j gv k s j X)
def pq_k (sm gv : Nat → Nat) : Nat → pq_X → pq_X
  | 0, X => X
  | k + 1, X => pq_j gv k (sm k) (sm (k + 1) - sm k) (pq_k sm gv k X)
def pq_run (N : Nat) (sm gv : Nat → Nat) : Nat → (Nat → Int32) → (Nat → Int32)
  | 0, rc => rc
  | n + 1, rc => if (pq_k sm gv N (rc, false)).2 = true then pq_run N sm gv n (pq_k sm gv N (rc, false)).1 else (pq_k sm gv N (rc, false)).1
def pq_reach (N : Nat) (sm gv gr : Nat → Nat) (rc : Nat → Int32) : Nat → Int32 := pq_run N sm gv (N + 1) (pq_rt gr 16 (pm_clr N rc))
/-- X' comes of X by finding more: N objects; S is where all that is found lies -/
def pq_Le (N : Nat) (X X' : pq_X) : Prop := (∀ m, m < N → ¬ X.1 m = 0 → ¬ X'.1 m = 0) ∧ (X.2 = true → X'.2 = true) ∧ (X'.2 = false → X'.1 = X.1) ∧ (X.2 = false → X'.2 = true → pm_cnt X.1 N < pm_cnt X'.1 N) ∧ pm_cnt X.1 N ≤ pm_cnt X'.1 N
theorem pq_Le_rf {N : Nat} (X : pq_X) : pq_Le N X X := ⟨fun _ _ h => h, fun h => h, fun _ => rfl, fun h h' => (by rw [h] at h'; cases h'), Nat.le_refl _⟩
theorem pq_Le_tr {N : Nat} {X Y Z : pq_X} (h : pq_Le N X Y) (h' : pq_Le N Y Z) : pq_Le N X Z := by
  obtain ⟨a1, a2, a3, a4, a5⟩ := h
  obtain ⟨b1, b2, b3, b4, b5⟩ := h'
  refine ⟨fun m hm q => b1 m hm (a1 m hm q), fun q => b2 (a2 q), fun q => ?_, fun q q' => ?_, Nat.le_trans a5 b5⟩
  · rcases pm_tf Y.2 with y | y
    · rw [b2 y] at q; cases q
    · rw [b3 q, a3 y]
  · rcases pm_tf Y.2 with y | y
    · exact Nat.lt_of_lt_of_le (a4 q y) b5
    · exact Nat.lt_of_le_of_lt a5 (b4 y q')
/-- one field is looked at -/
theorem pq_f_le {N : Nat} {gv : Nat → Nat} (hv : ∀ f, gv f ≤ N) (k f : Nat) (X : pq_X) : pq_Le N X (pq_f gv k f X) := by
  obtain ⟨rc, b⟩ := X
  simp only [pq_f]
  by_cases h1 : rc k = 0
  · rw [if_pos h1]; exact pq_Le_rf _
  · rw [if_neg h1]
    by_cases h2 : gv f = 0
    · rw [if_pos h2]; exact pq_Le_rf _
    · rw [if_neg h2]
      by_cases h3 : rc (gv f - 1) = 0
      · rw [if_pos h3]
        have hc := pm_cnt_up (v := 1) (by decide) h3 N (by have := hv f; omega)
        refine ⟨fun m _ q => ?_, fun _ => rfl, fun q => (by cases q), fun _ _ => (by dsimp only; omega), (by dsimp only; omega)⟩
        dsimp only at q ⊢
        by_cases em : m = gv f - 1
        · rw [em, pk_us]; decide
        · rw [pk_un em]; exact q
      · rw [if_neg h3]; exact pq_Le_rf _
theorem pq_f_sd {N : Nat} {gv : Nat → Nat} {S : Nat → Prop} {k f : Nat} {X : pq_X} (h : ∀ m, m < N → ¬ X.1 m = 0 → S m) (hS : ∀ v, v < N → ¬ X.1 k = 0 → gv f = v + 1 → S v) : ∀ m, m < N → ¬ (pq_f gv k f X).1 m = 0 → S m := by
  obtain ⟨rc, b⟩ := X
  simp only [pq_f]
  by_cases h1 : rc k = 0
  · rw [if_pos h1]; exact h
  · rw [if_neg h1]
    by_cases h2 : gv f = 0
    · rw [if_pos h2]; exact h
    · rw [if_neg h2]
      by_cases h3 : rc (gv f - 1) = 0
      · rw [if_pos h3]
        intro m hm q
        dsimp only at q
        by_cases em : m = gv f - 1
        · exact hS m hm h1 (by omega)
        · rw [pk_un em] at q; exact h m hm q
      · rw [if_neg h3]; exact h
/-- nothing was found in a look: then it is closed there -/
theorem pq_f_cl {gv : Nat → Nat} {k f v : Nat} {X : pq_X} (h : (pq_f gv k f X).2 = false) (hk : ¬ X.1 k = 0) (hv : gv f = v + 1) : ¬ X.1 v = 0 := by
  obtain ⟨rc, b⟩ := X
  simp only [pq_f] at h
  rw [if_neg hk, if_neg (by omega)] at h
  intro q
  rw [if_pos (by rw [hv]; exact q)] at h
  cases h
theorem pq_j_le {N : Nat} {gv : Nat → Nat} (hv : ∀ f, gv f ≤ N) (k s : Nat) : ∀ (n : Nat) (X : pq_X), pq_Le N X (pq_j gv k s n X) := by
  intro n
  induction n with
  | zero => intro X; exact pq_Le_rf X
  | succ n ih => intro X; exact pq_Le_tr (ih X) (pq_f_le hv _ _ _)
theorem pq_j_sd {N : Nat} {gv : Nat → Nat} (hv : ∀ f, gv f ≤ N) {S : Nat → Prop} {k s : Nat} (hk : k < N) : ∀ (n : Nat) (X : pq_X), (∀ m, m < N → ¬ X.1 m = 0 → S m) → (S k → ∀ v j, v < N → j < n → gv (s + j) = v + 1 → S v) → ∀ m, m < N → ¬ (pq_j gv k s n X).1 m = 0 → S m := by
  intro n
  induction n with
  | zero => intro X h _; exact h
  | succ n ih =>
    intro X h hS
    have h1 := ih X h (fun q v j hv' hj => hS q v j hv' (by omega))
    exact pq_f_sd h1 (fun v hv' q e => hS (h1 k hk q) v n hv' (Nat.lt_succ_self n) e)
theorem pq_j_cl {N : Nat} {gv : Nat → Nat} (hv : ∀ f, gv f ≤ N) {k s : Nat} : ∀ (n : Nat) (X : pq_X), (pq_j gv k s n X).2 = false → ¬ X.1 k = 0 → ∀ v j, j < n → gv (s + j) = v + 1 → ¬ X.1 v = 0 := by
  intro n
  induction n with
  | zero => intro X _ _ v j h; omega
  | succ n ih =>
    intro X h hk v j hj e
    have L := pq_f_le hv k (s + n) (pq_j gv k s n X)
    have h1 : (pq_j gv k s n X).2 = false := by
      rcases pm_tf (pq_j gv k s n X).2 with q | q
      · have h2 : (pq_f gv k (s + n) (pq_j gv k s n X)).2 = false := h
        rw [L.2.1 q] at h2; cases h2
      · exact q
    by_cases ej : j = n
    · subst ej
      have e1 := (pq_j_le hv k s j X).2.2.1 h1
      have h3 := pq_f_cl (X := pq_j gv k s j X) h (by rw [e1]; exact hk) e
      rw [e1] at h3; exact h3
    · exact ih X h1 hk v j (by omega) e
theorem pq_k_le {N : Nat} {sm gv : Nat → Nat} (hv : ∀ f, gv f ≤ N) : ∀ (n : Nat) (X : pq_X), pq_Le N X (pq_k sm gv n X) := by
  intro n
  induction n with
  | zero => intro X; exact pq_Le_rf X
  | succ n ih => intro X; exact pq_Le_tr (ih X) (pq_j_le hv _ _ _ _)
theorem pq_k_sd {N : Nat} {sm gv : Nat → Nat} (hv : ∀ f, gv f ≤ N) {S : Nat → Prop} (hS : ∀ a b, S a → pq_E N sm gv a b → S b) : ∀ (n : Nat) (X : pq_X), n ≤ N → (∀ m, m < N → ¬ X.1 m = 0 → S m) → ∀ m, m < N → ¬ (pq_k sm gv n X).1 m = 0 → S m := by
  intro n
  induction n with
  | zero => intro X _ h; exact h
  | succ n ih =>
    intro X hn h
    exact pq_j_sd hv (by omega) _ _ (ih X (by omega) h) (fun q v j hv' hj e => hS n v q ⟨by omega, hv', j, hj, e⟩)
theorem pq_k_cl {N : Nat} {sm gv : Nat → Nat} (hv : ∀ f, gv f ≤ N) : ∀ (n : Nat) (X : pq_X), n ≤ N → (pq_k sm gv n X).2 = false → ∀ k v, k < n → ¬ X.1 k = 0 → pq_E N sm gv k v → ¬ X.1 v = 0 := by
  intro n
  induction n with
  | zero => intro X _ _ k v h; omega
  | succ n ih =>
    intro X hn h k v hk hq he
    have L := pq_j_le hv n (sm n) (sm (n + 1) - sm n) (pq_k sm gv n X)
    have h1 : (pq_k sm gv n X).2 = false := by
      rcases pm_tf (pq_k sm gv n X).2 with q | q
      · have h2 : (pq_j gv n (sm n) (sm (n + 1) - sm n) (pq_k sm gv n X)).2 = false := h
        rw [L.2.1 q] at h2; cases h2
      · exact q
    by_cases ek : k = n
    · subst ek
      have e1 := (pq_k_le hv k X).2.2.1 h1
      obtain ⟨-, -, j, hj, e⟩ := he
      have h3 := pq_j_cl hv _ (pq_k sm gv k X) h (by rw [e1]; exact hq) v j hj e
      rw [e1] at h3; exact h3
    · exact ih X (by omega) h1 k v (by omega) hq he
theorem pq_run_ok {N : Nat} {sm gv : Nat → Nat} (hv : ∀ f, gv f ≤ N) {S : Nat → Prop} (hS : ∀ a b, S a → pq_E N sm gv a b → S b) : ∀ (n : Nat) (rc : Nat → Int32), N < n + pm_cnt rc N → (∀ m, m < N → ¬ rc m = 0 → S m) →
    (∀ m, m < N → ¬ (pq_run N sm gv n rc) m = 0 → S m) ∧ (∀ m, m < N → ¬ rc m = 0 → ¬ (pq_run N sm gv n rc) m = 0) ∧ ∀ a b, a < N → ¬ (pq_run N sm gv n rc) a = 0 → pq_E N sm gv a b → ¬ (pq_run N sm gv n rc) b = 0 := by
  intro n
  induction n with
  | zero => intro rc h; have := pm_cnt_le rc N; omega
  | succ n ih =>
    intro rc h h0
    have L := pq_k_le (sm := sm) hv N (rc, false)
    have sd := pq_k_sd hv hS N (rc, false) (Nat.le_refl _) h0
    simp only [pq_run]
    by_cases q : (pq_k sm gv N (rc, false)).2 = true
    · rw [if_pos q]
      have hc := L.2.2.2.1 rfl q
      dsimp only at hc
      obtain ⟨b1, b2, b3⟩ := ih (pq_k sm gv N (rc, false)).1 (by omega) sd
      exact ⟨b1, fun m hm z => b2 m hm (L.1 m hm z), b3⟩
    · rw [if_neg q]
      have q' : (pq_k sm gv N (rc, false)).2 = false := by
        rcases pm_tf (pq_k sm gv N (rc, false)).2 with z | z
        · exact absurd z q
        · exact z
      have e1 := L.2.2.1 q'
      have cl := pq_k_cl hv N (rc, false) (Nat.le_refl _) q'
      rw [e1]
      exact ⟨h0, fun m _ z => z, fun a b ha z he => cl a b ha z he⟩
theorem pq_rt_ok {N : Nat} {gr : Nat → Nat} {S : Nat → Prop} : ∀ (n : Nat) (rc : Nat → Int32), (∀ i, i < n → gr i ≤ N) → (∀ m, m < N → ¬ rc m = 0 → S m) → (∀ i v, i < n → v < N → gr i = v + 1 → S v) →
    (∀ m, m < N → ¬ (pq_rt gr n rc) m = 0 → S m) ∧ ∀ i v, i < n → v < N → gr i = v + 1 → ¬ (pq_rt gr n rc) v = 0 := by
  intro n
  induction n with
  | zero => intro rc _ h _; exact ⟨h, fun i v hi => absurd hi (Nat.not_lt_zero i)⟩
  | succ n ih =>
    intro rc hg h hS
    obtain ⟨a1, a2⟩ := ih rc (fun i hi => hg i (by omega)) h (fun i v hi => hS i v (by omega))
    simp only [pq_rt, pq_set]
    by_cases h0 : gr n = 0
    · rw [if_pos h0]
      refine ⟨a1, fun i v hi hv e => ?_⟩
      by_cases ei : i = n
      · subst ei; omega
      · exact a2 i v (by omega) hv e
    · rw [if_neg h0]
      refine ⟨fun m hm q => ?_, fun i v hi hv e => ?_⟩
      · by_cases em : m = gr n - 1
        · exact hS n m (Nat.lt_succ_self n) hm (by omega)
        · rw [pk_un em] at q; exact a1 m hm q
      · by_cases em : v = gr n - 1
        · rw [em, pk_us]; decide
        · rw [pk_un em]
          by_cases ei : i = n
          · subst ei; omega
          · exact a2 i v (by omega) hv e
/-- found are noughts and ones -/
def pq_01 (N : Nat) (rc : Nat → Int32) : Prop := ∀ m, m < N → rc m = 0 ∨ rc m = 1
theorem pq_01_up {N : Nat} {rc : Nat → Int32} (h : pq_01 N rc) (k : Nat) : pq_01 N (upd rc k 1) := fun m hm => by
  by_cases e : m = k
  · rw [e, pk_us]; exact Or.inr rfl
  · rw [pk_un e]; exact h m hm
theorem pq_01_f {N : Nat} {gv : Nat → Nat} {k f : Nat} {X : pq_X} (h : pq_01 N X.1) : pq_01 N (pq_f gv k f X).1 := by
  simp only [pq_f]
  split
  · exact h
  · split
    · exact h
    · split
      · exact pq_01_up h _
      · exact h
theorem pq_01_j {N : Nat} {gv : Nat → Nat} {k s : Nat} : ∀ (n : Nat) (X : pq_X), pq_01 N X.1 → pq_01 N (pq_j gv k s n X).1 := by
  intro n
  induction n with
  | zero => intro X h; exact h
  | succ n ih => intro X h; exact pq_01_f (ih X h)
theorem pq_01_k {N : Nat} {sm gv : Nat → Nat} : ∀ (n : Nat) (X : pq_X), pq_01 N X.1 → pq_01 N (pq_k sm gv n X).1 := by
  intro n
  induction n with
  | zero => intro X h; exact h
  | succ n ih => intro X h; exact pq_01_j _ _ (ih X h)
theorem pq_01_run {N : Nat} {sm gv : Nat → Nat} : ∀ (n : Nat) (rc : Nat → Int32), pq_01 N rc → pq_01 N (pq_run N sm gv n rc) := by
  intro n
  induction n with
  | zero => intro rc h; exact h
  | succ n ih =>
    intro rc h
    simp only [pq_run]
    split
    · exact ih _ (pq_01_k N (rc, false) h)
    · exact pq_01_k N (rc, false) h
theorem pq_01_rt {N : Nat} {gr : Nat → Nat} : ∀ (n : Nat) (rc : Nat → Int32), pq_01 N rc → pq_01 N (pq_rt gr n rc) := by
  intro n
  induction n with
  | zero => intro rc h; exact h
  | succ n ih =>
    intro rc h
    simp only [pq_rt, pq_set]
    split
    · exact ih rc h
    · exact pq_01_up (ih rc h) _
theorem pq_reach_01 {N : Nat} {sm gv gr : Nat → Nat} {rc : Nat → Int32} : pq_01 N (pq_reach N sm gv gr rc) :=
  pq_01_run _ _ (pq_01_rt _ _ (fun m hm => Or.inl (pm_clr_in rc hm)))
/-- the reference's heap and the class's are the same objects, fields and roots -/
def pq_Eq (N : Nat) (cn : Nat → Nat) (fl rt : Nat → Int32) (sm gv gr : Nat → Nat) : Prop :=
  (∀ k, k < N → cn k = sm (k + 1) - sm k) ∧ (∀ k j, k < N → j < cn k → fl (k * 20 + j) = nI (gv (sm k + j)) - nI 1) ∧ ∀ i, i < 16 → rt i = nI (gr i) - nI 1
theorem pq_v {v w : Nat} (hv : v < 2 ^ 30) (hw : w < 2 ^ 30) : nI v - nI 1 = nI w ↔ v = w + 1 := by
  constructor
  · intro h
    have h1 : (nI v - nI 1).toInt = (v : Int) - (1 : Nat) := pk_sub_toInt hv (by decide)
    rw [h, nI_toInt (by omega)] at h1
    omega
  · intro h
    subst h
    exact pk_sub (by omega)
theorem pq_E_iff {N : Nat} {cn : Nat → Nat} {fl rt : Nat → Int32} {sm gv gr : Nat → Nat} {af : Nat} (hM : pq_MO N sm gv gr af) (h : pq_Eq N cn fl rt sm gv gr) (a b : Nat) : pm_E N cn fl a b ↔ pq_E N sm gv a b := by
  have hN := hM.1
  constructor
  · rintro ⟨ha, hb, j, hj, e⟩
    rw [h.2.1 a j ha hj] at e
    have hg := hM.2.2.2.2.1 (sm a + j)
    exact ⟨ha, hb, j, by rw [← h.1 a ha]; exact hj, (pq_v (by omega) (by omega)).mp e⟩
  · rintro ⟨ha, hb, j, hj, e⟩
    have hg := hM.2.2.2.2.1 (sm a + j)
    have hj' : j < cn a := by rw [h.1 a ha]; exact hj
    exact ⟨ha, hb, j, hj', by rw [h.2.1 a j ha hj']; exact (pq_v (by omega) (by omega)).mpr e⟩
theorem pq_R_iff {N : Nat} {cn : Nat → Nat} {fl rt : Nat → Int32} {sm gv gr : Nat → Nat} {af : Nat} (hM : pq_MO N sm gv gr af) (h : pq_Eq N cn fl rt sm gv gr) (b : Nat) : pm_R N rt b ↔ pq_R N gr b := by
  have hN := hM.1
  constructor
  · rintro ⟨hb, i, hi, e⟩
    have hg := hM.2.2.2.2.2.1 i hi
    rw [h.2.2 i hi] at e
    exact ⟨hb, i, hi, (pq_v (by omega) (by omega)).mp e⟩
  · rintro ⟨hb, i, hi, e⟩
    have hg := hM.2.2.2.2.2.1 i hi
    exact ⟨hb, i, hi, by rw [h.2.2 i hi]; exact (pq_v (by omega) (by omega)).mpr e⟩
/-- THE REFERENCE finds what is reached -/
theorem pq_reach_ok {N : Nat} {cn : Nat → Nat} {fl rt : Nat → Int32} {sm gv gr : Nat → Nat} {af : Nat} (hM : pq_MO N sm gv gr af) (h : pq_Eq N cn fl rt sm gv gr) (rc : Nat → Int32) : ∀ m, m < N → (¬ (pq_reach N sm gv gr rc) m = 0 ↔ pm_reach N cn fl rt m) := by
  obtain ⟨a1, a2⟩ := pq_rt_ok (N := N) (gr := gr) (S := pm_reach N cn fl rt) 16 (pm_clr N rc) hM.2.2.2.2.2.1 (fun m hm q => absurd (pm_clr_in rc hm) q) (fun i v hi hv e => pm_reach_r ((pq_R_iff hM h v).mpr ⟨hv, i, hi, e⟩))
  obtain ⟨b1, b2, b3⟩ := pq_run_ok (sm := sm) hM.2.2.2.2.1 (S := pm_reach N cn fl rt) (fun a b ha he => pm_reach_e ha ((pq_E_iff hM h a b).mpr he)) (N + 1) (pq_rt gr 16 (pm_clr N rc)) (by omega) a1
  intro m hm
  refine ⟨fun q => b1 m hm q, fun q => ?_⟩
  have key : m < N ∧ ¬ (pq_reach N sm gv gr rc) m = 0 := q (fun m => m < N ∧ ¬ (pq_reach N sm gv gr rc) m = 0) (fun b hb => ?_) (fun a b ha he => ?_)
  · exact key.2
  · obtain ⟨hb', i, hi, e⟩ := (pq_R_iff hM h b).mp hb
    exact ⟨hb', b2 b hb' (a2 i b hi hb' e)⟩
  · exact ⟨he.2.1, b3 a b ha.1 ha.2 ((pq_E_iff hM h a b).mp he)⟩
end
