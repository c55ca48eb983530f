/-! THE MARKER: a step of marking, a step of cleaning, and their runs -/
section
/-- marks, changed, kept, the limit, how many are kept, the next root, the lowest forgotten, the lowest changed -/
abbrev pm_M : Type := (Nat → Int32) × (Nat → Int32) × (Nat → Int32) × Nat × Nat × Nat × Nat × Nat
def pm_in (ch : Nat → Int32) (lim nr nc : Nat) (P : pm_P) : pm_M := (P.1, ch, P.2.1, lim, P.2.2.1, nr, P.2.2.2, nc)
def pm_ms (N : Nat) (cn : Nat → Nat) (fl rt : Nat → Int32) (M : pm_M) : Bool × pm_M := match M with
  | (mr, ch, kp, lim, kc, nr, nf, nc) =>
    if nr < 16 then (true, pm_in ch lim (nr + 1) nc (pm_put N lim (mr, kp, kc, nf) (rt nr)))
    else if 0 < kc then (true, pm_in ch lim nr nc (pm_go N cn fl lim (mr, kp, kc - 1, nf) (kp (kc - 1))))
    else if nf < N then (if mr nf = 0 then (true, (mr, ch, kp, lim, kc, nr, nf + 1, nc)) else (true, pm_in ch lim nr nc (pm_go N cn fl lim (mr, kp, kc, nf + 1) (nI nf))))
    else (false, (mr, ch, kp, lim, kc, nr, nf, nc))
def pm_cs (N : Nat) (cn : Nat → Nat) (fl : Nat → Int32) (M : pm_M) : Bool × pm_M := match M with
  | (mr, ch, kp, lim, kc, nr, nf, nc) =>
    if nc < N then (if ch nc = 0 then (true, (mr, ch, kp, lim, kc, nr, nf, nc + 1)) else if mr nc = 0 then (true, (mr, upd ch nc 0, kp, lim, kc, nr, nf, nc + 1)) else (true, pm_in (upd ch nc 0) lim nr (nc + 1) (pm_go N cn fl lim (mr, kp, kc, nf) (nI nc))))
    else (false, (mr, ch, kp, lim, kc, nr, nf, nc))
def pm_fs (N : Nat) (cn : Nat → Nat) (fl rt : Nat → Int32) (M : pm_M) : Bool × pm_M := if (pm_ms N cn fl rt M).1 = true then pm_ms N cn fl rt M else pm_cs N cn fl (pm_ms N cn fl rt M).2
def pm_run (f : pm_M → Bool × pm_M) : Nat → pm_M → pm_M
  | 0, M => M
  | n + 1, M => if (f M).1 = true then pm_run f n (f M).2 else (f M).2
/-- the pile of a marker -/
abbrev pm_pl (M : pm_M) : pm_P := (M.1, M.2.2.1, M.2.2.2.2.1, M.2.2.2.2.2.2.1)
abbrev pm_ch (M : pm_M) : Nat → Int32 := M.2.1
abbrev pm_lim (M : pm_M) : Nat := M.2.2.2.1
abbrev pm_kc (M : pm_M) : Nat := M.2.2.2.2.1
abbrev pm_nr (M : pm_M) : Nat := M.2.2.2.2.2.1
abbrev pm_nf (M : pm_M) : Nat := M.2.2.2.2.2.2.1
abbrev pm_nc (M : pm_M) : Nat := M.2.2.2.2.2.2.2
/-- a marked object waits somewhere, or all that it has is marked -/
def pm_Cv (N : Nat) (cn : Nat → Nat) (fl : Nat → Int32) (P : pm_P) (ch : Nat → Int32) (nc m : Nat) : Prop :=
  (∃ i, i < P.2.2.1 ∧ P.2.1 i = nI m) ∨ P.2.2.2 ≤ m ∨ (¬ ch m = 0 ∧ nc ≤ m) ∨ ∀ b, pm_E N cn fl m b → ¬ P.1 b = 0
def pm_Si (M : pm_M) : Prop := pm_lim M ≤ 64 ∧ pm_kc M ≤ 64 ∧ pm_nr M ≤ 16 ∧ pm_nf M ≤ 400 ∧ pm_nc M ≤ 400
def pm_Zi (N : Nat) (P : pm_P) : Prop := ∀ m, m < 400 → ¬ P.1 m = 0 → m < N
def pm_Ki (N : Nat) (P : pm_P) : Prop := ∀ i, i < P.2.2.1 → ∃ m, m < N ∧ P.2.1 i = nI m ∧ ¬ P.1 m = 0
def pm_Ci (N : Nat) (cn : Nat → Nat) (fl : Nat → Int32) (M : pm_M) : Prop := ∀ m, m < N → ¬ M.1 m = 0 → pm_Cv N cn fl (pm_pl M) (pm_ch M) (pm_nc M) m
def pm_Inv (N : Nat) (cn : Nat → Nat) (fl : Nat → Int32) (M : pm_M) : Prop := pm_Si M ∧ pm_Zi N (pm_pl M) ∧ pm_Ki N (pm_pl M) ∧ pm_Ci N cn fl M
def pm_Ri (N : Nat) (rt : Nat → Int32) (M : pm_M) : Prop := ∀ i m, i < pm_nr M → i < 16 → m < N → rt i = nI m → ¬ M.1 m = 0
def pm_mu (M : pm_M) : Nat := pm_pot (pm_pl M) + (16 - pm_nr M) + (400 - pm_nc M)
theorem pm_le_zi {N : Nat} {P P' : pm_P} (h : pm_Le N P P') (z : pm_Zi N P) : pm_Zi N P' := fun m hm q => by
  by_cases e : P.1 m = 0
  · exact (h.2.2.2.2.1 m hm e q).1
  · exact z m hm e
theorem pm_le_ki {N : Nat} (hN : N ≤ 400) {P P' : pm_P} (h : pm_Le N P P') (z : pm_Ki N P) : pm_Ki N P' := fun i hi => by
  by_cases e : i < P.2.2.1
  · obtain ⟨m, hm, e1, e2⟩ := z i e
    exact ⟨m, hm, by rw [h.2.2.1 i e]; exact e1, h.1 m (by omega) e2⟩
  · exact h.2.2.2.2.2.1 i (by omega) hi
/-- what was covered stays so; what is new is covered -/
theorem pm_le_cv {N : Nat} (hN : N ≤ 400) {cn : Nat → Nat} {fl : Nat → Int32} {P P' : pm_P} {ch : Nat → Int32} {nc : Nat} (h : pm_Le N P P') {m : Nat} (hm : m < N) (hk : ¬ P'.1 m = 0)
    (z : ¬ P.1 m = 0 → pm_Cv N cn fl P ch nc m ∨ ∀ b, pm_E N cn fl m b → ¬ P'.1 b = 0) : pm_Cv N cn fl P' ch nc m := by
  by_cases e : P.1 m = 0
  · rcases (h.2.2.2.2.1 m (by omega) e hk).2 with q | q
    · exact Or.inl q
    · exact Or.inr (Or.inl q)
  · rcases z e with (⟨i, hi, q⟩ | q | q | q) | q
    · exact Or.inl ⟨i, Nat.lt_of_lt_of_le hi h.2.1, by rw [h.2.2.1 i hi]; exact q⟩
    · exact Or.inr (Or.inl (Nat.le_trans h.2.2.2.1 q))
    · exact Or.inr (Or.inr (Or.inl q))
    · exact Or.inr (Or.inr (Or.inr (fun b he => h.1 b (by have := he.2.1; omega) (q b he))))
    · exact Or.inr (Or.inr (Or.inr q))
/-- what a step does -/
def pm_Stp (N : Nat) (cn : Nat → Nat) (fl rt : Nat → Int32) (M : pm_M) (r : Bool) (M' : pm_M) : Prop :=
  pm_Inv N cn fl M' ∧ pm_lim M' = pm_lim M ∧ (pm_Ri N rt M → pm_Ri N rt M') ∧ (r = true → pm_mu M' < pm_mu M) ∧
  (∀ S : Nat → Prop, (∀ b, pm_R N rt b → S b) → (∀ a b, S a → pm_E N cn fl a b → S b) → pm_Sd S (pm_pl M) → pm_Sd S (pm_pl M'))
theorem pm_ms_ok {N : Nat} {cn : Nat → Nat} {fl rt : Nat → Int32} (hN : N ≤ 400) {M : pm_M} (h : pm_Inv N cn fl M) : pm_Stp N cn fl rt M (pm_ms N cn fl rt M).1 (pm_ms N cn fl rt M).2 := by
  obtain ⟨mr, ch, kp, lim, kc, nr, nf, nc⟩ := M
  obtain ⟨⟨s1, s2, s3, s4, s5⟩, hz, hk, hc⟩ := h
  dsimp only [pm_pl, pm_ch, pm_lim, pm_kc, pm_nr, pm_nf, pm_nc] at s1 s2 s3 s4 s5 hz hk hc
  simp only [pm_ms]
  by_cases h1 : nr < 16
  · rw [if_pos h1]
    have L := pm_put_le (lim := lim) hN (mr, kp, kc, nf) (rt nr)
    have hmk : ∀ m, m < N → rt nr = nI m → ¬ (pm_put N lim (mr, kp, kc, nf) (rt nr)).1 m = 0 := fun m hm e => by rw [e]; exact pm_put_mk hN _ hm
    have hsd : ∀ S : Nat → Prop, (∀ b, pm_R N rt b → S b) → pm_Sd S (mr, kp, kc, nf) → pm_Sd S (pm_put N lim (mr, kp, kc, nf) (rt nr)) := fun S hS h0 => pm_put_sd hN h0 (fun k hk e => hS k ⟨hk, nr, h1, e⟩)
    generalize pm_put N lim (mr, kp, kc, nf) (rt nr) = P' at L hmk hsd
    obtain ⟨mr', kp', kc', nf'⟩ := P'
    refine ⟨⟨⟨s1, L.2.2.2.2.2.2.1 s2, h1, Nat.le_trans L.2.2.2.1 s4, s5⟩, pm_le_zi L hz, pm_le_ki hN L hk, fun m hm q => ?_⟩, rfl, fun hR i m hi h16 hm e => ?_, fun _ => ?_, fun S hS _ h0 => hsd S hS h0⟩
    · exact pm_le_cv hN L hm q (fun q0 => Or.inl (hc m hm q0))
    · by_cases ei : i = nr
      · subst ei; exact hmk m hm e
      · exact L.1 m (by omega) (hR i m (by have : i < nr + 1 := hi; show i < nr; omega) h16 hm e)
    · have := L.2.2.2.2.2.2.2
      simp only [pm_mu, pm_pl, pm_nr, pm_nc, pm_in] at this ⊢
      omega
  · rw [if_neg h1]
    by_cases h2 : 0 < kc
    · rw [if_pos h2]
      obtain ⟨x, hx, ex, mx⟩ := hk (kc - 1) (by show kc - 1 < kc; omega)
      dsimp only at ex mx
      rw [ex]
      have L := pm_go_le (lim := lim) hN cn fl (mr, kp, kc - 1, nf) (nI x)
      have hgo : ∀ b, pm_E N cn fl x b → ¬ (pm_go N cn fl lim (mr, kp, kc - 1, nf) (nI x)).1 b = 0 := fun b he => pm_go_mk hN _ he
      have hsd : ∀ S : Nat → Prop, (∀ a b, S a → pm_E N cn fl a b → S b) → pm_Sd S (mr, kp, kc, nf) → pm_Sd S (pm_go N cn fl lim (mr, kp, kc - 1, nf) (nI x)) := fun S hS h0 => pm_go_sd (P := (mr, kp, kc - 1, nf)) hN h0 hx (fun b he => hS x b (h0 x (by omega) mx) he)
      generalize pm_go N cn fl lim (mr, kp, kc - 1, nf) (nI x) = P' at L hgo hsd
      obtain ⟨mr', kp', kc', nf'⟩ := P'
      refine ⟨⟨⟨s1, L.2.2.2.2.2.2.1 (by show kc - 1 ≤ 64; omega), s3, Nat.le_trans L.2.2.2.1 s4, s5⟩, pm_le_zi (P := (mr, kp, kc - 1, nf)) L hz, pm_le_ki (P := (mr, kp, kc - 1, nf)) hN L (fun i hi => hk i (by have : i < kc - 1 := hi; show i < kc; omega)), fun m hm q => ?_⟩, rfl, fun hR i m hi h16 hm e => ?_, fun _ => ?_, fun S _ hS h0 => hsd S hS h0⟩
      · refine pm_le_cv hN L hm q (fun q0 => ?_)
        by_cases em : m = x
        · subst em; exact Or.inr hgo
        · rcases hc m hm q0 with ⟨i, hi, e⟩ | e
          · have hi' : i < kc := hi
            have ei : i ≠ kc - 1 := fun ee => by
              subst ee
              have e' : kp (kc - 1) = nI m := e
              rw [ex] at e'
              exact em ((nI_eq (by omega) (by omega)).mp e').symm
            exact Or.inl (Or.inl ⟨i, by show i < kc - 1; omega, e⟩)
          · exact Or.inl (Or.inr e)
      · exact L.1 m (by omega) (hR i m hi h16 hm e)
      · have := L.2.2.2.2.2.2.2
        simp only [pm_mu, pm_pl, pm_nr, pm_nc, pm_in, pm_pot] at this ⊢
        omega
    · rw [if_neg h2]
      have hk0 : kc = 0 := by omega
      by_cases h3 : nf < N
      · rw [if_pos h3]
        by_cases h4 : mr nf = 0
        · rw [if_pos h4]
          refine ⟨⟨⟨s1, s2, s3, by show nf + 1 ≤ 400; omega, s5⟩, hz, hk, fun m hm q => ?_⟩, rfl, fun hR => hR, fun _ => ?_, fun S _ _ h0 => h0⟩
          · rcases hc m hm q with e | e | e
            · exact Or.inl e
            · have e' : nf ≤ m := e
              have ne : m ≠ nf := fun ee => by subst ee; exact q h4
              exact Or.inr (Or.inl (by show nf + 1 ≤ m; omega))
            · exact Or.inr (Or.inr e)
          · simp only [pm_mu, pm_pl, pm_nr, pm_nc, pm_pot]
            omega
        · rw [if_neg h4]
          have L := pm_go_le (lim := lim) hN cn fl (mr, kp, kc, nf + 1) (nI nf)
          have hgo : ∀ b, pm_E N cn fl nf b → ¬ (pm_go N cn fl lim (mr, kp, kc, nf + 1) (nI nf)).1 b = 0 := fun b he => pm_go_mk hN _ he
          have hsd : ∀ S : Nat → Prop, (∀ a b, S a → pm_E N cn fl a b → S b) → pm_Sd S (mr, kp, kc, nf) → pm_Sd S (pm_go N cn fl lim (mr, kp, kc, nf + 1) (nI nf)) := fun S hS h0 => pm_go_sd (P := (mr, kp, kc, nf + 1)) hN h0 h3 (fun b he => hS nf b (h0 nf (by omega) h4) he)
          generalize pm_go N cn fl lim (mr, kp, kc, nf + 1) (nI nf) = P' at L hgo hsd
          obtain ⟨mr', kp', kc', nf'⟩ := P'
          refine ⟨⟨⟨s1, L.2.2.2.2.2.2.1 s2, s3, Nat.le_trans L.2.2.2.1 (by show nf + 1 ≤ 400; omega), s5⟩, pm_le_zi (P := (mr, kp, kc, nf + 1)) L hz, pm_le_ki (P := (mr, kp, kc, nf + 1)) hN L hk, fun m hm q => ?_⟩, rfl, fun hR i m hi h16 hm e => ?_, fun _ => ?_, fun S _ hS h0 => hsd S hS h0⟩
          · refine pm_le_cv hN L hm q (fun q0 => ?_)
            by_cases em : m = nf
            · subst em; exact Or.inr hgo
            · rcases hc m hm q0 with e | e | e
              · exact Or.inl (Or.inl e)
              · have e' : nf ≤ m := e
                exact Or.inl (Or.inr (Or.inl (by show nf + 1 ≤ m; omega)))
              · exact Or.inl (Or.inr (Or.inr e))
          · exact L.1 m (by omega) (hR i m hi h16 hm e)
          · have := L.2.2.2.2.2.2.2
            simp only [pm_mu, pm_pl, pm_nr, pm_nc, pm_in, pm_pot] at this ⊢
            omega
      · rw [if_neg h3]
        exact ⟨⟨⟨s1, s2, s3, s4, s5⟩, hz, hk, hc⟩, rfl, fun hR => hR, fun q => (by cases q), fun S _ _ h0 => h0⟩
theorem pm_cs_ok {N : Nat} {cn : Nat → Nat} {fl rt : Nat → Int32} (hN : N ≤ 400) {M : pm_M} (h : pm_Inv N cn fl M) : pm_Stp N cn fl rt M (pm_cs N cn fl M).1 (pm_cs N cn fl M).2 := by
  obtain ⟨mr, ch, kp, lim, kc, nr, nf, nc⟩ := M
  obtain ⟨⟨s1, s2, s3, s4, s5⟩, hz, hk, hc⟩ := h
  dsimp only [pm_pl, pm_ch, pm_lim, pm_kc, pm_nr, pm_nf, pm_nc] at s1 s2 s3 s4 s5 hz hk hc
  simp only [pm_cs]
  by_cases h1 : nc < N
  · rw [if_pos h1]
    by_cases h2 : ch nc = 0
    · rw [if_pos h2]
      refine ⟨⟨⟨s1, s2, s3, s4, by show nc + 1 ≤ 400; omega⟩, hz, hk, fun m hm q => ?_⟩, rfl, fun hR => hR, fun _ => ?_, fun S _ _ h0 => h0⟩
      · rcases hc m hm q with e | e | ⟨e1, e2⟩ | e
        · exact Or.inl e
        · exact Or.inr (Or.inl e)
        · have e2' : nc ≤ m := e2
          have ne : m ≠ nc := fun ee => by subst ee; exact e1 h2
          exact Or.inr (Or.inr (Or.inl ⟨e1, by show nc + 1 ≤ m; omega⟩))
        · exact Or.inr (Or.inr (Or.inr e))
      · simp only [pm_mu, pm_pl, pm_nr, pm_nc, pm_pot]
        omega
    · rw [if_neg h2]
      by_cases h3 : mr nc = 0
      · rw [if_pos h3]
        refine ⟨⟨⟨s1, s2, s3, s4, by show nc + 1 ≤ 400; omega⟩, hz, hk, fun m hm q => ?_⟩, rfl, fun hR => hR, fun _ => ?_, fun S _ _ h0 => h0⟩
        · have ne : m ≠ nc := fun ee => by subst ee; exact q h3
          rcases hc m hm q with e | e | ⟨e1, e2⟩ | e
          · exact Or.inl e
          · exact Or.inr (Or.inl e)
          · have e2' : nc ≤ m := e2
            exact Or.inr (Or.inr (Or.inl ⟨by show ¬ upd ch nc 0 m = 0; rw [pk_un ne]; exact e1, by show nc + 1 ≤ m; omega⟩))
          · exact Or.inr (Or.inr (Or.inr e))
        · simp only [pm_mu, pm_pl, pm_nr, pm_nc, pm_pot]
          omega
      · rw [if_neg h3]
        have L := pm_go_le (lim := lim) hN cn fl (mr, kp, kc, nf) (nI nc)
        have hgo : ∀ b, pm_E N cn fl nc b → ¬ (pm_go N cn fl lim (mr, kp, kc, nf) (nI nc)).1 b = 0 := fun b he => pm_go_mk hN _ he
        have hsd : ∀ S : Nat → Prop, (∀ a b, S a → pm_E N cn fl a b → S b) → pm_Sd S (mr, kp, kc, nf) → pm_Sd S (pm_go N cn fl lim (mr, kp, kc, nf) (nI nc)) := fun S hS h0 => pm_go_sd hN h0 h1 (fun b he => hS nc b (h0 nc (by omega) h3) he)
        generalize pm_go N cn fl lim (mr, kp, kc, nf) (nI nc) = P' at L hgo hsd
        obtain ⟨mr', kp', kc', nf'⟩ := P'
        refine ⟨⟨⟨s1, L.2.2.2.2.2.2.1 s2, s3, Nat.le_trans L.2.2.2.1 s4, by show nc + 1 ≤ 400; omega⟩, pm_le_zi L hz, pm_le_ki hN L hk, fun m hm q => ?_⟩, rfl, fun hR i m hi h16 hm e => ?_, fun _ => ?_, fun S _ hS h0 => hsd S hS h0⟩
        · refine pm_le_cv hN L hm q (fun q0 => ?_)
          by_cases em : m = nc
          · subst em; exact Or.inr hgo
          · rcases hc m hm q0 with e | e | ⟨e1, e2⟩ | e
            · exact Or.inl (Or.inl e)
            · exact Or.inl (Or.inr (Or.inl e))
            · have e2' : nc ≤ m := e2
              exact Or.inl (Or.inr (Or.inr (Or.inl ⟨by show ¬ upd ch nc 0 m = 0; rw [pk_un em]; exact e1, by show nc + 1 ≤ m; omega⟩)))
            · exact Or.inl (Or.inr (Or.inr (Or.inr e)))
        · exact L.1 m (by omega) (hR i m hi h16 hm e)
        · have := L.2.2.2.2.2.2.2
          simp only [pm_mu, pm_pl, pm_nr, pm_nc, pm_in, pm_pot] at this ⊢
          omega
  · rw [if_neg h1]
    exact ⟨⟨⟨s1, s2, s3, s4, s5⟩, hz, hk, hc⟩, rfl, fun hR => hR, fun q => (by cases q), fun S _ _ h0 => h0⟩
theorem pm_ms_f {N : Nat} {cn : Nat → Nat} {fl rt : Nat → Int32} {M : pm_M} (h : (pm_ms N cn fl rt M).1 = false) : (pm_ms N cn fl rt M).2 = M ∧ 16 ≤ pm_nr M ∧ pm_kc M = 0 ∧ N ≤ pm_nf M := by
  obtain ⟨mr, ch, kp, lim, kc, nr, nf, nc⟩ := M
  simp only [pm_ms] at h ⊢
  by_cases h1 : nr < 16
  · rw [if_pos h1] at h; cases h
  · rw [if_neg h1] at h ⊢
    by_cases h2 : 0 < kc
    · rw [if_pos h2] at h; cases h
    · rw [if_neg h2] at h ⊢
      by_cases h3 : nf < N
      · rw [if_pos h3] at h
        by_cases h4 : mr nf = 0
        · rw [if_pos h4] at h; cases h
        · rw [if_neg h4] at h; cases h
      · rw [if_neg h3]
        exact ⟨rfl, by show 16 ≤ nr; omega, by show kc = 0; omega, by show N ≤ nf; omega⟩
theorem pm_cs_f {N : Nat} {cn : Nat → Nat} {fl : Nat → Int32} {M : pm_M} (h : (pm_cs N cn fl M).1 = false) : (pm_cs N cn fl M).2 = M ∧ N ≤ pm_nc M := by
  obtain ⟨mr, ch, kp, lim, kc, nr, nf, nc⟩ := M
  simp only [pm_cs] at h ⊢
  by_cases h1 : nc < N
  · rw [if_pos h1] at h
    by_cases h2 : ch nc = 0
    · rw [if_pos h2] at h; cases h
    · rw [if_neg h2] at h
      by_cases h3 : mr nc = 0
      · rw [if_pos h3] at h; cases h
      · rw [if_neg h3] at h; cases h
  · rw [if_neg h1]
    exact ⟨rfl, by show N ≤ nc; omega⟩
theorem pm_fs_ok {N : Nat} {cn : Nat → Nat} {fl rt : Nat → Int32} (hN : N ≤ 400) {M : pm_M} (h : pm_Inv N cn fl M) : pm_Stp N cn fl rt M (pm_fs N cn fl rt M).1 (pm_fs N cn fl rt M).2 := by
  simp only [pm_fs]
  by_cases h1 : (pm_ms N cn fl rt M).1 = true
  · rw [if_pos h1]; exact pm_ms_ok hN h
  · rw [if_neg h1]
    have h2 := (pm_ms_f (by cases q : (pm_ms N cn fl rt M).1 <;> simp_all : (pm_ms N cn fl rt M).1 = false)).1
    rw [h2]
    exact pm_cs_ok hN h
theorem pm_fs_f {N : Nat} {cn : Nat → Nat} {fl rt : Nat → Int32} {M : pm_M} (h : (pm_fs N cn fl rt M).1 = false) : (pm_fs N cn fl rt M).2 = M ∧ 16 ≤ pm_nr M ∧ pm_kc M = 0 ∧ N ≤ pm_nf M ∧ N ≤ pm_nc M := by
  simp only [pm_fs] at h ⊢
  by_cases h1 : (pm_ms N cn fl rt M).1 = true
  · rw [if_pos h1] at h; rw [h1] at h; cases h
  · have h2 := pm_ms_f (by cases q : (pm_ms N cn fl rt M).1 <;> simp_all : (pm_ms N cn fl rt M).1 = false)
    rw [if_neg h1] at h ⊢
    rw [h2.1] at h ⊢
    have h3 := pm_cs_f h
    exact ⟨h3.1, h2.2.1, h2.2.2.1, h2.2.2.2, h3.2⟩
/-- a run of steps keeps what each step keeps -/
theorem pm_run_ok {N : Nat} {cn : Nat → Nat} {fl rt : Nat → Int32} {f : pm_M → Bool × pm_M} (hf : ∀ M, pm_Inv N cn fl M → pm_Stp N cn fl rt M (f M).1 (f M).2) :
    ∀ (n : Nat) (M : pm_M), pm_Inv N cn fl M → pm_Inv N cn fl (pm_run f n M) ∧ pm_lim (pm_run f n M) = pm_lim M ∧ (pm_Ri N rt M → pm_Ri N rt (pm_run f n M)) ∧
      (∀ S : Nat → Prop, (∀ b, pm_R N rt b → S b) → (∀ a b, S a → pm_E N cn fl a b → S b) → pm_Sd S (pm_pl M) → pm_Sd S (pm_pl (pm_run f n M))) := by
  intro n
  induction n with
  | zero => intro M h; exact ⟨h, rfl, fun h => h, fun _ _ _ h => h⟩
  | succ n ih =>
    intro M h
    obtain ⟨a1, a2, a3, -, a5⟩ := hf M h
    simp only [pm_run]
    split
    · obtain ⟨b1, b2, b3, b4⟩ := ih _ a1
      exact ⟨b1, b2.trans a2, fun q => b3 (a3 q), fun S h1 h2 q => b4 S h1 h2 (a5 S h1 h2 q)⟩
    · exact ⟨a1, a2, a3, a5⟩
theorem pm_run_end {N : Nat} {cn : Nat → Nat} {fl rt : Nat → Int32} {f : pm_M → Bool × pm_M} (hf : ∀ M, pm_Inv N cn fl M → pm_Stp N cn fl rt M (f M).1 (f M).2) (h0 : ∀ M, (f M).1 = false → (f M).2 = M) :
    ∀ (n : Nat) (M : pm_M), pm_Inv N cn fl M → pm_mu M < n → (f (pm_run f n M)).1 = false := by
  intro n
  induction n with
  | zero => intro M _ h; omega
  | succ n ih =>
    intro M h hm
    obtain ⟨a1, -, -, a4, -⟩ := hf M h
    simp only [pm_run]
    by_cases q : (f M).1 = true
    · rw [if_pos q]
      exact ih _ a1 (by have := a4 q; omega)
    · rw [if_neg q]
      have q' : (f M).1 = false := by cases z : (f M).1 <;> simp_all
      rw [h0 M q']; exact q'
def pm_r0 (M : pm_M) : pm_M := match M with | (mr, ch, kp, lim, kc, _, nf, nc) => (mr, ch, kp, lim, kc, 0, nf, nc)
def pm_fin (n : Nat) (N : Nat) (cn : Nat → Nat) (fl rt : Nat → Int32) (M : pm_M) : pm_M := pm_run (pm_fs N cn fl rt) n (pm_r0 M)
/-- FINISHED: all that is reached is marked; and if all marks were reached, they are -/
theorem pm_fin_ok {n N : Nat} (hn : n = 1000000) {cn : Nat → Nat} {fl rt : Nat → Int32} (hN : N ≤ 400) {M : pm_M} (h : pm_Inv N cn fl M) :
    pm_Inv N cn fl (pm_fin n N cn fl rt M) ∧ pm_lim (pm_fin n N cn fl rt M) = pm_lim M ∧ (∀ m, pm_reach N cn fl rt m → ¬ (pm_fin n N cn fl rt M).1 m = 0) ∧
    (pm_Sd (pm_reach N cn fl rt) (pm_pl M) → pm_Sd (pm_reach N cn fl rt) (pm_pl (pm_fin n N cn fl rt M))) := by
  obtain ⟨mr, ch, kp, lim, kc, nr, nf, nc⟩ := M
  have h' : pm_Inv N cn fl (pm_r0 (mr, ch, kp, lim, kc, nr, nf, nc)) := ⟨⟨h.1.1, h.1.2.1, Nat.zero_le _, h.1.2.2.2.1, h.1.2.2.2.2⟩, h.2.1, h.2.2.1, h.2.2.2⟩
  have hmu : pm_mu (pm_r0 (mr, ch, kp, lim, kc, nr, nf, nc)) < n := by
    rw [hn]
    have k1 := h.1.2.1
    simp only [pm_kc] at k1
    simp only [pm_r0, pm_mu, pm_pot, pm_pl, pm_nr, pm_nc]
    omega
  obtain ⟨r1, r2, r3, r4⟩ := pm_run_ok (rt := rt) (fun M h => pm_fs_ok hN h) n _ h'
  have r5 := pm_run_end (rt := rt) (fun M h => pm_fs_ok hN h) (fun M q => (pm_fs_f q).1) n _ h' hmu
  obtain ⟨-, e1, e2, e3, e4⟩ := pm_fs_f r5
  have hR := r3 (fun i m hi => absurd hi (Nat.not_lt_zero i))
  refine ⟨r1, r2, fun m hm => ?_, fun q => r4 _ (fun b hb => pm_reach_r hb) (fun a b ha he => pm_reach_e ha he) q⟩
  refine hm (fun m => ¬ (pm_fin n N cn fl rt (mr, ch, kp, lim, kc, nr, nf, nc)).1 m = 0) (fun b hb => ?_) (fun a b ha he => ?_)
  · obtain ⟨hb, i, hi, e⟩ := hb
    exact hR i b (by exact Nat.lt_of_lt_of_le hi e1) hi hb e
  · rcases r1.2.2.2 a he.1 ha with ⟨i, hi, -⟩ | q | ⟨-, q⟩ | q
    · have hi' : i < pm_kc (pm_run (pm_fs N cn fl rt) n (pm_r0 (mr, ch, kp, lim, kc, nr, nf, nc))) := hi
      rw [e2] at hi'; omega
    · have q' : pm_nf (pm_run (pm_fs N cn fl rt) n (pm_r0 (mr, ch, kp, lim, kc, nr, nf, nc))) ≤ a := q
      have := he.1; omega
    · have := he.1; omega
    · exact q b he
end
