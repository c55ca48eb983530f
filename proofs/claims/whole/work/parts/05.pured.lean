/-! CHANGES of the heap, and what they leave of the marker's order -/
section
def pm_un (f : Nat → Nat) (k v : Nat) : Nat → Nat := fun i => if i = k then v else f i
theorem pm_un_s {f : Nat → Nat} {k v : Nat} : pm_un f k v k = v := by simp [pm_un]
theorem pm_un_n {f : Nat → Nat} {k v j : Nat} (h : j ≠ k) : pm_un f k v j = f j := by simp [pm_un, h]
/-- field counts as the array has them -/
def pm_nf9 (cn : Nat → Nat) : Nat → Int32 := fun i => nI (cn i)
theorem pm_nf9_up (cn : Nat → Nat) (k v : Nat) : upd (pm_nf9 cn) k (nI v) = pm_nf9 (pm_un cn k v) := by
  funext i
  simp only [upd, pm_nf9, pm_un]
  split <;> rfl
/-- n places from b on become -1 -/
def pm_fill (f : Nat → Int32) (b n : Nat) : Nat → Int32 := fun i => if b ≤ i ∧ i < b + n then -1 else f i
theorem pm_fill_0 (f : Nat → Int32) (b : Nat) : pm_fill f b 0 = f := by
  funext i
  simp only [pm_fill]
  rw [if_neg (by omega)]
theorem pm_fill_s (f : Nat → Int32) (b n : Nat) : upd (pm_fill f b n) (b + n) (-1) = pm_fill f b (n + 1) := by
  funext i
  simp only [upd, pm_fill]
  by_cases h : i = b + n
  · rw [if_pos h, if_pos (by omega)]
  · rw [if_neg h]
    by_cases h2 : b ≤ i ∧ i < b + n
    · rw [if_pos h2, if_pos (by omega)]
    · rw [if_neg h2, if_neg (by omega)]
theorem pm_fill_in {f : Nat → Int32} {b n i : Nat} (h : b ≤ i) (h2 : i < b + n) : pm_fill f b n i = -1 := by
  simp only [pm_fill]
  rw [if_pos ⟨h, h2⟩]
theorem pm_fill_lo {f : Nat → Int32} {b n i : Nat} (h : i < b) : pm_fill f b n i = f i := by
  simp only [pm_fill]
  rw [if_neg (by omega)]
theorem pm_m1 {m : Nat} (h : m < 2 ^ 31) : ¬ (-1 : Int32) = nI m := by
  intro q
  have a := nI_toInt h
  rw [← q] at a
  have b : (-1 : Int32).toInt = -1 := by decide
  rw [b] at a
  omega
theorem pm_mk_ok {N : Nat} {cn : Nat → Nat} {fl rt : Nat → Int32} {F : Nat} (h : pm_Ok N cn fl rt) (hN : N < 400) (hF : F ≤ 20) : pm_Ok (N + 1) (pm_un cn N F) (pm_fill fl (N * 20) F) rt := by
  obtain ⟨h1, h2, h3, h4⟩ := h
  refine ⟨by omega, fun k hk => ?_, fun k hk j hj => ?_, fun i hi => ?_⟩
  · by_cases e : k = N
    · rw [e, pm_un_s]; exact hF
    · rw [pm_un_n e]; exact h2 k (by omega)
  · by_cases e : k = N
    · subst e
      rw [pm_un_s] at hj
      exact Or.inl (pm_fill_in (by omega) (by omega))
    · rw [pm_un_n e] at hj
      have := h2 k (by omega)
      rw [pm_fill_lo (by omega)]
      rcases h3 k (by omega) j hj with q | ⟨m, hm, q⟩
      · exact Or.inl q
      · exact Or.inr ⟨m, by omega, q⟩
  · rcases h4 i hi with q | ⟨m, hm, q⟩
    · exact Or.inl q
    · exact Or.inr ⟨m, by omega, q⟩
theorem pm_mk_E {N : Nat} {cn : Nat → Nat} {fl rt : Nat → Int32} {F : Nat} (h : pm_Ok N cn fl rt) (hN : N < 400) {a b : Nat} (ha : a < N) (he : pm_E (N + 1) (pm_un cn N F) (pm_fill fl (N * 20) F) a b) : pm_E N cn fl a b := by
  obtain ⟨-, h2, j, hj, e⟩ := he
  rw [pm_un_n (by omega)] at hj
  have := h.2.1 a ha
  rw [pm_fill_lo (by omega)] at e
  refine ⟨ha, ?_, j, hj, e⟩
  rcases h.2.2.1 a ha j hj with q | ⟨m, hm, q⟩
  · rw [q] at e; exact absurd e (pm_m1 (by omega))
  · rw [q] at e
    rw [(nI_eq (by omega) (by omega)).mp e] at hm; exact hm
theorem pm_mk_inv {N : Nat} {cn : Nat → Nat} {fl rt : Nat → Int32} {F : Nat} {M : pm_M} (h : pm_Ok N cn fl rt) (hN : N < 400) (hM : pm_Inv N cn fl M) : pm_Inv (N + 1) (pm_un cn N F) (pm_fill fl (N * 20) F) M := by
  obtain ⟨s, z, k, c⟩ := hM
  refine ⟨s, fun m hm q => Nat.lt_succ_of_lt (z m hm q), fun i hi => ?_, fun m hm q => ?_⟩
  · obtain ⟨m, hm, e⟩ := k i hi
    exact ⟨m, by omega, e⟩
  · have hm' : m < N := z m (by omega) q
    rcases c m hm' q with e | e | e | e
    · exact Or.inl e
    · exact Or.inr (Or.inl e)
    · exact Or.inr (Or.inr (Or.inl e))
    · exact Or.inr (Or.inr (Or.inr (fun b he => e b (pm_mk_E h hN hm' he))))
/-- a change is noted -/
def pm_note (M : pm_M) (k : Nat) : pm_M := match M with | (mr, ch, kp, lim, kc, nr, nf, nc) => (mr, upd ch k 1, kp, lim, kc, nr, nf, if k < nc then k else nc)
theorem pm_st_ok {N : Nat} {cn : Nat → Nat} {fl rt : Nat → Int32} {a j : Nat} {o : Int32} (h : pm_Ok N cn fl rt) (hj : j < cn a) (ha : a < N) (ho : o = -1 ∨ ∃ m, m < N ∧ o = nI m) : pm_Ok N cn (upd fl (a * 20 + j) o) rt := by
  obtain ⟨h1, h2, h3, h4⟩ := h
  refine ⟨h1, h2, fun k hk i hi => ?_, h4⟩
  by_cases e : k * 20 + i = a * 20 + j
  · rw [e, pk_us]; exact ho
  · rw [pk_un e]; exact h3 k hk i hi
theorem pm_st_inv {N : Nat} {cn : Nat → Nat} {fl rt : Nat → Int32} {a j : Nat} {o : Int32} {M : pm_M} (h : pm_Ok N cn fl rt) (hj : j < cn a) (ha : a < N) (hM : pm_Inv N cn fl M) : pm_Inv N cn (upd fl (a * 20 + j) o) (pm_note M a) := by
  obtain ⟨mr, ch, kp, lim, kc, nr, nf, nc⟩ := M
  obtain ⟨⟨s1, s2, s3, s4, s5⟩, z, k, c⟩ := hM
  dsimp only [pm_pl, pm_ch, pm_lim, pm_kc, pm_nr, pm_nf, pm_nc] at s1 s2 s3 s4 s5 z k c
  have h1 := h.1
  refine ⟨⟨s1, s2, s3, s4, ?_⟩, z, k, fun m hm q => ?_⟩
  · show (if a < nc then a else nc) ≤ 400
    split <;> omega
  · by_cases e : m = a
    · subst e
      refine Or.inr (Or.inr (Or.inl ⟨by show ¬ upd ch m 1 m = 0; rw [pk_us]; decide, ?_⟩))
      show (if m < nc then m else nc) ≤ m
      split <;> omega
    · rcases c m hm q with e1 | e1 | ⟨e1, e2⟩ | e1
      · exact Or.inl e1
      · exact Or.inr (Or.inl e1)
      · refine Or.inr (Or.inr (Or.inl ⟨by show ¬ upd ch a 1 m = 0; rw [pk_un e]; exact e1, ?_⟩))
        show (if a < nc then a else nc) ≤ m
        have e2' : nc ≤ m := e2
        split <;> omega
      · refine Or.inr (Or.inr (Or.inr (fun b he => e1 b ?_)))
        obtain ⟨q1, q2, i, hi, q3⟩ := he
        have b1 := h.2.1 m q1
        have b2 := h.2.1 a ha
        rw [pk_un (by omega)] at q3
        exact ⟨q1, q2, i, hi, q3⟩
theorem pm_rt_ok {N : Nat} {cn : Nat → Nat} {fl rt : Nat → Int32} {i : Nat} {o : Int32} (h : pm_Ok N cn fl rt) (ho : o = -1 ∨ ∃ m, m < N ∧ o = nI m) : pm_Ok N cn fl (upd rt i o) := by
  obtain ⟨h1, h2, h3, h4⟩ := h
  refine ⟨h1, h2, h3, fun k hk => ?_⟩
  by_cases e : k = i
  · rw [e, pk_us]; exact ho
  · rw [pk_un e]; exact h4 k hk
/-- all is forgotten -/
def pm_bg (M : pm_M) : pm_M := match M with | (mr, ch, kp, lim, _, _, _, _) => (pm_clr 400 mr, pm_clr 400 ch, kp, lim, 0, 0, 400, 400)
theorem pm_bg_inv {N : Nat} {cn : Nat → Nat} {fl : Nat → Int32} {M : pm_M} (h : pm_Si M) (hN : N ≤ 400) : pm_Inv N cn fl (pm_bg M) ∧ ∀ S : Nat → Prop, pm_Sd S (pm_pl (pm_bg M)) := by
  obtain ⟨mr, ch, kp, lim, kc, nr, nf, nc⟩ := M
  have h0 : ∀ m, m < 400 → pm_clr 400 mr m = 0 := fun m hm => pm_clr_in mr hm
  refine ⟨⟨⟨h.1, Nat.zero_le _, Nat.zero_le _, Nat.le_refl _, Nat.le_refl _⟩, fun m hm q => absurd (h0 m hm) q, fun i hi => absurd hi (Nat.not_lt_zero i), fun m hm q => absurd (h0 m (by omega)) q⟩, fun S m hm q => absurd (h0 m hm) q⟩
end
