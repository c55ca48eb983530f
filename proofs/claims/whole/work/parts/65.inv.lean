/-! WHAT HOLDS between the class and the reference after i calls -/
section
def lj_J (i : Nat) (iC tc lq : Bool) (fn qn : Nat) (M : pm_M) (N : Nat) (cn : Nat → Nat) (fl rt : Nat → Int32) (fa : Int32) (af : Nat) (sm gv gr : Nat → Nat) (mq : Nat → Int32) (pl : Nat) (go qu : Bool) (cy qc : Nat) (fr wq : Bool) : Prop :=
  (pm_Ok N cn fl rt ∧ pq_MO N sm gv gr af ∧ pq_Eq N cn fl rt sm gv gr ∧ fa = nI af) ∧ (pm_Si M ∧ pm_lim M = pl ∧ go = iC ∧ cy = fn ∧ qc = qn ∧ wq = lq ∧ fn ≤ i) ∧
  (iC = true → qu = !tc) ∧ (iC = true → pm_Inv N cn fl M ∧ (tc = false → pm_Sd (pm_reach N cn fl rt) (pm_pl M))) ∧ (iC = false → fr = (decide (0 < fn) && !tc)) ∧
  (iC = false → fr = true → (∀ m, pm_reach N cn fl rt m → ¬ M.1 m = 0) ∧ (lq = true → pm_Sd (pm_reach N cn fl rt) (pm_pl M) ∧ ∀ k, k < N → (¬ mq k = 0 ↔ pm_reach N cn fl rt k)))
variable {i : Nat} {iC tc lq : Bool} {fn qn : Nat} {M : pm_M} {N : Nat} {cn : Nat → Nat} {fl rt : Nat → Int32} {fa : Int32} {af : Nat} {sm gv gr : Nat → Nat} {mq : Nat → Int32} {pl : Nat} {go qu : Bool} {cy qc : Nat} {fr wq : Bool}
theorem lj_m1 : nI 0 - nI 1 = (-1 : Int32) := by decide +kernel
theorem lj_step (h : lj_J i iC tc lq fn qn M N cn fl rt fa af sm gv gr mq pl go qu cy qc fr wq) : lj_J (i + 1) iC tc lq fn qn M N cn fl rt fa af sm gv gr mq pl go qu cy qc fr wq := by
  obtain ⟨h1, ⟨a1, a2, a3, a4, a5, a6, a7⟩, h3⟩ := h
  exact ⟨h1, ⟨a1, a2, a3, a4, a5, a6, by omega⟩, h3⟩
theorem lj_init : lj_J 0 false false false 0 0 (fun _ => 0, fun _ => 0, fun _ => 0, 8, 0, 0, 400, 400) 0 (fun _ => 0) (fun _ => 0) (pm_fill (fun _ => 0) 0 16) (nI 0) 0 (fun _ => 0) (fun _ => 0) (fun _ => 0) (fun _ => 0) 8 false false 0 0 false false := by
  refine ⟨⟨⟨by omega, fun k hk => absurd hk (Nat.not_lt_zero k), fun k hk => absurd hk (Nat.not_lt_zero k), fun i hi => Or.inl (pm_fill_in (Nat.zero_le _) (by omega))⟩, ⟨by omega, rfl, rfl, fun k hk => absurd hk (Nat.not_lt_zero k), fun _ => Nat.le_refl _, fun _ _ => Nat.le_refl _, fun _ _ => rfl⟩, ⟨fun k hk => absurd hk (Nat.not_lt_zero k), fun k j hk => absurd hk (Nat.not_lt_zero k), fun i hi => ?_⟩, rfl⟩, ⟨⟨by decide, by decide, by decide, by decide, by decide⟩, rfl, rfl, rfl, rfl, rfl, Nat.le_refl _⟩, fun q => (by cases q), fun q => (by cases q), fun _ => rfl, fun _ q => (by cases q)⟩
  rw [pm_fill_in (Nat.zero_le _) (by omega)]
  exact lj_m1.symm
theorem lj_hf (h : lj_J i iC tc lq fn qn M N cn fl rt fa af sm gv gr mq pl go qu cy qc fr wq) (k f : Int32) : pm_hf N (pq_dn sm) k f = pm_hf N cn k f := by
  have hN := h.1.1.1
  simp only [pm_hf]
  rcases pm_tf (pm_has N k) with q | q
  · obtain ⟨a, ha, rfl⟩ := pm_has_of (by omega) q
    rw [nI_clamp (by omega)]
    rw [h.1.2.2.1.1 a ha]
    rfl
  · rw [q, Bool.false_and, Bool.false_and]
theorem lj_make (h : lj_J i iC tc lq fn qn M N cn fl rt fa af sm gv gr mq pl go qu cy qc fr wq) {F : Nat} (hF : F ≤ 20) (hN : N < 400) : lj_J (i + 1) iC true lq fn qn M (N + 1) (pm_un cn N F) (pm_fill fl (N * 20) F) rt (fa + nI F) (af + F) (pm_un sm (N + 1) (af + F)) gv gr mq pl go false cy qc false wq := by
  obtain ⟨⟨o1, o2, o3, o4⟩, ⟨a1, a2, a3, a4, a5, a6, a7⟩, h3, h4, h5, h6⟩ := h
  obtain ⟨m1, m2, m3, m4, m5, m6, m7⟩ := id o2
  have s1 : ∀ k, k ≤ N → pm_un sm (N + 1) (af + F) k = sm k := fun k hk => pm_un_n (by omega)
  refine ⟨⟨pm_mk_ok o1 hN hF, ⟨by omega, pm_un_s.symm, by rw [s1 0 (by omega)]; exact m3, fun k hk => ?_, fun f => Nat.le_succ_of_le (m5 f), fun i hi => Nat.le_succ_of_le (m6 i hi), fun f hf => ?_⟩, ⟨fun k hk => ?_, fun k j hk hj => ?_, o3.2.2⟩, by rw [o4]; exact nI_add af F⟩, ⟨a1, a2, a3, a4, a5, a6, by omega⟩, fun _ => rfl, fun q => ⟨pm_mk_inv o1 hN (h4 q).1, fun z => (by cases z)⟩, fun _ => (by rw [Bool.not_true, Bool.and_false]), fun _ q => (by cases q)⟩
  · by_cases e : k = N
    · subst e
      rw [pm_un_s, s1 k (Nat.le_refl _), ← m2]
      exact ⟨by omega, by omega⟩
    · rw [s1 k (by omega), s1 (k + 1) (by omega)]
      exact m4 k (by omega)
  · rw [pm_un_s] at hf
    exact m7 f (by omega)
  · by_cases e : k = N
    · subst e
      rw [pm_un_s, pm_un_s, s1 k (Nat.le_refl _), ← m2]
      omega
    · rw [pm_un_n e, s1 k (by omega), s1 (k + 1) (by omega)]
      exact o3.1 k (by omega)
  · by_cases e : k = N
    · subst e
      rw [pm_un_s] at hj
      rw [s1 k (Nat.le_refl _), pm_fill_in (by omega) (by omega), m7 (sm k + j) (by omega)]
      exact lj_m1.symm
    · rw [pm_un_n e] at hj
      have := o1.2.1 k (by omega)
      rw [s1 k (by omega), pm_fill_lo (by omega)]
      exact o3.2.1 k j (by omega) hj
theorem lj_val {N : Nat} {x : Int32} (hN : N ≤ 400) (h : (decide (x = -1) || pm_has N x) = true) : x = -1 ∨ ∃ m, m < N ∧ x = nI m := by
  rcases pm_tf (decide (x = -1)) with q | q
  · exact Or.inl (of_decide_eq_true q)
  · rw [q, Bool.false_or] at h
    exact Or.inr (pm_has_of (by omega) h)
theorem lj_sinj (h : lj_J i iC tc lq fn qn M N cn fl rt fa af sm gv gr mq pl go qu cy qc fr wq) {a j k l : Nat} (ha : a < N) (hj : j < cn a) (hk : k < N) (hl : l < cn k) (e : sm k + l = sm a + j) : k = a ∧ l = j := by
  have hM := h.1.2.1
  have e1 := h.1.2.2.1.1 a ha
  have e2 := h.1.2.2.1.1 k hk
  have m1 := hM.2.2.2.1 a ha
  have m2 := hM.2.2.2.1 k hk
  rcases Nat.lt_trichotomy k a with q | q | q
  · have := pq_mn hM (show k + 1 ≤ a by omega) (by omega)
    omega
  · subst q; exact ⟨rfl, by omega⟩
  · have := pq_mn hM (show a + 1 ≤ k by omega) (by omega)
    omega
theorem lj_set (h : lj_J i iC tc lq fn qn M N cn fl rt fa af sm gv gr mq pl go qu cy qc fr wq) {a j : Nat} {o : Int32} (ha : a < N) (hj : j < cn a) (ho : (decide (o = -1) || pm_has N o) = true) : lj_J (i + 1) iC true lq fn qn (if iC = true then pm_note M a else M) N cn (upd fl (a * 20 + j) o) rt fa af sm (pm_un gv (sm a + j) (pm_v o)) gr mq pl go false cy qc false wq := by
  have hinj := fun k l hk hl e => lj_sinj h (k := k) (l := l) ha hj hk hl e
  obtain ⟨⟨o1, o2, o3, o4⟩, ⟨a1, a2, a3, a4, a5, a6, a7⟩, h3, h4, h5, h6⟩ := h
  obtain ⟨m1, m2, m3, m4, m5, m6, m7⟩ := id o2
  obtain ⟨v1, v2, v3⟩ := pm_v_ok m1 ho
  have c1 := o3.1 a ha
  have c2 := pq_mn o2 (show a + 1 ≤ N by omega) (Nat.le_refl _)
  have c3 := m4 a ha
  have b2 := o1.2.1 a ha
  have hnote : pm_Si (if iC = true then pm_note M a else M) ∧ pm_lim (if iC = true then pm_note M a else M) = pl := by
    by_cases q : iC = true
    · rw [if_pos q]
      obtain ⟨mr, ch, kp, lim, kc, nr, nf, nc⟩ := M
      refine ⟨⟨a1.1, a1.2.1, a1.2.2.1, a1.2.2.2.1, ?_⟩, a2⟩
      have a15 : nc ≤ 400 := a1.2.2.2.2
      show (if a < nc then a else nc) ≤ 400
      split <;> omega
    · rw [if_neg q]; exact ⟨a1, a2⟩
  refine ⟨⟨pm_st_ok o1 hj ha (lj_val m1 ho), ⟨m1, m2, m3, m4, fun f => ?_, m6, fun f hf => ?_⟩, ⟨o3.1, fun k l hk hl => ?_, o3.2.2⟩, o4⟩, ⟨hnote.1, hnote.2, a3, a4, a5, a6, by omega⟩, fun _ => rfl, fun q => ⟨by rw [if_pos q]; exact pm_st_inv o1 hj ha (h4 q).1, fun z => (by cases z)⟩, fun _ => (by rw [Bool.not_true, Bool.and_false]), fun _ q => (by cases q)⟩
  · by_cases e : f = sm a + j
    · rw [e, pm_un_s]; exact v2
    · rw [pm_un_n e]; exact m5 f
  · rw [pm_un_n (by omega)]; exact m7 f hf
  · by_cases e : k = a ∧ l = j
    · obtain ⟨rfl, rfl⟩ := e
      rw [pk_us, pm_un_s]; exact v3
    · have b1 := o1.2.1 k hk
      rw [pk_un (fun q => e ⟨by omega, by omega⟩), pm_un_n (fun q => e (hinj k l hk hl q))]
      exact o3.2.1 k l hk hl
theorem lj_root (h : lj_J i iC tc lq fn qn M N cn fl rt fa af sm gv gr mq pl go qu cy qc fr wq) {r : Nat} {o : Int32} (hr : r < 16) (ho : (decide (o = -1) || pm_has N o) = true) : lj_J (i + 1) iC true lq fn qn M N cn fl (upd rt r o) fa af sm gv (pm_un gr r (pm_v o)) mq pl go false cy qc false wq := by
  obtain ⟨⟨o1, o2, o3, o4⟩, ⟨a1, a2, a3, a4, a5, a6, a7⟩, h3, h4, h5, h6⟩ := h
  obtain ⟨m1, m2, m3, m4, m5, m6, m7⟩ := id o2
  obtain ⟨v1, v2, v3⟩ := pm_v_ok m1 ho
  refine ⟨⟨pm_rt_ok o1 (lj_val m1 ho), ⟨m1, m2, m3, m4, m5, fun k hk => ?_, m7⟩, ⟨o3.1, o3.2.1, fun k hk => ?_⟩, o4⟩, ⟨a1, a2, a3, a4, a5, a6, by omega⟩, fun _ => rfl, fun q => ⟨(h4 q).1, fun z => (by cases z)⟩, fun _ => (by rw [Bool.not_true, Bool.and_false]), fun _ q => (by cases q)⟩
  · by_cases e : k = r
    · rw [e, pm_un_s]; exact v2
    · rw [pm_un_n e]; exact m6 k hk
  · by_cases e : k = r
    · rw [e, pk_us, pm_un_s]; exact v3
    · rw [pk_un e, pm_un_n e]; exact o3.2.2 k hk
theorem lj_pile {mr ch kp : Nat → Int32} {lim kc nr nf nc : Nat} (h : lj_J i iC tc lq fn qn (mr, ch, kp, lim, kc, nr, nf, nc) N cn fl rt fa af sm gv gr mq pl go qu cy qc fr wq) {n : Nat} (hn : n ≤ 64) (hi : iC = false) : lj_J (i + 1) iC tc lq fn qn (mr, ch, kp, n, kc, nr, nf, nc) N cn fl rt fa af sm gv gr mq n go qu cy qc fr wq := by
  obtain ⟨h1, ⟨a1, a2, a3, a4, a5, a6, a7⟩, h3, h4, h5, h6⟩ := h
  exact ⟨h1, ⟨⟨hn, a1.2⟩, rfl, a3, a4, a5, a6, by omega⟩, h3, fun q => (by rw [hi] at q; cases q), h5, h6⟩
theorem lj_begin {mr ch kp : Nat → Int32} {lim kc nr nf nc : Nat} (h : lj_J i iC tc lq fn qn (mr, ch, kp, lim, kc, nr, nf, nc) N cn fl rt fa af sm gv gr mq pl go qu cy qc fr wq) : lj_J (i + 1) true false lq fn qn (pm_clr 400 mr, pm_clr 400 ch, kp, lim, 0, 0, 400, 400) N cn fl rt fa af sm gv gr mq pl true true cy qc fr wq := by
  obtain ⟨h1, ⟨a1, a2, a3, a4, a5, a6, a7⟩, h3, h4, h5, h6⟩ := h
  have hb := pm_bg_inv (N := N) (cn := cn) (fl := fl) a1 h1.1.1
  exact ⟨h1, ⟨hb.1.1, a2, rfl, a4, a5, a6, by omega⟩, fun _ => rfl, fun _ => ⟨hb.1, fun _ => hb.2 _⟩, fun q => (by cases q), fun q => (by cases q)⟩
theorem lj_mark {f : pm_M → Bool × pm_M} (h : lj_J i iC tc lq fn qn M N cn fl rt fa af sm gv gr mq pl go qu cy qc fr wq) (n : Nat) (hf : ∀ M, pm_Inv N cn fl M → pm_Stp N cn fl rt M (f M).1 (f M).2) : lj_J (i + 1) iC tc lq fn qn (if iC = true then pm_run f n M else M) N cn fl rt fa af sm gv gr mq pl go qu cy qc fr wq := by
  by_cases q : iC = true
  · rw [if_pos q]
    obtain ⟨h1, ⟨a1, a2, a3, a4, a5, a6, a7⟩, h3, h4, h5, h6⟩ := h
    obtain ⟨r1, r2, -, r4⟩ := pm_run_ok (rt := rt) hf n M (h4 q).1
    exact ⟨h1, ⟨r1.1, r2.trans a2, a3, a4, a5, a6, by omega⟩, h3, fun _ => ⟨r1, fun z => r4 _ (fun b hb => pm_reach_r hb) (fun a b ha he => pm_reach_e ha he) ((h4 q).2 z)⟩, fun z => (by rw [q] at z; cases z), fun z => (by rw [q] at z; cases z)⟩
  · rw [if_neg q]; exact lj_step h
theorem lj_cnt {f g : Nat → Int32} (hN : N ≤ 400) (hf : ∀ m, m < 400 → (¬ f m = 0 ↔ pm_reach N cn fl rt m)) (hg : ∀ m, m < N → (¬ g m = 0 ↔ pm_reach N cn fl rt m)) : pm_cnt f 400 = pm_cnt g N := by
  have h1 : ∀ d, N + d ≤ 400 → pm_cnt f (N + d) = pm_cnt f N := by
    intro d
    induction d with
    | zero => intro _; rfl
    | succ d ih =>
      intro hd
      have h0 : f (N + d) = 0 := Classical.byContradiction (fun q => by
        have := pm_reach_lt ((hf (N + d) (by omega)).mp q)
        omega)
      show pm_cnt f (N + d) + (if f (N + d) = 0 then 0 else 1) = _
      rw [if_pos h0, ih (by omega)]
      rfl
  have h2 := h1 (400 - N) (by omega)
  rw [show N + (400 - N) = 400 by omega] at h2
  rw [h2]
  refine pm_cnt_congr N (fun m hm => ?_)
  have e1 := hf m (by omega)
  have e2 := hg m hm
  constructor
  · intro q
    exact Classical.byContradiction (fun z => (e1.mpr (e2.mp z)) q)
  · intro q
    exact Classical.byContradiction (fun z => (e2.mpr (e1.mp z)) q)
theorem lj_finish (h : lj_J i iC tc lq fn qn M N cn fl rt fa af sm gv gr mq pl go qu cy qc fr wq) (hi : iC = true) {n : Nat} (hn : n = 1000000) (rc : Nat → Int32) : lj_J (i + 1) false false (!tc) (fn + 1) (if tc = true then qn else qn + 1) (pm_fin n N cn fl rt M) N cn fl rt fa af sm gv gr (pm_cp N (pq_reach N sm gv gr rc) mq) pl false qu (cy + 1) (if qu = true then qc + 1 else qc) true qu ∧
    (if tc = true then (-1 : Int32) else nI (pm_cnt (pm_fin n N cn fl rt M).1 400)) = (if qu = true then nI (pm_cnt (pq_reach N sm gv gr rc) N) else -1) := by
  obtain ⟨⟨o1, o2, o3, o4⟩, ⟨a1, a2, a3, a4, a5, a6, a7⟩, h3, h4, h5, h6⟩ := h
  obtain ⟨f1, f2, f3, f4⟩ := pm_fin_ok (n := n) (rt := rt) hn o1.1 (h4 hi).1
  have hq := h3 hi
  have hr := pq_reach_ok o2 o3 rc
  constructor
  · refine ⟨⟨o1, o2, o3, o4⟩, ⟨f1.1, f2.trans a2, rfl, by rw [a4], ?_, hq, by omega⟩, fun q => (by cases q), fun q => (by cases q), fun _ => ?_, fun _ _ => ⟨f3, fun z => ⟨f4 ((h4 hi).2 (by cases tc; rfl; cases z)), fun k hk => ?_⟩⟩⟩
    · rw [hq, a5]; cases tc <;> rfl
    · rw [decide_eq_true (Nat.succ_pos fn)]; rfl
    · rw [pm_cp_in hk]; exact hr k hk
  · rw [hq]
    cases tc with
    | true => rfl
    | false =>
      have sd := f4 ((h4 hi).2 rfl)
      show nI (pm_cnt (pm_fin n N cn fl rt M).1 400) = nI (pm_cnt (pq_reach N sm gv gr rc) N)
      rw [lj_cnt (f := (pm_fin n N cn fl rt M).1) (g := pq_reach N sm gv gr rc) o1.1 (fun m hm => ⟨fun q => sd m hm q, fun q => f3 m q⟩) hr]
theorem lj_still (h : lj_J i iC tc lq fn qn M N cn fl rt fa af sm gv gr mq pl go qu cy qc fr wq) : pm_still iC tc fn = (!go && fr) := by
  obtain ⟨h1, ⟨a1, a2, a3, a4, a5, a6, a7⟩, h3, h4, h5, h6⟩ := h
  rw [a3]
  cases iC with
  | true => rfl
  | false => rw [h5 rfl]; rfl
theorem lj_marked (h : lj_J i iC tc lq fn qn M N cn fl rt fa af sm gv gr mq pl go qu cy qc fr wq) (hs : (pm_still iC tc fn && lq) = true) {k : Nat} (hk : k < N) : pm_hm N M.1 (nI k) = !decide (mq k = 0) := by
  have hs2 := lj_still h
  obtain ⟨⟨o1, o2, o3, o4⟩, ⟨a1, a2, a3, a4, a5, a6, a7⟩, h3, h4, h5, h6⟩ := h
  have hN := o1.1
  rw [hs2] at hs
  simp only [Bool.and_eq_true, Bool.not_eq_true'] at hs
  obtain ⟨⟨q1, q2⟩, q3⟩ := hs
  rw [a3] at q1
  obtain ⟨r1, r2⟩ := h6 q1 q2
  obtain ⟨r3, r4⟩ := r2 q3
  rw [pm_hm_nI (by omega) hk]
  by_cases z : M.1 k = 0
  · have z2 : mq k = 0 := Classical.byContradiction (fun w => (r1 k ((r4 k hk).mp w)) z)
    rw [decide_eq_true z, decide_eq_true z2]
  · have z2 : ¬ mq k = 0 := (r4 k hk).mpr (r3 k (by omega) z)
    rw [decide_eq_false z, decide_eq_false z2]
theorem lj_lost (h : lj_J i iC tc lq fn qn M N cn fl rt fa af sm gv gr mq pl go qu cy qc fr wq) (hs : pm_still iC tc fn = true) (fd od : Nat → Int32) : pm_ls N (pm_srch N cn fl rt fd od).1 M.1 400 = 0 := by
  have hs2 := lj_still h
  obtain ⟨⟨o1, o2, o3, o4⟩, ⟨a1, a2, a3, a4, a5, a6, a7⟩, h3, h4, h5, h6⟩ := h
  have hN := o1.1
  rw [hs2] at hs
  simp only [Bool.and_eq_true, Bool.not_eq_true'] at hs
  obtain ⟨q1, q2⟩ := hs
  rw [a3] at q1
  obtain ⟨r1, -⟩ := h6 q1 q2
  refine pm_ls_0 400 (fun k hk q => ?_)
  rcases pm_tf (pm_has N (nI k)) with z | z
  · have hkN : k < N := by
      obtain ⟨j, hj, e⟩ := pm_has_of (by omega) z
      rw [(nI_eq (by omega) (by omega)).mp e]; exact hj
    rw [pm_hm_nI (by omega) hkN] at q ⊢
    have q' : ¬ (pm_srch N cn fl rt fd od).1 k = 0 := fun w => by rw [decide_eq_true w] at q; cases q
    rw [decide_eq_false (r1 k (((pm_srch_ok hN cn fl rt fd od).1 k (by omega)).mp q'))]
    rfl
  · simp only [pm_hm, z, Bool.false_and] at q
    cases q
theorem lj_count (h : lj_J i iC tc lq fn qn M N cn fl rt fa af sm gv gr mq pl go qu cy qc fr wq) {j : Nat} (hj : j ≤ 5) (fd od rc : Nat → Int32) (fc : Nat) : pm_ct j N fa (if j = 2 then pm_srch N cn fl rt fd od else (fd, od, fc)).2.2 fn qn iC = pq_ct j N af (pm_cnt (if j = 2 then pq_reach N sm gv gr rc else rc) N) cy qc go := by
  obtain ⟨⟨o1, o2, o3, o4⟩, ⟨a1, a2, a3, a4, a5, a6, a7⟩, h3, h4, h5, h6⟩ := h
  rcases (show j = 0 ∨ j = 1 ∨ j = 2 ∨ j = 3 ∨ j = 4 ∨ j = 5 by omega) with rfl | rfl | rfl | rfl | rfl | rfl
  · rfl
  · exact o4
  · rw [if_pos rfl, if_pos rfl]
    have e := pm_srch_ok o1.1 cn fl rt fd od
    show nI (pm_srch N cn fl rt fd od).2.2 = nI (pm_cnt (pq_reach N sm gv gr rc) N)
    rw [e.2, lj_cnt (f := (pm_srch N cn fl rt fd od).1) (g := pq_reach N sm gv gr rc) o1.1 e.1 (pq_reach_ok o2 o3 rc)]
  · show nI fn = nI cy
    rw [a4]
  · show nI qn = nI qc
    rw [a5]
  · show pm_b iC = pm_b go
    rw [a3]
end
