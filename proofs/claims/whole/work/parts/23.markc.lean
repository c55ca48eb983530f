set_option maxHeartbeats 4000000 in
set_option maxRecDepth 100000 in
/-- Marker.doMarkSteps(n) -/
theorem c_M_doMarkSteps (l : Launch) (dC : Nat → ClassId) (dI : Nat → Nat → Nat) (m0 b1 b2 b3 : Nat) (g1 g2 g3 : ClassId) (mr ch kp : Nat → Int32) (lim kc nr nf nc : Nat) (h0 a1 a2 a3 : Nat) (k1 k2 k3 : ClassId) (N : Nat) (cn : Nat → Nat) (fl rt : Nat → Int32) (fa : Int32) (n : Nat) (sz : Nat) (hN : N ≤ 400) (hc : ∀ k, k < N → cn k ≤ 20) (hI : pm_Inv N cn fl (mr, ch, kp, lim, kc, nr, nf, nc)) (hn : n ≤ 5000) : Met l yX1_doMarkSteps wsX1_doMarkSteps ({ frames := 5, cells := 0, slots := 0, locals := 109 }) (va_Pc [.ref m0, .int (nI n)] (fun U => U.heap.size = sz ∧ va_P (dC, dI) vwCl [(m0, .inr (1, [.ref h0, .ref b1, .ref b2, .ref b3, .int (nI lim), .int (nI kc), .int (nI nr), .int (nI nf), .int (nI nc)])), (b1, .inl (g1, 400, .inl mr)), (b2, .inl (g2, 400, .inl ch)), (b3, .inl (g3, 64, .inl kp)), (h0, .inr (0, [.ref a1, .ref a2, .ref a3, .int (nI N), .int fa])), (a1, .inl (k1, 400, .inl (pm_nf9 cn))), (a2, .inl (k2, 8000, .inl fl)), (a3, .inl (k3, 16, .inl rt))] U.heap ∧ va_K (dC, dI) vwCl [(g1, .boolean), (g2, .boolean), (g3, .int), (k1, .int), (k2, .int), (k3, .int)] U ∧ va_D (fun _ => True) [(m0, .inr (1, [.ref h0, .ref b1, .ref b2, .ref b3, .int (nI lim), .int (nI kc), .int (nI nr), .int (nI nf), .int (nI nc)])), (b1, .inl (g1, 400, .inl mr)), (b2, .inl (g2, 400, .inl ch)), (b3, .inl (g3, 64, .inl kp)), (h0, .inr (0, [.ref a1, .ref a2, .ref a3, .int (nI N), .int fa])), (a1, .inl (k1, 400, .inl (pm_nf9 cn))), (a2, .inl (k2, 8000, .inl fl)), (a3, .inl (k3, 16, .inl rt))])) (va_Qv (fun (u : pm_M) => u = pm_run (pm_ms N cn fl rt) n (mr, ch, kp, lim, kc, nr, nf, nc)) (fun (u : pm_M) (t : State) => va_P (dC, dI) vwCl [(m0, .inr (1, [.ref h0, .ref b1, .ref b2, .ref b3, .int (nI (u.2.2.2.1)), .int (nI (u.2.2.2.2.1)), .int (nI (u.2.2.2.2.2.1)), .int (nI (u.2.2.2.2.2.2.1)), .int (nI (u.2.2.2.2.2.2.2))])), (b1, .inl (g1, 400, .inl (u.1))), (b2, .inl (g2, 400, .inl (u.2.1))), (b3, .inl (g3, 64, .inl (u.2.2.1))), (h0, .inr (0, [.ref a1, .ref a2, .ref a3, .int (nI N), .int fa])), (a1, .inl (k1, 400, .inl (pm_nf9 cn))), (a2, .inl (k2, 8000, .inl fl)), (a3, .inl (k3, 16, .inl rt))] t.heap ∧ va_K (dC, dI) vwCl [(g1, .boolean), (g2, .boolean), (g3, .int), (k1, .int), (k2, .int), (k3, .int)] t ∧ va_D (va_A [(m0, .inr (1, [.ref h0, .ref b1, .ref b2, .ref b3, .int (nI lim), .int (nI kc), .int (nI nr), .int (nI nf), .int (nI nc)])), (b1, .inl (g1, 400, .inl mr)), (b2, .inl (g2, 400, .inl ch)), (b3, .inl (g3, 64, .inl kp)), (h0, .inr (0, [.ref a1, .ref a2, .ref a3, .int (nI N), .int fa])), (a1, .inl (k1, 400, .inl (pm_nf9 cn))), (a2, .inl (k2, 8000, .inl fl)), (a3, .inl (k3, 16, .inl rt))] sz) [(m0, .inr (1, [.ref h0, .ref b1, .ref b2, .ref b3, .int (nI (u.2.2.2.1)), .int (nI (u.2.2.2.2.1)), .int (nI (u.2.2.2.2.2.1)), .int (nI (u.2.2.2.2.2.2.1)), .int (nI (u.2.2.2.2.2.2.2))])), (b1, .inl (g1, 400, .inl (u.1))), (b2, .inl (g2, 400, .inl (u.2.1))), (b3, .inl (g3, 64, .inl (u.2.2.1))), (h0, .inr (0, [.ref a1, .ref a2, .ref a3, .int (nI N), .int fa])), (a1, .inl (k1, 400, .inl (pm_nf9 cn))), (a2, .inl (k2, 8000, .inl fl)), (a3, .inl (k3, 16, .inl rt))]) (va_A [(m0, .inr (1, [.ref h0, .ref b1, .ref b2, .ref b3, .int (nI lim), .int (nI kc), .int (nI nr), .int (nI nf), .int (nI nc)])), (b1, .inl (g1, 400, .inl mr)), (b2, .inl (g2, 400, .inl ch)), (b3, .inl (g3, 64, .inl kp)), (h0, .inr (0, [.ref a1, .ref a2, .ref a3, .int (nI N), .int fa])), (a1, .inl (k1, 400, .inl (pm_nf9 cn))), (a2, .inl (k2, 8000, .inl fl)), (a3, .inl (k3, 16, .inl rt))] sz)) 0 0 (va_A [(m0, .inr (1, [.ref h0, .ref b1, .ref b2, .ref b3, .int (nI lim), .int (nI kc), .int (nI nr), .int (nI nf), .int (nI nc)])), (b1, .inl (g1, 400, .inl mr)), (b2, .inl (g2, 400, .inl ch)), (b3, .inl (g3, 64, .inl kp)), (h0, .inr (0, [.ref a1, .ref a2, .ref a3, .int (nI N), .int fa])), (a1, .inl (k1, 400, .inl (pm_nf9 cn))), (a2, .inl (k2, 8000, .inl fl)), (a3, .inl (k3, 16, .inl rt))] sz) := by
  refine Met.ofW (cc := cX1_doMarkSteps) (maxL := 4) (ret := (none)) (by decide) rfl ?_
  intro p e s m args below meth c s₁ B hml hv
  obtain ⟨rfl, hsz, hP, hK, hD0⟩ := hv
  have hx := B.exec
  have hb := B.bytes
  have hr := B.returns
  have hts : ∀ w ∈ gw, w.before _ s = true := fun w h => atoms_spec (ws := wsX1_doMarkSteps) B.pre w (List.mem_cons_of_mem _ h)
  have hown : s.vm.findClass RX1 = some m.cls := findClass_of_methodNamed B.named
  have hlocks := B.notSynchronized
  subst hsz
  have hD := hD0.self (sz := s.heap.size)
  generalize hAe : va_A [(m0, .inr (1, [.ref h0, .ref b1, .ref b2, .ref b3, .int (nI lim), .int (nI kc), .int (nI nr), .int (nI nf), .int (nI nc)])), (b1, .inl (g1, 400, .inl mr)), (b2, .inl (g2, 400, .inl ch)), (b3, .inl (g3, 64, .inl kp)), (h0, .inr (0, [.ref a1, .ref a2, .ref a3, .int (nI N), .int fa])), (a1, .inl (k1, 400, .inl (pm_nf9 cn))), (a2, .inl (k2, 8000, .inl fl)), (a3, .inl (k3, 16, .inl rt))] s.heap.size = A at hD ⊢
  have hA : ∀ q : Nat, s.heap.size ≤ q → A q := fun q h => by rw [← hAe]; exact Or.inr h
  have hP : va_P (dC, dI) vwCl [(m0, .inr (1, [.ref h0, .ref b1, .ref b2, .ref b3, .int (nI lim), .int (nI kc), .int (nI nr), .int (nI nf), .int (nI nc)])), (b1, .inl (g1, 400, .inl mr)), (b2, .inl (g2, 400, .inl ch)), (b3, .inl (g3, 64, .inl kp)), (h0, .inr (0, [.ref a1, .ref a2, .ref a3, .int (nI N), .int fa])), (a1, .inl (k1, 400, .inl (pm_nf9 cn))), (a2, .inl (k2, 8000, .inl fl)), (a3, .inl (k3, 16, .inl rt))] s.heap := hP
  have hl := lv_entry ([.ref m0, .int (nI n)]) (n := 4) (Nat.le_of_ble_eq_true rfl)
  rw [lg_entry_eq]
  generalize (lg_sl ([.ref m0, .int (nI n)]) ++ List.replicate (4 - (lg_sl ([.ref m0, .int (nI n)])).length) Slot.unset).toArray = ls at hl ⊢
  have hl : lv_has ls 4 [(0, .ref m0), (1, .int (nI n))] := hl
  obtain ⟨H, hH⟩ : ∃ H : Heap, H = s.heap := ⟨_, rfl⟩
  rw [← hH]
  rw [← hH] at hP
  have hS : va_S A s.heap H [] := by rw [hH]; exact va_S.rf
  clear hH
  refine lv_iconst (v := nI 1) hx hb dX1_doMarkSteps_0 (by decide +kernel) ?_
  refine lv_istore_n (lv' := [(2, .int (nI 1)), (0, .ref m0), (1, .int (nI n))]) hx hb dX1_doMarkSteps_1 rfl hl (by decide) rfl (fun ls hl => ?_)
  refine lv_iconst (v := nI 0) hx hb dX1_doMarkSteps_2 (by decide +kernel) ?_
  refine lv_istore_n (lv' := [(3, .int (nI 0)), (2, .int (nI 1)), (0, .ref m0), (1, .int (nI n))]) hx hb dX1_doMarkSteps_3 rfl hl (by decide) rfl (fun ls hl => ?_)
  have hl : lv_has ls 4 [(3, .int (nI 0)), (2, .int (pm_b true)), (0, .ref m0), (1, .int (nI n))] := hl
  refine lp_loop (σ := Nat × Bool × (Nat → Int32) × (Nat → Int32) × (Nat → Int32) × Nat × Nat × Nat × Nat × Nat) (head := 4) (fun x H locs ls => match x with | (i, b, mk1, ch1, kp1, lim1, kc1, nr1, nf1, nc1) => i ≤ n ∧ pm_Inv N cn fl (mk1, ch1, kp1, lim1, kc1, nr1, nf1, nc1) ∧ pm_tg (pm_ms N cn fl rt) b (n - i) (mk1, ch1, kp1, lim1, kc1, nr1, nf1, nc1) = pm_run (pm_ms N cn fl rt) n (mr, ch, kp, lim, kc, nr, nf, nc) ∧ va_P (dC, dI) vwCl [(m0, .inr (1, [.ref h0, .ref b1, .ref b2, .ref b3, .int (nI lim1), .int (nI kc1), .int (nI nr1), .int (nI nf1), .int (nI nc1)])), (b1, .inl (g1, 400, .inl mk1)), (b2, .inl (g2, 400, .inl ch1)), (b3, .inl (g3, 64, .inl kp1)), (h0, .inr (0, [.ref a1, .ref a2, .ref a3, .int (nI N), .int fa])), (a1, .inl (k1, 400, .inl (pm_nf9 cn))), (a2, .inl (k2, 8000, .inl fl)), (a3, .inl (k3, 16, .inl rt))] H ∧ va_D A [(m0, .inr (1, [.ref h0, .ref b1, .ref b2, .ref b3, .int (nI lim1), .int (nI kc1), .int (nI nr1), .int (nI nf1), .int (nI nc1)])), (b1, .inl (g1, 400, .inl mk1)), (b2, .inl (g2, 400, .inl ch1)), (b3, .inl (g3, 64, .inl kp1)), (h0, .inr (0, [.ref a1, .ref a2, .ref a3, .int (nI N), .int fa])), (a1, .inl (k1, 400, .inl (pm_nf9 cn))), (a2, .inl (k2, 8000, .inl fl)), (a3, .inl (k3, 16, .inl rt))] ∧ va_S A s.heap H locs ∧ lv_has ls 4 [(3, .int (nI i)), (2, .int (pm_b b)), (1, .int (nI n)), (0, .ref m0)]) (fun x => match x with | (i, b, mk1, ch1, kp1, lim1, kc1, nr1, nf1, nc1) => n - i) ?_ (0, true, mr, ch, kp, lim, kc, nr, nf, nc) _ _ _ ⟨Nat.zero_le _, hI, rfl, hP, hD, hS, lv_sub hl [0, 1, 3, 2] rfl⟩
  intro x H locs ls hI ih
  obtain ⟨i, b, mk1, ch1, kp1, lim1, kc1, nr1, nf1, nc1⟩ := x
  obtain ⟨hi, hI1, hT, hP, hD, hS, hl⟩ := hI
  dsimp only at ih
  refine lv_iload_n hx hb dX1_doMarkSteps_4 rfl (lv_at hl 0 rfl) ?_
  refine lv_iload_n hx hb dX1_doMarkSteps_5 rfl (lv_at hl 2 rfl) ?_
  refine lv_icmp_ge (tgt := 24) hx hb dX1_doMarkSteps_6 (by decide) (fun c_6 => ?_) (fun c_6 => ?_)
  · rw [nI_leI (by omega) (by omega)] at c_6
    exact W.vret hx hb hr (fun t ht hW => ⟨⟨(mk1, ch1, kp1, lim1, kc1, nr1, nf1, nc1), rfl, pm_tg0 hT (by omega), by rw [ht]; exact hP, va_K.moved hW.alike hK, hD⟩, hS.F ht⟩) hS.2.2 dX1_doMarkSteps_24
  · rw [nI_leI (by omega) (by omega)] at c_6
    cases b with
    | true =>
      have hl : lv_has ls 4 [(3, .int (nI i)), (2, .int (nI 1)), (1, .int (nI n)), (0, .ref m0)] := hl
      refine lv_iload_n hx hb dX1_doMarkSteps_9 rfl (lv_at hl 1 rfl) ?_
      refine lv_if_eq (tgt := 24) hx hb dX1_doMarkSteps_10 (by decide) (fun c_10 => absurd c_10 (by decide +kernel)) (fun c_10 => ?_)
      refine lv_aload_n hx hb dX1_doMarkSteps_13 rfl (lv_at hl 3 rfl) ?_
      have hPc := hP.sub (ws' := [(m0, .inr (1, [.ref h0, .ref b1, .ref b2, .ref b3, .int (nI lim1), .int (nI kc1), .int (nI nr1), .int (nI nf1), .int (nI nc1)])), (b1, .inl (g1, 400, .inl mk1)), (b2, .inl (g2, 400, .inl ch1)), (b3, .inl (g3, 64, .inl kp1)), (h0, .inr (0, [.ref a1, .ref a2, .ref a3, .int (nI N), .int fa])), (a1, .inl (k1, 400, .inl (pm_nf9 cn))), (a2, .inl (k2, 8000, .inl fl)), (a3, .inl (k3, 16, .inl rt))]) [0, 1, 2, 3, 4, 5, 6, 7] rfl
      have hDc := hD.sub (ws' := [(m0, .inr (1, [.ref h0, .ref b1, .ref b2, .ref b3, .int (nI lim1), .int (nI kc1), .int (nI nr1), .int (nI nf1), .int (nI nc1)])), (b1, .inl (g1, 400, .inl mk1)), (b2, .inl (g2, 400, .inl ch1)), (b3, .inl (g3, 64, .inl kp1)), (h0, .inr (0, [.ref a1, .ref a2, .ref a3, .int (nI N), .int fa])), (a1, .inl (k1, 400, .inl (pm_nf9 cn))), (a2, .inl (k2, 8000, .inl fl)), (a3, .inl (k3, 16, .inl rt))]) [0, 1, 2, 3, 4, 5, 6, 7] (by decide) rfl
      have hKc := hK.sub (tys' := [(g1, .boolean), (g2, .boolean), (g3, .int), (k1, .int), (k2, .int), (k3, .int)]) [0, 1, 2, 3, 4, 5] rfl
      have hFc := va_free (wc := [(m0, .inr (1, [.ref h0, .ref b1, .ref b2, .ref b3, .int (nI lim1), .int (nI kc1), .int (nI nr1), .int (nI nf1), .int (nI nc1)])), (b1, .inl (g1, 400, .inl mk1)), (b2, .inl (g2, 400, .inl ch1)), (b3, .inl (g3, 64, .inl kp1)), (h0, .inr (0, [.ref a1, .ref a2, .ref a3, .int (nI N), .int fa])), (a1, .inl (k1, 400, .inl (pm_nf9 cn))), (a2, .inl (k2, 8000, .inl fl)), (a3, .inl (k3, 16, .inl rt))]) hD hS hA [0, 1, 2, 3, 4, 5, 6, 7] rfl
      refine va_calli (va_runV (As := []) (rest := []) ⟨hx, hb, hml, hown, hts⟩ (c_M_markStep l dC dI m0 b1 b2 b3 g1 g2 g3 mk1 ch1 kp1 lim1 kc1 nr1 nf1 nc1 h0 a1 a2 a3 k1 k2 k3 N cn fl rt fa H.size (hN) (hc) (hI1.1.1) (hI1.1.2.1) (hI1.1.2.2.1) (hI1.1.2.2.2.1) (hI1.1.2.2.2.2)) (cwV 0 hts (gw_V ml_X1_48 mi_X1_markStep ms_X1_markStep mn_X1 mc_X1_markStep) rfl rfl rfl (by decide +kernel) ⟨Nat.le_of_ble_eq_true rfl, Nat.le_of_ble_eq_true rfl⟩) ⟨fun a U g mk q => by obtain ⟨q0, q1, qP, qK, qD⟩ := q; exact ⟨q0, q1, qP, va_K.moved (u := U) (U := U.calling g mk a) (Vm.Alike.refl U.vm) qK, qD⟩, va_recv hKc hPc (ci := 1) (q0 := 0) rfl rfl, fun U hU hW => ⟨rfl, by rw [hU], by rw [hU]; exact hPc, va_K.moved hW.alike hKc, hDc.weaken (fun _ _ _ _ => trivial)⟩⟩ rfl rfl hl.1 rfl (lv_room (Nat.le_of_ble_eq_true rfl)) dX1_doMarkSteps_14 ⟨Nat.le_of_ble_eq_true rfl, Nat.le_of_ble_eq_true rfl⟩) hS (fun q _ h => hFc q h) hFc (fun r_1 u t H1 locs ht hvm hw hB hz1 hk1 hS => ?_)
      obtain ⟨mk2, ch2, kp2, lim2, kc2, nr2, nf2, nc2⟩ := u
      obtain ⟨hP1, hK1, hD1⟩ := hB
      rw [ht] at hP1
      have hK1 := va_K.moved hvm.symm hK1
      obtain ⟨hP, hD⟩ := va_join (wr := []) (w1 := [(m0, .inr (1, [.ref h0, .ref b1, .ref b2, .ref b3, .int (nI lim2), .int (nI kc2), .int (nI nr2), .int (nI nf2), .int (nI nc2)])), (b1, .inl (g1, 400, .inl mk2)), (b2, .inl (g2, 400, .inl ch2)), (b3, .inl (g3, 64, .inl kp2)), (h0, .inr (0, [.ref a1, .ref a2, .ref a3, .int (nI N), .int fa])), (a1, .inl (k1, 400, .inl (pm_nf9 cn))), (a2, .inl (k2, 8000, .inl fl)), (a3, .inl (k3, 16, .inl rt))]) hP hD [0, 1, 2, 3, 4, 5, 6, 7] [] rfl rfl (by decide) (by decide) hk1 hFc hP1 hD1
      clear hPc hDc hKc hFc hP1 hK1 hD1
      generalize H1 = H at hP hS ⊢
      have hP : va_P (dC, dI) vwCl [(m0, .inr (1, [.ref h0, .ref b1, .ref b2, .ref b3, .int (nI lim2), .int (nI kc2), .int (nI nr2), .int (nI nf2), .int (nI nc2)])), (b1, .inl (g1, 400, .inl mk2)), (b2, .inl (g2, 400, .inl ch2)), (b3, .inl (g3, 64, .inl kp2)), (h0, .inr (0, [.ref a1, .ref a2, .ref a3, .int (nI N), .int fa])), (a1, .inl (k1, 400, .inl (pm_nf9 cn))), (a2, .inl (k2, 8000, .inl fl)), (a3, .inl (k3, 16, .inl rt))] H := hP.sub [0, 1, 2, 3, 4, 5, 6, 7] rfl
      have hD : va_D A [(m0, .inr (1, [.ref h0, .ref b1, .ref b2, .ref b3, .int (nI lim2), .int (nI kc2), .int (nI nr2), .int (nI nf2), .int (nI nc2)])), (b1, .inl (g1, 400, .inl mk2)), (b2, .inl (g2, 400, .inl ch2)), (b3, .inl (g3, 64, .inl kp2)), (h0, .inr (0, [.ref a1, .ref a2, .ref a3, .int (nI N), .int fa])), (a1, .inl (k1, 400, .inl (pm_nf9 cn))), (a2, .inl (k2, 8000, .inl fl)), (a3, .inl (k3, 16, .inl rt))] := hD.sub [0, 1, 2, 3, 4, 5, 6, 7] (by decide) rfl
      obtain ⟨rfl, hw2⟩ := hw
      refine lv_istore_n (lv' := [(2, .int (pm_b (pm_ms N cn fl rt (mk1, ch1, kp1, lim1, kc1, nr1, nf1, nc1)).1)), (3, .int (nI i)), (1, .int (nI n)), (0, .ref m0)]) hx hb dX1_doMarkSteps_17 rfl hl (by decide) rfl (fun ls hl => ?_)
      refine lv_iinc (v := nI (i + 1)) (lv' := [(3, .int (nI (i + 1))), (2, .int (pm_b (pm_ms N cn fl rt (mk1, ch1, kp1, lim1, kc1, nr1, nf1, nc1)).1)), (1, .int (nI n)), (0, .ref m0)]) hx hb dX1_doMarkSteps_18 hl (k := 1) rfl (nI_1 _) (by decide) rfl (fun ls hl => ?_)
      refine lv_goto (tgt := 4) hx hb dX1_doMarkSteps_21 (by decide) ?_
      exact ih (i + 1, (pm_ms N cn fl rt (mk1, ch1, kp1, lim1, kc1, nr1, nf1, nc1)).1, mk2, ch2, kp2, lim2, kc2, nr2, nf2, nc2) _ _ _ ⟨by omega, by rw [hw2]; exact (pm_ms_ok (rt := rt) hN hI1).1, by rw [hw2]; exact (pm_run_s (by omega)).trans hT, hP, hD, hS, lv_sub hl [0, 1, 2, 3] rfl⟩ (by omega)
    | false =>
      have hl : lv_has ls 4 [(3, .int (nI i)), (2, .int (nI 0)), (1, .int (nI n)), (0, .ref m0)] := hl
      refine lv_iload_n hx hb dX1_doMarkSteps_9 rfl (lv_at hl 1 rfl) ?_
      refine lv_if_eq (tgt := 24) hx hb dX1_doMarkSteps_10 (by decide) (fun c_10 => ?_) (fun c_10 => absurd c_10 (by decide +kernel))
      exact W.vret hx hb hr (fun t ht hW => ⟨⟨(mk1, ch1, kp1, lim1, kc1, nr1, nf1, nc1), rfl, hT, by rw [ht]; exact hP, va_K.moved hW.alike hK, hD⟩, hS.F ht⟩) hS.2.2 dX1_doMarkSteps_24

set_option maxHeartbeats 4000000 in
set_option maxRecDepth 100000 in
/-- Marker.doCleanSteps(n) -/
theorem c_M_doCleanSteps (l : Launch) (dC : Nat → ClassId) (dI : Nat → Nat → Nat) (m0 b1 b2 b3 : Nat) (g1 g2 g3 : ClassId) (mr ch kp : Nat → Int32) (lim kc nr nf nc : Nat) (h0 a1 a2 a3 : Nat) (k1 k2 k3 : ClassId) (N : Nat) (cn : Nat → Nat) (fl rt : Nat → Int32) (fa : Int32) (n : Nat) (sz : Nat) (hN : N ≤ 400) (hc : ∀ k, k < N → cn k ≤ 20) (hI : pm_Inv N cn fl (mr, ch, kp, lim, kc, nr, nf, nc)) (hn : n ≤ 5000) : Met l yX1_doCleanSteps wsX1_doCleanSteps ({ frames := 5, cells := 0, slots := 0, locals := 109 }) (va_Pc [.ref m0, .int (nI n)] (fun U => U.heap.size = sz ∧ va_P (dC, dI) vwCl [(m0, .inr (1, [.ref h0, .ref b1, .ref b2, .ref b3, .int (nI lim), .int (nI kc), .int (nI nr), .int (nI nf), .int (nI nc)])), (b1, .inl (g1, 400, .inl mr)), (b2, .inl (g2, 400, .inl ch)), (b3, .inl (g3, 64, .inl kp)), (h0, .inr (0, [.ref a1, .ref a2, .ref a3, .int (nI N), .int fa])), (a1, .inl (k1, 400, .inl (pm_nf9 cn))), (a2, .inl (k2, 8000, .inl fl)), (a3, .inl (k3, 16, .inl rt))] U.heap ∧ va_K (dC, dI) vwCl [(g1, .boolean), (g2, .boolean), (g3, .int), (k1, .int), (k2, .int), (k3, .int)] U ∧ va_D (fun _ => True) [(m0, .inr (1, [.ref h0, .ref b1, .ref b2, .ref b3, .int (nI lim), .int (nI kc), .int (nI nr), .int (nI nf), .int (nI nc)])), (b1, .inl (g1, 400, .inl mr)), (b2, .inl (g2, 400, .inl ch)), (b3, .inl (g3, 64, .inl kp)), (h0, .inr (0, [.ref a1, .ref a2, .ref a3, .int (nI N), .int fa])), (a1, .inl (k1, 400, .inl (pm_nf9 cn))), (a2, .inl (k2, 8000, .inl fl)), (a3, .inl (k3, 16, .inl rt))])) (va_Qv (fun (u : pm_M) => u = pm_run (pm_cs N cn fl) n (mr, ch, kp, lim, kc, nr, nf, nc)) (fun (u : pm_M) (t : State) => va_P (dC, dI) vwCl [(m0, .inr (1, [.ref h0, .ref b1, .ref b2, .ref b3, .int (nI (u.2.2.2.1)), .int (nI (u.2.2.2.2.1)), .int (nI (u.2.2.2.2.2.1)), .int (nI (u.2.2.2.2.2.2.1)), .int (nI (u.2.2.2.2.2.2.2))])), (b1, .inl (g1, 400, .inl (u.1))), (b2, .inl (g2, 400, .inl (u.2.1))), (b3, .inl (g3, 64, .inl (u.2.2.1))), (h0, .inr (0, [.ref a1, .ref a2, .ref a3, .int (nI N), .int fa])), (a1, .inl (k1, 400, .inl (pm_nf9 cn))), (a2, .inl (k2, 8000, .inl fl)), (a3, .inl (k3, 16, .inl rt))] t.heap ∧ va_K (dC, dI) vwCl [(g1, .boolean), (g2, .boolean), (g3, .int), (k1, .int), (k2, .int), (k3, .int)] t ∧ va_D (va_A [(m0, .inr (1, [.ref h0, .ref b1, .ref b2, .ref b3, .int (nI lim), .int (nI kc), .int (nI nr), .int (nI nf), .int (nI nc)])), (b1, .inl (g1, 400, .inl mr)), (b2, .inl (g2, 400, .inl ch)), (b3, .inl (g3, 64, .inl kp)), (h0, .inr (0, [.ref a1, .ref a2, .ref a3, .int (nI N), .int fa])), (a1, .inl (k1, 400, .inl (pm_nf9 cn))), (a2, .inl (k2, 8000, .inl fl)), (a3, .inl (k3, 16, .inl rt))] sz) [(m0, .inr (1, [.ref h0, .ref b1, .ref b2, .ref b3, .int (nI (u.2.2.2.1)), .int (nI (u.2.2.2.2.1)), .int (nI (u.2.2.2.2.2.1)), .int (nI (u.2.2.2.2.2.2.1)), .int (nI (u.2.2.2.2.2.2.2))])), (b1, .inl (g1, 400, .inl (u.1))), (b2, .inl (g2, 400, .inl (u.2.1))), (b3, .inl (g3, 64, .inl (u.2.2.1))), (h0, .inr (0, [.ref a1, .ref a2, .ref a3, .int (nI N), .int fa])), (a1, .inl (k1, 400, .inl (pm_nf9 cn))), (a2, .inl (k2, 8000, .inl fl)), (a3, .inl (k3, 16, .inl rt))]) (va_A [(m0, .inr (1, [.ref h0, .ref b1, .ref b2, .ref b3, .int (nI lim), .int (nI kc), .int (nI nr), .int (nI nf), .int (nI nc)])), (b1, .inl (g1, 400, .inl mr)), (b2, .inl (g2, 400, .inl ch)), (b3, .inl (g3, 64, .inl kp)), (h0, .inr (0, [.ref a1, .ref a2, .ref a3, .int (nI N), .int fa])), (a1, .inl (k1, 400, .inl (pm_nf9 cn))), (a2, .inl (k2, 8000, .inl fl)), (a3, .inl (k3, 16, .inl rt))] sz)) 0 0 (va_A [(m0, .inr (1, [.ref h0, .ref b1, .ref b2, .ref b3, .int (nI lim), .int (nI kc), .int (nI nr), .int (nI nf), .int (nI nc)])), (b1, .inl (g1, 400, .inl mr)), (b2, .inl (g2, 400, .inl ch)), (b3, .inl (g3, 64, .inl kp)), (h0, .inr (0, [.ref a1, .ref a2, .ref a3, .int (nI N), .int fa])), (a1, .inl (k1, 400, .inl (pm_nf9 cn))), (a2, .inl (k2, 8000, .inl fl)), (a3, .inl (k3, 16, .inl rt))] sz) := by
  refine Met.ofW (cc := cX1_doCleanSteps) (maxL := 4) (ret := (none)) (by decide) rfl ?_
  intro p e s m args below meth c s₁ B hml hv
  obtain ⟨rfl, hsz, hP, hK, hD0⟩ := hv
  have hx := B.exec
  have hb := B.bytes
  have hr := B.returns
  have hts : ∀ w ∈ gw, w.before _ s = true := fun w h => atoms_spec (ws := wsX1_doCleanSteps) B.pre w (List.mem_cons_of_mem _ h)
  have hown : s.vm.findClass RX1 = some m.cls := findClass_of_methodNamed B.named
  have hlocks := B.notSynchronized
  subst hsz
  have hD := hD0.self (sz := s.heap.size)
  generalize hAe : va_A [(m0, .inr (1, [.ref h0, .ref b1, .ref b2, .ref b3, .int (nI lim), .int (nI kc), .int (nI nr), .int (nI nf), .int (nI nc)])), (b1, .inl (g1, 400, .inl mr)), (b2, .inl (g2, 400, .inl ch)), (b3, .inl (g3, 64, .inl kp)), (h0, .inr (0, [.ref a1, .ref a2, .ref a3, .int (nI N), .int fa])), (a1, .inl (k1, 400, .inl (pm_nf9 cn))), (a2, .inl (k2, 8000, .inl fl)), (a3, .inl (k3, 16, .inl rt))] s.heap.size = A at hD ⊢
  have hA : ∀ q : Nat, s.heap.size ≤ q → A q := fun q h => by rw [← hAe]; exact Or.inr h
  have hP : va_P (dC, dI) vwCl [(m0, .inr (1, [.ref h0, .ref b1, .ref b2, .ref b3, .int (nI lim), .int (nI kc), .int (nI nr), .int (nI nf), .int (nI nc)])), (b1, .inl (g1, 400, .inl mr)), (b2, .inl (g2, 400, .inl ch)), (b3, .inl (g3, 64, .inl kp)), (h0, .inr (0, [.ref a1, .ref a2, .ref a3, .int (nI N), .int fa])), (a1, .inl (k1, 400, .inl (pm_nf9 cn))), (a2, .inl (k2, 8000, .inl fl)), (a3, .inl (k3, 16, .inl rt))] s.heap := hP
  have hl := lv_entry ([.ref m0, .int (nI n)]) (n := 4) (Nat.le_of_ble_eq_true rfl)
  rw [lg_entry_eq]
  generalize (lg_sl ([.ref m0, .int (nI n)]) ++ List.replicate (4 - (lg_sl ([.ref m0, .int (nI n)])).length) Slot.unset).toArray = ls at hl ⊢
  have hl : lv_has ls 4 [(0, .ref m0), (1, .int (nI n))] := hl
  obtain ⟨H, hH⟩ : ∃ H : Heap, H = s.heap := ⟨_, rfl⟩
  rw [← hH]
  rw [← hH] at hP
  have hS : va_S A s.heap H [] := by rw [hH]; exact va_S.rf
  clear hH
  refine lv_iconst (v := nI 1) hx hb dX1_doCleanSteps_0 (by decide +kernel) ?_
  refine lv_istore_n (lv' := [(2, .int (nI 1)), (0, .ref m0), (1, .int (nI n))]) hx hb dX1_doCleanSteps_1 rfl hl (by decide) rfl (fun ls hl => ?_)
  refine lv_iconst (v := nI 0) hx hb dX1_doCleanSteps_2 (by decide +kernel) ?_
  refine lv_istore_n (lv' := [(3, .int (nI 0)), (2, .int (nI 1)), (0, .ref m0), (1, .int (nI n))]) hx hb dX1_doCleanSteps_3 rfl hl (by decide) rfl (fun ls hl => ?_)
  have hl : lv_has ls 4 [(3, .int (nI 0)), (2, .int (pm_b true)), (0, .ref m0), (1, .int (nI n))] := hl
  refine lp_loop (σ := Nat × Bool × (Nat → Int32) × (Nat → Int32) × (Nat → Int32) × Nat × Nat × Nat × Nat × Nat) (head := 4) (fun x H locs ls => match x with | (i, b, mk1, ch1, kp1, lim1, kc1, nr1, nf1, nc1) => i ≤ n ∧ pm_Inv N cn fl (mk1, ch1, kp1, lim1, kc1, nr1, nf1, nc1) ∧ pm_tg (pm_cs N cn fl) b (n - i) (mk1, ch1, kp1, lim1, kc1, nr1, nf1, nc1) = pm_run (pm_cs N cn fl) n (mr, ch, kp, lim, kc, nr, nf, nc) ∧ va_P (dC, dI) vwCl [(m0, .inr (1, [.ref h0, .ref b1, .ref b2, .ref b3, .int (nI lim1), .int (nI kc1), .int (nI nr1), .int (nI nf1), .int (nI nc1)])), (b1, .inl (g1, 400, .inl mk1)), (b2, .inl (g2, 400, .inl ch1)), (b3, .inl (g3, 64, .inl kp1)), (h0, .inr (0, [.ref a1, .ref a2, .ref a3, .int (nI N), .int fa])), (a1, .inl (k1, 400, .inl (pm_nf9 cn))), (a2, .inl (k2, 8000, .inl fl)), (a3, .inl (k3, 16, .inl rt))] H ∧ va_D A [(m0, .inr (1, [.ref h0, .ref b1, .ref b2, .ref b3, .int (nI lim1), .int (nI kc1), .int (nI nr1), .int (nI nf1), .int (nI nc1)])), (b1, .inl (g1, 400, .inl mk1)), (b2, .inl (g2, 400, .inl ch1)), (b3, .inl (g3, 64, .inl kp1)), (h0, .inr (0, [.ref a1, .ref a2, .ref a3, .int (nI N), .int fa])), (a1, .inl (k1, 400, .inl (pm_nf9 cn))), (a2, .inl (k2, 8000, .inl fl)), (a3, .inl (k3, 16, .inl rt))] ∧ va_S A s.heap H locs ∧ lv_has ls 4 [(3, .int (nI i)), (2, .int (pm_b b)), (1, .int (nI n)), (0, .ref m0)]) (fun x => match x with | (i, b, mk1, ch1, kp1, lim1, kc1, nr1, nf1, nc1) => n - i) ?_ (0, true, mr, ch, kp, lim, kc, nr, nf, nc) _ _ _ ⟨Nat.zero_le _, hI, rfl, hP, hD, hS, lv_sub hl [0, 1, 3, 2] rfl⟩
  intro x H locs ls hI ih
  obtain ⟨i, b, mk1, ch1, kp1, lim1, kc1, nr1, nf1, nc1⟩ := x
  obtain ⟨hi, hI1, hT, hP, hD, hS, hl⟩ := hI
  dsimp only at ih
  refine lv_iload_n hx hb dX1_doCleanSteps_4 rfl (lv_at hl 0 rfl) ?_
  refine lv_iload_n hx hb dX1_doCleanSteps_5 rfl (lv_at hl 2 rfl) ?_
  refine lv_icmp_ge (tgt := 24) hx hb dX1_doCleanSteps_6 (by decide) (fun c_6 => ?_) (fun c_6 => ?_)
  · rw [nI_leI (by omega) (by omega)] at c_6
    exact W.vret hx hb hr (fun t ht hW => ⟨⟨(mk1, ch1, kp1, lim1, kc1, nr1, nf1, nc1), rfl, pm_tg0 hT (by omega), by rw [ht]; exact hP, va_K.moved hW.alike hK, hD⟩, hS.F ht⟩) hS.2.2 dX1_doCleanSteps_24
  · rw [nI_leI (by omega) (by omega)] at c_6
    cases b with
    | true =>
      have hl : lv_has ls 4 [(3, .int (nI i)), (2, .int (nI 1)), (1, .int (nI n)), (0, .ref m0)] := hl
      refine lv_iload_n hx hb dX1_doCleanSteps_9 rfl (lv_at hl 1 rfl) ?_
      refine lv_if_eq (tgt := 24) hx hb dX1_doCleanSteps_10 (by decide) (fun c_10 => absurd c_10 (by decide +kernel)) (fun c_10 => ?_)
      refine lv_aload_n hx hb dX1_doCleanSteps_13 rfl (lv_at hl 3 rfl) ?_
      have hPc := hP.sub (ws' := [(m0, .inr (1, [.ref h0, .ref b1, .ref b2, .ref b3, .int (nI lim1), .int (nI kc1), .int (nI nr1), .int (nI nf1), .int (nI nc1)])), (b1, .inl (g1, 400, .inl mk1)), (b2, .inl (g2, 400, .inl ch1)), (b3, .inl (g3, 64, .inl kp1)), (h0, .inr (0, [.ref a1, .ref a2, .ref a3, .int (nI N), .int fa])), (a1, .inl (k1, 400, .inl (pm_nf9 cn))), (a2, .inl (k2, 8000, .inl fl)), (a3, .inl (k3, 16, .inl rt))]) [0, 1, 2, 3, 4, 5, 6, 7] rfl
      have hDc := hD.sub (ws' := [(m0, .inr (1, [.ref h0, .ref b1, .ref b2, .ref b3, .int (nI lim1), .int (nI kc1), .int (nI nr1), .int (nI nf1), .int (nI nc1)])), (b1, .inl (g1, 400, .inl mk1)), (b2, .inl (g2, 400, .inl ch1)), (b3, .inl (g3, 64, .inl kp1)), (h0, .inr (0, [.ref a1, .ref a2, .ref a3, .int (nI N), .int fa])), (a1, .inl (k1, 400, .inl (pm_nf9 cn))), (a2, .inl (k2, 8000, .inl fl)), (a3, .inl (k3, 16, .inl rt))]) [0, 1, 2, 3, 4, 5, 6, 7] (by decide) rfl
      have hKc := hK.sub (tys' := [(g1, .boolean), (g2, .boolean), (g3, .int), (k1, .int), (k2, .int), (k3, .int)]) [0, 1, 2, 3, 4, 5] rfl
      have hFc := va_free (wc := [(m0, .inr (1, [.ref h0, .ref b1, .ref b2, .ref b3, .int (nI lim1), .int (nI kc1), .int (nI nr1), .int (nI nf1), .int (nI nc1)])), (b1, .inl (g1, 400, .inl mk1)), (b2, .inl (g2, 400, .inl ch1)), (b3, .inl (g3, 64, .inl kp1)), (h0, .inr (0, [.ref a1, .ref a2, .ref a3, .int (nI N), .int fa])), (a1, .inl (k1, 400, .inl (pm_nf9 cn))), (a2, .inl (k2, 8000, .inl fl)), (a3, .inl (k3, 16, .inl rt))]) hD hS hA [0, 1, 2, 3, 4, 5, 6, 7] rfl
      refine va_calli (va_runV (As := []) (rest := []) ⟨hx, hb, hml, hown, hts⟩ (c_M_cleanStep l dC dI m0 b1 b2 b3 g1 g2 g3 mk1 ch1 kp1 lim1 kc1 nr1 nf1 nc1 h0 a1 a2 a3 k1 k2 k3 N cn fl rt fa H.size (hN) (hc) (hI1.1.1) (hI1.1.2.1) (hI1.1.2.2.1) (hI1.1.2.2.2.1) (hI1.1.2.2.2.2)) (cwV 0 hts (gw_V ml_X1_52 mi_X1_cleanStep ms_X1_cleanStep mn_X1 mc_X1_cleanStep) rfl rfl rfl (by decide +kernel) ⟨Nat.le_of_ble_eq_true rfl, Nat.le_of_ble_eq_true rfl⟩) ⟨fun a U g mk q => by obtain ⟨q0, q1, qP, qK, qD⟩ := q; exact ⟨q0, q1, qP, va_K.moved (u := U) (U := U.calling g mk a) (Vm.Alike.refl U.vm) qK, qD⟩, va_recv hKc hPc (ci := 1) (q0 := 0) rfl rfl, fun U hU hW => ⟨rfl, by rw [hU], by rw [hU]; exact hPc, va_K.moved hW.alike hKc, hDc.weaken (fun _ _ _ _ => trivial)⟩⟩ rfl rfl hl.1 rfl (lv_room (Nat.le_of_ble_eq_true rfl)) dX1_doCleanSteps_14 ⟨Nat.le_of_ble_eq_true rfl, Nat.le_of_ble_eq_true rfl⟩) hS (fun q _ h => hFc q h) hFc (fun r_1 u t H1 locs ht hvm hw hB hz1 hk1 hS => ?_)
      obtain ⟨mk2, ch2, kp2, lim2, kc2, nr2, nf2, nc2⟩ := u
      obtain ⟨hP1, hK1, hD1⟩ := hB
      rw [ht] at hP1
      have hK1 := va_K.moved hvm.symm hK1
      obtain ⟨hP, hD⟩ := va_join (wr := []) (w1 := [(m0, .inr (1, [.ref h0, .ref b1, .ref b2, .ref b3, .int (nI lim2), .int (nI kc2), .int (nI nr2), .int (nI nf2), .int (nI nc2)])), (b1, .inl (g1, 400, .inl mk2)), (b2, .inl (g2, 400, .inl ch2)), (b3, .inl (g3, 64, .inl kp2)), (h0, .inr (0, [.ref a1, .ref a2, .ref a3, .int (nI N), .int fa])), (a1, .inl (k1, 400, .inl (pm_nf9 cn))), (a2, .inl (k2, 8000, .inl fl)), (a3, .inl (k3, 16, .inl rt))]) hP hD [0, 1, 2, 3, 4, 5, 6, 7] [] rfl rfl (by decide) (by decide) hk1 hFc hP1 hD1
      clear hPc hDc hKc hFc hP1 hK1 hD1
      generalize H1 = H at hP hS ⊢
      have hP : va_P (dC, dI) vwCl [(m0, .inr (1, [.ref h0, .ref b1, .ref b2, .ref b3, .int (nI lim2), .int (nI kc2), .int (nI nr2), .int (nI nf2), .int (nI nc2)])), (b1, .inl (g1, 400, .inl mk2)), (b2, .inl (g2, 400, .inl ch2)), (b3, .inl (g3, 64, .inl kp2)), (h0, .inr (0, [.ref a1, .ref a2, .ref a3, .int (nI N), .int fa])), (a1, .inl (k1, 400, .inl (pm_nf9 cn))), (a2, .inl (k2, 8000, .inl fl)), (a3, .inl (k3, 16, .inl rt))] H := hP.sub [0, 1, 2, 3, 4, 5, 6, 7] rfl
      have hD : va_D A [(m0, .inr (1, [.ref h0, .ref b1, .ref b2, .ref b3, .int (nI lim2), .int (nI kc2), .int (nI nr2), .int (nI nf2), .int (nI nc2)])), (b1, .inl (g1, 400, .inl mk2)), (b2, .inl (g2, 400, .inl ch2)), (b3, .inl (g3, 64, .inl kp2)), (h0, .inr (0, [.ref a1, .ref a2, .ref a3, .int (nI N), .int fa])), (a1, .inl (k1, 400, .inl (pm_nf9 cn))), (a2, .inl (k2, 8000, .inl fl)), (a3, .inl (k3, 16, .inl rt))] := hD.sub [0, 1, 2, 3, 4, 5, 6, 7] (by decide) rfl
      obtain ⟨rfl, hw2⟩ := hw
      refine lv_istore_n (lv' := [(2, .int (pm_b (pm_cs N cn fl (mk1, ch1, kp1, lim1, kc1, nr1, nf1, nc1)).1)), (3, .int (nI i)), (1, .int (nI n)), (0, .ref m0)]) hx hb dX1_doCleanSteps_17 rfl hl (by decide) rfl (fun ls hl => ?_)
      refine lv_iinc (v := nI (i + 1)) (lv' := [(3, .int (nI (i + 1))), (2, .int (pm_b (pm_cs N cn fl (mk1, ch1, kp1, lim1, kc1, nr1, nf1, nc1)).1)), (1, .int (nI n)), (0, .ref m0)]) hx hb dX1_doCleanSteps_18 hl (k := 1) rfl (nI_1 _) (by decide) rfl (fun ls hl => ?_)
      refine lv_goto (tgt := 4) hx hb dX1_doCleanSteps_21 (by decide) ?_
      exact ih (i + 1, (pm_cs N cn fl (mk1, ch1, kp1, lim1, kc1, nr1, nf1, nc1)).1, mk2, ch2, kp2, lim2, kc2, nr2, nf2, nc2) _ _ _ ⟨by omega, by rw [hw2]; exact (pm_cs_ok (rt := rt) hN hI1).1, by rw [hw2]; exact (pm_run_s (by omega)).trans hT, hP, hD, hS, lv_sub hl [0, 1, 2, 3] rfl⟩ (by omega)
    | false =>
      have hl : lv_has ls 4 [(3, .int (nI i)), (2, .int (nI 0)), (1, .int (nI n)), (0, .ref m0)] := hl
      refine lv_iload_n hx hb dX1_doCleanSteps_9 rfl (lv_at hl 1 rfl) ?_
      refine lv_if_eq (tgt := 24) hx hb dX1_doCleanSteps_10 (by decide) (fun c_10 => ?_) (fun c_10 => absurd c_10 (by decide +kernel))
      exact W.vret hx hb hr (fun t ht hW => ⟨⟨(mk1, ch1, kp1, lim1, kc1, nr1, nf1, nc1), rfl, hT, by rw [ht]; exact hP, va_K.moved hW.alike hK, hD⟩, hS.F ht⟩) hS.2.2 dX1_doCleanSteps_24

set_option maxHeartbeats 4000000 in
set_option maxRecDepth 100000 in
/-- Marker.changeLimit(n) -/
theorem c_M_changeLimit (l : Launch) (dC : Nat → ClassId) (dI : Nat → Nat → Nat) (m0 b1 b2 b3 : Nat) (g1 g2 g3 : ClassId) (mr ch kp : Nat → Int32) (lim kc nr nf nc : Nat) (h0 a1 a2 a3 : Nat) (k1 k2 k3 : ClassId) (N : Nat) (cn : Nat → Nat) (fl rt : Nat → Int32) (fa : Int32) (n : Nat) (sz : Nat)  : Met l yX1_changeLimit wsX1_changeLimit ({ frames := 0, cells := 0, slots := 0, locals := 0 }) (va_Pc [.ref m0, .int (nI n)] (fun U => U.heap.size = sz ∧ va_P (dC, dI) vwCl [(m0, .inr (1, [.ref h0, .ref b1, .ref b2, .ref b3, .int (nI lim), .int (nI kc), .int (nI nr), .int (nI nf), .int (nI nc)])), (b1, .inl (g1, 400, .inl mr)), (b2, .inl (g2, 400, .inl ch)), (b3, .inl (g3, 64, .inl kp)), (h0, .inr (0, [.ref a1, .ref a2, .ref a3, .int (nI N), .int fa])), (a1, .inl (k1, 400, .inl (pm_nf9 cn))), (a2, .inl (k2, 8000, .inl fl)), (a3, .inl (k3, 16, .inl rt))] U.heap ∧ va_K (dC, dI) vwCl [(g1, .boolean), (g2, .boolean), (g3, .int), (k1, .int), (k2, .int), (k3, .int)] U ∧ va_D (fun _ => True) [(m0, .inr (1, [.ref h0, .ref b1, .ref b2, .ref b3, .int (nI lim), .int (nI kc), .int (nI nr), .int (nI nf), .int (nI nc)])), (b1, .inl (g1, 400, .inl mr)), (b2, .inl (g2, 400, .inl ch)), (b3, .inl (g3, 64, .inl kp)), (h0, .inr (0, [.ref a1, .ref a2, .ref a3, .int (nI N), .int fa])), (a1, .inl (k1, 400, .inl (pm_nf9 cn))), (a2, .inl (k2, 8000, .inl fl)), (a3, .inl (k3, 16, .inl rt))])) (va_Qi (fun (r : Int32) (_ : Unit) => r = nI lim) (fun (_ : Unit) (t : State) => va_P (dC, dI) vwCl [(m0, .inr (1, [.ref h0, .ref b1, .ref b2, .ref b3, .int (nI n), .int (nI kc), .int (nI nr), .int (nI nf), .int (nI nc)])), (b1, .inl (g1, 400, .inl mr)), (b2, .inl (g2, 400, .inl ch)), (b3, .inl (g3, 64, .inl kp)), (h0, .inr (0, [.ref a1, .ref a2, .ref a3, .int (nI N), .int fa])), (a1, .inl (k1, 400, .inl (pm_nf9 cn))), (a2, .inl (k2, 8000, .inl fl)), (a3, .inl (k3, 16, .inl rt))] t.heap ∧ va_K (dC, dI) vwCl [(g1, .boolean), (g2, .boolean), (g3, .int), (k1, .int), (k2, .int), (k3, .int)] t ∧ va_D (va_A [(m0, .inr (1, [.ref h0, .ref b1, .ref b2, .ref b3, .int (nI lim), .int (nI kc), .int (nI nr), .int (nI nf), .int (nI nc)])), (b1, .inl (g1, 400, .inl mr)), (b2, .inl (g2, 400, .inl ch)), (b3, .inl (g3, 64, .inl kp)), (h0, .inr (0, [.ref a1, .ref a2, .ref a3, .int (nI N), .int fa])), (a1, .inl (k1, 400, .inl (pm_nf9 cn))), (a2, .inl (k2, 8000, .inl fl)), (a3, .inl (k3, 16, .inl rt))] sz) [(m0, .inr (1, [.ref h0, .ref b1, .ref b2, .ref b3, .int (nI n), .int (nI kc), .int (nI nr), .int (nI nf), .int (nI nc)])), (b1, .inl (g1, 400, .inl mr)), (b2, .inl (g2, 400, .inl ch)), (b3, .inl (g3, 64, .inl kp)), (h0, .inr (0, [.ref a1, .ref a2, .ref a3, .int (nI N), .int fa])), (a1, .inl (k1, 400, .inl (pm_nf9 cn))), (a2, .inl (k2, 8000, .inl fl)), (a3, .inl (k3, 16, .inl rt))]) (va_A [(m0, .inr (1, [.ref h0, .ref b1, .ref b2, .ref b3, .int (nI lim), .int (nI kc), .int (nI nr), .int (nI nf), .int (nI nc)])), (b1, .inl (g1, 400, .inl mr)), (b2, .inl (g2, 400, .inl ch)), (b3, .inl (g3, 64, .inl kp)), (h0, .inr (0, [.ref a1, .ref a2, .ref a3, .int (nI N), .int fa])), (a1, .inl (k1, 400, .inl (pm_nf9 cn))), (a2, .inl (k2, 8000, .inl fl)), (a3, .inl (k3, 16, .inl rt))] sz)) 0 0 (va_A [(m0, .inr (1, [.ref h0, .ref b1, .ref b2, .ref b3, .int (nI lim), .int (nI kc), .int (nI nr), .int (nI nf), .int (nI nc)])), (b1, .inl (g1, 400, .inl mr)), (b2, .inl (g2, 400, .inl ch)), (b3, .inl (g3, 64, .inl kp)), (h0, .inr (0, [.ref a1, .ref a2, .ref a3, .int (nI N), .int fa])), (a1, .inl (k1, 400, .inl (pm_nf9 cn))), (a2, .inl (k2, 8000, .inl fl)), (a3, .inl (k3, 16, .inl rt))] sz) := by
  refine Met.ofW (cc := cX1_changeLimit) (maxL := 3) (ret := (some .int)) (by decide) rfl ?_
  intro p e s m args below meth c s₁ B hml hv
  obtain ⟨rfl, hsz, hP, hK, hD0⟩ := hv
  have hx := B.exec
  have hb := B.bytes
  have hr := B.returns
  have hts : ∀ w ∈ gw, w.before _ s = true := fun w h => atoms_spec (ws := wsX1_changeLimit) B.pre w (List.mem_cons_of_mem _ h)
  have hown : s.vm.findClass RX1 = some m.cls := findClass_of_methodNamed B.named
  have hlocks := B.notSynchronized
  subst hsz
  have hD := hD0.self (sz := s.heap.size)
  generalize hAe : va_A [(m0, .inr (1, [.ref h0, .ref b1, .ref b2, .ref b3, .int (nI lim), .int (nI kc), .int (nI nr), .int (nI nf), .int (nI nc)])), (b1, .inl (g1, 400, .inl mr)), (b2, .inl (g2, 400, .inl ch)), (b3, .inl (g3, 64, .inl kp)), (h0, .inr (0, [.ref a1, .ref a2, .ref a3, .int (nI N), .int fa])), (a1, .inl (k1, 400, .inl (pm_nf9 cn))), (a2, .inl (k2, 8000, .inl fl)), (a3, .inl (k3, 16, .inl rt))] s.heap.size = A at hD ⊢
  have hA : ∀ q : Nat, s.heap.size ≤ q → A q := fun q h => by rw [← hAe]; exact Or.inr h
  have hP : va_P (dC, dI) vwCl [(m0, .inr (1, [.ref h0, .ref b1, .ref b2, .ref b3, .int (nI lim), .int (nI kc), .int (nI nr), .int (nI nf), .int (nI nc)])), (b1, .inl (g1, 400, .inl mr)), (b2, .inl (g2, 400, .inl ch)), (b3, .inl (g3, 64, .inl kp)), (h0, .inr (0, [.ref a1, .ref a2, .ref a3, .int (nI N), .int fa])), (a1, .inl (k1, 400, .inl (pm_nf9 cn))), (a2, .inl (k2, 8000, .inl fl)), (a3, .inl (k3, 16, .inl rt))] s.heap := hP
  have hl := lv_entry ([.ref m0, .int (nI n)]) (n := 3) (Nat.le_of_ble_eq_true rfl)
  rw [lg_entry_eq]
  generalize (lg_sl ([.ref m0, .int (nI n)]) ++ List.replicate (3 - (lg_sl ([.ref m0, .int (nI n)])).length) Slot.unset).toArray = ls at hl ⊢
  have hl : lv_has ls 3 [(0, .ref m0), (1, .int (nI n))] := hl
  obtain ⟨H, hH⟩ : ∃ H : Heap, H = s.heap := ⟨_, rfl⟩
  rw [← hH]
  rw [← hH] at hP
  have hS : va_S A s.heap H [] := by rw [hH]; exact va_S.rf
  clear hH
  refine lv_aload_n hx hb dX1_changeLimit_0 rfl (lv_at hl 0 rfl) ?_
  refine va_get (D := (dC, dI)) (ci := 1) (v := .int (nI lim)) (C := RX1) (T := TX1) (N := 9) hx hb hts iw_X1 hown hK hP 0 rfl rfl 4 (by decide) (hts _ mf_X1_26) (fun _ h9 => h9) rfl dX1_changeLimit_1 ?_
  refine lv_istore_n (lv' := [(2, .int (nI lim)), (0, .ref m0), (1, .int (nI n))]) hx hb dX1_changeLimit_4 rfl hl (by decide) rfl (fun ls hl => ?_)
  refine lv_aload_n hx hb dX1_changeLimit_5 rfl (lv_at hl 1 rfl) ?_
  refine lv_iload_n hx hb dX1_changeLimit_6 rfl (lv_at hl 2 rfl) ?_
  refine va_put (D := (dC, dI)) (ci := 1) (v := .int (nI n)) (ty := .int) (C := RX1) (T := TX1) (N := 9) hx hb hts iw_X1 tyX1 tyX1_ok nmX1 hown hK hP hD hS 0 rfl rfl 4 (by decide) (hts _ mf_X1_26) (fun _ h9 => h9) rfl (by decide +kernel) (rfl) (rfl) (Nat.le_of_ble_eq_true rfl) dX1_changeLimit_7 (fun H locs hP hD hS => ?_)
  have hP : va_P (dC, dI) vwCl [(m0, .inr (1, [.ref h0, .ref b1, .ref b2, .ref b3, .int (nI n), .int (nI kc), .int (nI nr), .int (nI nf), .int (nI nc)])), (b1, .inl (g1, 400, .inl mr)), (b2, .inl (g2, 400, .inl ch)), (b3, .inl (g3, 64, .inl kp)), (h0, .inr (0, [.ref a1, .ref a2, .ref a3, .int (nI N), .int fa])), (a1, .inl (k1, 400, .inl (pm_nf9 cn))), (a2, .inl (k2, 8000, .inl fl)), (a3, .inl (k3, 16, .inl rt))] H := hP
  have hD : va_D A [(m0, .inr (1, [.ref h0, .ref b1, .ref b2, .ref b3, .int (nI n), .int (nI kc), .int (nI nr), .int (nI nf), .int (nI nc)])), (b1, .inl (g1, 400, .inl mr)), (b2, .inl (g2, 400, .inl ch)), (b3, .inl (g3, 64, .inl kp)), (h0, .inr (0, [.ref a1, .ref a2, .ref a3, .int (nI N), .int fa])), (a1, .inl (k1, 400, .inl (pm_nf9 cn))), (a2, .inl (k2, 8000, .inl fl)), (a3, .inl (k3, 16, .inl rt))] := hD
  refine lv_iload_n hx hb dX1_changeLimit_10 rfl (lv_at hl 0 rfl) ?_
  exact W.iret (v := nI lim) hx hb hr (fun t ht hW => ⟨⟨nI lim, (), rfl, rfl, by rw [ht]; exact hP, va_K.moved hW.alike hK, hD⟩, hS.F ht⟩) hS.2.2 dX1_changeLimit_11

set_option maxHeartbeats 4000000 in
set_option maxRecDepth 100000 in
/-- Marker.countOfMarks() -/
theorem c_M_countOfMarks (l : Launch) (dC : Nat → ClassId) (dI : Nat → Nat → Nat) (m0 b1 b2 b3 : Nat) (g1 g2 g3 : ClassId) (mr ch kp : Nat → Int32) (lim kc nr nf nc : Nat) (h0 a1 a2 a3 : Nat) (k1 k2 k3 : ClassId) (N : Nat) (cn : Nat → Nat) (fl rt : Nat → Int32) (fa : Int32) (sz : Nat)  : Met l yX1_countOfMarks wsX1_countOfMarks ({ frames := 0, cells := 0, slots := 0, locals := 0 }) (va_Pc [.ref m0] (fun U => U.heap.size = sz ∧ va_P (dC, dI) vwCl [(m0, .inr (1, [.ref h0, .ref b1, .ref b2, .ref b3, .int (nI lim), .int (nI kc), .int (nI nr), .int (nI nf), .int (nI nc)])), (b1, .inl (g1, 400, .inl mr)), (b2, .inl (g2, 400, .inl ch)), (b3, .inl (g3, 64, .inl kp)), (h0, .inr (0, [.ref a1, .ref a2, .ref a3, .int (nI N), .int fa])), (a1, .inl (k1, 400, .inl (pm_nf9 cn))), (a2, .inl (k2, 8000, .inl fl)), (a3, .inl (k3, 16, .inl rt))] U.heap ∧ va_K (dC, dI) vwCl [(g1, .boolean), (g2, .boolean), (g3, .int), (k1, .int), (k2, .int), (k3, .int)] U ∧ va_D (fun _ => True) [(m0, .inr (1, [.ref h0, .ref b1, .ref b2, .ref b3, .int (nI lim), .int (nI kc), .int (nI nr), .int (nI nf), .int (nI nc)])), (b1, .inl (g1, 400, .inl mr)), (b2, .inl (g2, 400, .inl ch)), (b3, .inl (g3, 64, .inl kp)), (h0, .inr (0, [.ref a1, .ref a2, .ref a3, .int (nI N), .int fa])), (a1, .inl (k1, 400, .inl (pm_nf9 cn))), (a2, .inl (k2, 8000, .inl fl)), (a3, .inl (k3, 16, .inl rt))])) (va_Qi (fun (r : Int32) (_ : Unit) => r = nI (pm_cnt mr 400)) (fun (_ : Unit) (t : State) => va_P (dC, dI) vwCl [(m0, .inr (1, [.ref h0, .ref b1, .ref b2, .ref b3, .int (nI lim), .int (nI kc), .int (nI nr), .int (nI nf), .int (nI nc)])), (b1, .inl (g1, 400, .inl mr)), (b2, .inl (g2, 400, .inl ch)), (b3, .inl (g3, 64, .inl kp)), (h0, .inr (0, [.ref a1, .ref a2, .ref a3, .int (nI N), .int fa])), (a1, .inl (k1, 400, .inl (pm_nf9 cn))), (a2, .inl (k2, 8000, .inl fl)), (a3, .inl (k3, 16, .inl rt))] t.heap ∧ va_K (dC, dI) vwCl [(g1, .boolean), (g2, .boolean), (g3, .int), (k1, .int), (k2, .int), (k3, .int)] t ∧ va_D (va_A [(m0, .inr (1, [.ref h0, .ref b1, .ref b2, .ref b3, .int (nI lim), .int (nI kc), .int (nI nr), .int (nI nf), .int (nI nc)])), (b1, .inl (g1, 400, .inl mr)), (b2, .inl (g2, 400, .inl ch)), (b3, .inl (g3, 64, .inl kp)), (h0, .inr (0, [.ref a1, .ref a2, .ref a3, .int (nI N), .int fa])), (a1, .inl (k1, 400, .inl (pm_nf9 cn))), (a2, .inl (k2, 8000, .inl fl)), (a3, .inl (k3, 16, .inl rt))] sz) [(m0, .inr (1, [.ref h0, .ref b1, .ref b2, .ref b3, .int (nI lim), .int (nI kc), .int (nI nr), .int (nI nf), .int (nI nc)])), (b1, .inl (g1, 400, .inl mr)), (b2, .inl (g2, 400, .inl ch)), (b3, .inl (g3, 64, .inl kp)), (h0, .inr (0, [.ref a1, .ref a2, .ref a3, .int (nI N), .int fa])), (a1, .inl (k1, 400, .inl (pm_nf9 cn))), (a2, .inl (k2, 8000, .inl fl)), (a3, .inl (k3, 16, .inl rt))]) (va_A [(m0, .inr (1, [.ref h0, .ref b1, .ref b2, .ref b3, .int (nI lim), .int (nI kc), .int (nI nr), .int (nI nf), .int (nI nc)])), (b1, .inl (g1, 400, .inl mr)), (b2, .inl (g2, 400, .inl ch)), (b3, .inl (g3, 64, .inl kp)), (h0, .inr (0, [.ref a1, .ref a2, .ref a3, .int (nI N), .int fa])), (a1, .inl (k1, 400, .inl (pm_nf9 cn))), (a2, .inl (k2, 8000, .inl fl)), (a3, .inl (k3, 16, .inl rt))] sz)) 0 0 (va_A [(m0, .inr (1, [.ref h0, .ref b1, .ref b2, .ref b3, .int (nI lim), .int (nI kc), .int (nI nr), .int (nI nf), .int (nI nc)])), (b1, .inl (g1, 400, .inl mr)), (b2, .inl (g2, 400, .inl ch)), (b3, .inl (g3, 64, .inl kp)), (h0, .inr (0, [.ref a1, .ref a2, .ref a3, .int (nI N), .int fa])), (a1, .inl (k1, 400, .inl (pm_nf9 cn))), (a2, .inl (k2, 8000, .inl fl)), (a3, .inl (k3, 16, .inl rt))] sz) := by
  refine Met.ofW (cc := cX1_countOfMarks) (maxL := 3) (ret := (some .int)) (by decide) rfl ?_
  intro p e s m args below meth c s₁ B hml hv
  obtain ⟨rfl, hsz, hP, hK, hD0⟩ := hv
  have hx := B.exec
  have hb := B.bytes
  have hr := B.returns
  have hts : ∀ w ∈ gw, w.before _ s = true := fun w h => atoms_spec (ws := wsX1_countOfMarks) B.pre w (List.mem_cons_of_mem _ h)
  have hown : s.vm.findClass RX1 = some m.cls := findClass_of_methodNamed B.named
  have hlocks := B.notSynchronized
  subst hsz
  have hD := hD0.self (sz := s.heap.size)
  generalize hAe : va_A [(m0, .inr (1, [.ref h0, .ref b1, .ref b2, .ref b3, .int (nI lim), .int (nI kc), .int (nI nr), .int (nI nf), .int (nI nc)])), (b1, .inl (g1, 400, .inl mr)), (b2, .inl (g2, 400, .inl ch)), (b3, .inl (g3, 64, .inl kp)), (h0, .inr (0, [.ref a1, .ref a2, .ref a3, .int (nI N), .int fa])), (a1, .inl (k1, 400, .inl (pm_nf9 cn))), (a2, .inl (k2, 8000, .inl fl)), (a3, .inl (k3, 16, .inl rt))] s.heap.size = A at hD ⊢
  have hA : ∀ q : Nat, s.heap.size ≤ q → A q := fun q h => by rw [← hAe]; exact Or.inr h
  have hP : va_P (dC, dI) vwCl [(m0, .inr (1, [.ref h0, .ref b1, .ref b2, .ref b3, .int (nI lim), .int (nI kc), .int (nI nr), .int (nI nf), .int (nI nc)])), (b1, .inl (g1, 400, .inl mr)), (b2, .inl (g2, 400, .inl ch)), (b3, .inl (g3, 64, .inl kp)), (h0, .inr (0, [.ref a1, .ref a2, .ref a3, .int (nI N), .int fa])), (a1, .inl (k1, 400, .inl (pm_nf9 cn))), (a2, .inl (k2, 8000, .inl fl)), (a3, .inl (k3, 16, .inl rt))] s.heap := hP
  have hl := lv_entry ([.ref m0]) (n := 3) (Nat.le_of_ble_eq_true rfl)
  rw [lg_entry_eq]
  generalize (lg_sl ([.ref m0]) ++ List.replicate (3 - (lg_sl ([.ref m0])).length) Slot.unset).toArray = ls at hl ⊢
  have hl : lv_has ls 3 [(0, .ref m0)] := hl
  obtain ⟨H, hH⟩ : ∃ H : Heap, H = s.heap := ⟨_, rfl⟩
  rw [← hH]
  rw [← hH] at hP
  have hS : va_S A s.heap H [] := by rw [hH]; exact va_S.rf
  clear hH
  refine lv_iconst (v := nI 0) hx hb dX1_countOfMarks_0 (by decide +kernel) ?_
  refine lv_istore_n (lv' := [(1, .int (nI 0)), (0, .ref m0)]) hx hb dX1_countOfMarks_1 rfl hl (by decide) rfl (fun ls hl => ?_)
  refine lv_iconst (v := nI 0) hx hb dX1_countOfMarks_2 (by decide +kernel) ?_
  refine lv_istore_n (lv' := [(2, .int (nI 0)), (1, .int (nI 0)), (0, .ref m0)]) hx hb dX1_countOfMarks_3 rfl hl (by decide) rfl (fun ls hl => ?_)
  have hl : lv_has ls 3 [(2, .int (nI 0)), (1, .int (nI (pm_cnt mr 0))), (0, .ref m0)] := hl
  refine lp_loop (σ := Nat) (head := 4) (fun k H locs ls => k ≤ 400 ∧ va_P (dC, dI) vwCl [(m0, .inr (1, [.ref h0, .ref b1, .ref b2, .ref b3, .int (nI lim), .int (nI kc), .int (nI nr), .int (nI nf), .int (nI nc)])), (b1, .inl (g1, 400, .inl mr)), (b2, .inl (g2, 400, .inl ch)), (b3, .inl (g3, 64, .inl kp)), (h0, .inr (0, [.ref a1, .ref a2, .ref a3, .int (nI N), .int fa])), (a1, .inl (k1, 400, .inl (pm_nf9 cn))), (a2, .inl (k2, 8000, .inl fl)), (a3, .inl (k3, 16, .inl rt))] H ∧ va_D A [(m0, .inr (1, [.ref h0, .ref b1, .ref b2, .ref b3, .int (nI lim), .int (nI kc), .int (nI nr), .int (nI nf), .int (nI nc)])), (b1, .inl (g1, 400, .inl mr)), (b2, .inl (g2, 400, .inl ch)), (b3, .inl (g3, 64, .inl kp)), (h0, .inr (0, [.ref a1, .ref a2, .ref a3, .int (nI N), .int fa])), (a1, .inl (k1, 400, .inl (pm_nf9 cn))), (a2, .inl (k2, 8000, .inl fl)), (a3, .inl (k3, 16, .inl rt))] ∧ va_S A s.heap H locs ∧ lv_has ls 3 [(2, .int (nI k)), (1, .int (nI (pm_cnt mr k))), (0, .ref m0)]) (fun k => 400 - k) ?_ 0 _ _ _ ⟨Nat.zero_le _, hP, hD, hS, lv_sub hl [0, 1, 2] rfl⟩
  intro x H locs ls hI ih
  obtain ⟨k, rfl⟩ : ∃ y, y = x := ⟨x, rfl⟩
  obtain ⟨hk, hP, hD, hS, hl⟩ := hI
  refine lv_iload_n hx hb dX1_countOfMarks_4 rfl (lv_at hl 0 rfl) ?_
  refine lv_sipush (v := nI 400) hx hb dX1_countOfMarks_5 (by decide +kernel) ?_
  refine lv_icmp_ge (tgt := 29) hx hb dX1_countOfMarks_8 (by decide) (fun c_8 => ?_) (fun c_8 => ?_)
  · rw [nI_leI (by omega) (by omega)] at c_8
    refine lv_iload_n hx hb dX1_countOfMarks_29 rfl (lv_at hl 1 rfl) ?_
    exact W.iret (v := nI (pm_cnt mr k)) hx hb hr (fun t ht hW => ⟨⟨nI (pm_cnt mr k), (), rfl, by rw [show k = 400 by omega], by rw [ht]; exact hP, va_K.moved hW.alike hK, hD⟩, hS.F ht⟩) hS.2.2 dX1_countOfMarks_30
  · rw [nI_leI (by omega) (by omega)] at c_8
    refine lv_aload_n hx hb dX1_countOfMarks_11 rfl (lv_at hl 2 rfl) ?_
    refine va_get (D := (dC, dI)) (ci := 1) (v := .ref b1) (C := RX1) (T := TX1) (N := 9) hx hb hts iw_X1 hown hK hP 0 rfl rfl 1 (by decide) (hts _ mf_X1_15) (fun _ h9 => h9) rfl dX1_countOfMarks_12 ?_
    refine lv_iload_n hx hb dX1_countOfMarks_15 rfl (lv_at hl 0 rfl) ?_
    refine va_zald hx hb hK hP 1 0 rfl rfl (vp_in_nI (by omega) (by omega)) dX1_countOfMarks_16 ?_
    refine lv_topi (fun x_1 ex_1 => ?_)
    rw [nI_clamp (by omega)] at ex_1
    subst ex_1
    refine lv_if_eq (tgt := 23) hx hb dX1_countOfMarks_17 (by decide) (fun c_17 => ?_) (fun c_17 => ?_)
    · have e9 : pm_cnt mr (k + 1) = pm_cnt mr k := by simp only [pm_cnt]; rw [if_pos c_17, Nat.add_zero]
      rw [← e9] at hl
      refine lv_iinc (v := nI (k + 1)) (lv' := [(2, .int (nI (k + 1))), (1, .int (nI (pm_cnt mr (k + 1)))), (0, .ref m0)]) hx hb dX1_countOfMarks_23 hl (k := 0) rfl (nI_1 _) (by decide) rfl (fun ls hl => ?_)
      refine lv_goto (tgt := 4) hx hb dX1_countOfMarks_26 (by decide) ?_
      have hl : lv_has ls 3 [(2, .int (nI (k + 1))), (1, .int (nI (pm_cnt mr (k + 1)))), (0, .ref m0)] := hl
      exact ih (k + 1) _ _ _ ⟨by omega, hP, hD, hS, lv_sub hl [0, 1, 2] rfl⟩ (by omega)
    · refine lv_iinc (v := nI ((pm_cnt mr k) + 1)) (lv' := [(1, .int (nI ((pm_cnt mr k) + 1))), (2, .int (nI k)), (0, .ref m0)]) hx hb dX1_countOfMarks_20 hl (k := 1) rfl (nI_1 _) (by decide) rfl (fun ls hl => ?_)
      have e9 : pm_cnt mr (k + 1) = pm_cnt mr k + 1 := by simp only [pm_cnt]; rw [if_neg c_17]
      rw [← e9] at hl
      refine lv_iinc (v := nI (k + 1)) (lv' := [(2, .int (nI (k + 1))), (1, .int (nI (pm_cnt mr (k + 1)))), (0, .ref m0)]) hx hb dX1_countOfMarks_23 hl (k := 1) rfl (nI_1 _) (by decide) rfl (fun ls hl => ?_)
      refine lv_goto (tgt := 4) hx hb dX1_countOfMarks_26 (by decide) ?_
      have hl : lv_has ls 3 [(2, .int (nI (k + 1))), (1, .int (nI (pm_cnt mr (k + 1)))), (0, .ref m0)] := hl
      exact ih (k + 1) _ _ _ ⟨by omega, hP, hD, hS, lv_sub hl [0, 1, 2] rfl⟩ (by omega)

set_option maxHeartbeats 4000000 in
set_option maxRecDepth 100000 in
/-- Marker.forgetAll() -/
theorem c_M_forgetAll (l : Launch) (dC : Nat → ClassId) (dI : Nat → Nat → Nat) (m0 b1 b2 b3 : Nat) (g1 g2 g3 : ClassId) (mr ch kp : Nat → Int32) (lim kc nr nf nc : Nat) (h0 a1 a2 a3 : Nat) (k1 k2 k3 : ClassId) (N : Nat) (cn : Nat → Nat) (fl rt : Nat → Int32) (fa : Int32) (sz : Nat)  : Met l yX1_forgetAll wsX1_forgetAll ({ frames := 0, cells := 0, slots := 0, locals := 0 }) (va_Pc [.ref m0] (fun U => U.heap.size = sz ∧ va_P (dC, dI) vwCl [(m0, .inr (1, [.ref h0, .ref b1, .ref b2, .ref b3, .int (nI lim), .int (nI kc), .int (nI nr), .int (nI nf), .int (nI nc)])), (b1, .inl (g1, 400, .inl mr)), (b2, .inl (g2, 400, .inl ch)), (b3, .inl (g3, 64, .inl kp)), (h0, .inr (0, [.ref a1, .ref a2, .ref a3, .int (nI N), .int fa])), (a1, .inl (k1, 400, .inl (pm_nf9 cn))), (a2, .inl (k2, 8000, .inl fl)), (a3, .inl (k3, 16, .inl rt))] U.heap ∧ va_K (dC, dI) vwCl [(g1, .boolean), (g2, .boolean), (g3, .int), (k1, .int), (k2, .int), (k3, .int)] U ∧ va_D (fun _ => True) [(m0, .inr (1, [.ref h0, .ref b1, .ref b2, .ref b3, .int (nI lim), .int (nI kc), .int (nI nr), .int (nI nf), .int (nI nc)])), (b1, .inl (g1, 400, .inl mr)), (b2, .inl (g2, 400, .inl ch)), (b3, .inl (g3, 64, .inl kp)), (h0, .inr (0, [.ref a1, .ref a2, .ref a3, .int (nI N), .int fa])), (a1, .inl (k1, 400, .inl (pm_nf9 cn))), (a2, .inl (k2, 8000, .inl fl)), (a3, .inl (k3, 16, .inl rt))])) (va_Qv (fun (_ : Unit) => True) (fun (_ : Unit) (t : State) => va_P (dC, dI) vwCl [(m0, .inr (1, [.ref h0, .ref b1, .ref b2, .ref b3, .int (nI lim), .int (nI 0), .int (nI 0), .int (nI 400), .int (nI 400)])), (b1, .inl (g1, 400, .inl (pm_clr 400 mr))), (b2, .inl (g2, 400, .inl (pm_clr 400 ch))), (b3, .inl (g3, 64, .inl kp)), (h0, .inr (0, [.ref a1, .ref a2, .ref a3, .int (nI N), .int fa])), (a1, .inl (k1, 400, .inl (pm_nf9 cn))), (a2, .inl (k2, 8000, .inl fl)), (a3, .inl (k3, 16, .inl rt))] t.heap ∧ va_K (dC, dI) vwCl [(g1, .boolean), (g2, .boolean), (g3, .int), (k1, .int), (k2, .int), (k3, .int)] t ∧ va_D (va_A [(m0, .inr (1, [.ref h0, .ref b1, .ref b2, .ref b3, .int (nI lim), .int (nI kc), .int (nI nr), .int (nI nf), .int (nI nc)])), (b1, .inl (g1, 400, .inl mr)), (b2, .inl (g2, 400, .inl ch)), (b3, .inl (g3, 64, .inl kp)), (h0, .inr (0, [.ref a1, .ref a2, .ref a3, .int (nI N), .int fa])), (a1, .inl (k1, 400, .inl (pm_nf9 cn))), (a2, .inl (k2, 8000, .inl fl)), (a3, .inl (k3, 16, .inl rt))] sz) [(m0, .inr (1, [.ref h0, .ref b1, .ref b2, .ref b3, .int (nI lim), .int (nI 0), .int (nI 0), .int (nI 400), .int (nI 400)])), (b1, .inl (g1, 400, .inl (pm_clr 400 mr))), (b2, .inl (g2, 400, .inl (pm_clr 400 ch))), (b3, .inl (g3, 64, .inl kp)), (h0, .inr (0, [.ref a1, .ref a2, .ref a3, .int (nI N), .int fa])), (a1, .inl (k1, 400, .inl (pm_nf9 cn))), (a2, .inl (k2, 8000, .inl fl)), (a3, .inl (k3, 16, .inl rt))]) (va_A [(m0, .inr (1, [.ref h0, .ref b1, .ref b2, .ref b3, .int (nI lim), .int (nI kc), .int (nI nr), .int (nI nf), .int (nI nc)])), (b1, .inl (g1, 400, .inl mr)), (b2, .inl (g2, 400, .inl ch)), (b3, .inl (g3, 64, .inl kp)), (h0, .inr (0, [.ref a1, .ref a2, .ref a3, .int (nI N), .int fa])), (a1, .inl (k1, 400, .inl (pm_nf9 cn))), (a2, .inl (k2, 8000, .inl fl)), (a3, .inl (k3, 16, .inl rt))] sz)) 0 0 (va_A [(m0, .inr (1, [.ref h0, .ref b1, .ref b2, .ref b3, .int (nI lim), .int (nI kc), .int (nI nr), .int (nI nf), .int (nI nc)])), (b1, .inl (g1, 400, .inl mr)), (b2, .inl (g2, 400, .inl ch)), (b3, .inl (g3, 64, .inl kp)), (h0, .inr (0, [.ref a1, .ref a2, .ref a3, .int (nI N), .int fa])), (a1, .inl (k1, 400, .inl (pm_nf9 cn))), (a2, .inl (k2, 8000, .inl fl)), (a3, .inl (k3, 16, .inl rt))] sz) := by
  refine Met.ofW (cc := cX1_forgetAll) (maxL := 2) (ret := (none)) (by decide) rfl ?_
  intro p e s m args below meth c s₁ B hml hv
  obtain ⟨rfl, hsz, hP, hK, hD0⟩ := hv
  have hx := B.exec
  have hb := B.bytes
  have hr := B.returns
  have hts : ∀ w ∈ gw, w.before _ s = true := fun w h => atoms_spec (ws := wsX1_forgetAll) B.pre w (List.mem_cons_of_mem _ h)
  have hown : s.vm.findClass RX1 = some m.cls := findClass_of_methodNamed B.named
  have hlocks := B.notSynchronized
  subst hsz
  have hD := hD0.self (sz := s.heap.size)
  generalize hAe : va_A [(m0, .inr (1, [.ref h0, .ref b1, .ref b2, .ref b3, .int (nI lim), .int (nI kc), .int (nI nr), .int (nI nf), .int (nI nc)])), (b1, .inl (g1, 400, .inl mr)), (b2, .inl (g2, 400, .inl ch)), (b3, .inl (g3, 64, .inl kp)), (h0, .inr (0, [.ref a1, .ref a2, .ref a3, .int (nI N), .int fa])), (a1, .inl (k1, 400, .inl (pm_nf9 cn))), (a2, .inl (k2, 8000, .inl fl)), (a3, .inl (k3, 16, .inl rt))] s.heap.size = A at hD ⊢
  have hA : ∀ q : Nat, s.heap.size ≤ q → A q := fun q h => by rw [← hAe]; exact Or.inr h
  have hP : va_P (dC, dI) vwCl [(m0, .inr (1, [.ref h0, .ref b1, .ref b2, .ref b3, .int (nI lim), .int (nI kc), .int (nI nr), .int (nI nf), .int (nI nc)])), (b1, .inl (g1, 400, .inl mr)), (b2, .inl (g2, 400, .inl ch)), (b3, .inl (g3, 64, .inl kp)), (h0, .inr (0, [.ref a1, .ref a2, .ref a3, .int (nI N), .int fa])), (a1, .inl (k1, 400, .inl (pm_nf9 cn))), (a2, .inl (k2, 8000, .inl fl)), (a3, .inl (k3, 16, .inl rt))] s.heap := hP
  have hl := lv_entry ([.ref m0]) (n := 2) (Nat.le_of_ble_eq_true rfl)
  rw [lg_entry_eq]
  generalize (lg_sl ([.ref m0]) ++ List.replicate (2 - (lg_sl ([.ref m0])).length) Slot.unset).toArray = ls at hl ⊢
  have hl : lv_has ls 2 [(0, .ref m0)] := hl
  obtain ⟨H, hH⟩ : ∃ H : Heap, H = s.heap := ⟨_, rfl⟩
  rw [← hH]
  rw [← hH] at hP
  have hS : va_S A s.heap H [] := by rw [hH]; exact va_S.rf
  clear hH
  refine lv_iconst (v := nI 0) hx hb dX1_forgetAll_0 (by decide +kernel) ?_
  refine lv_istore_n (lv' := [(1, .int (nI 0)), (0, .ref m0)]) hx hb dX1_forgetAll_1 rfl hl (by decide) rfl (fun ls hl => ?_)
  have hP : va_P (dC, dI) vwCl [(m0, .inr (1, [.ref h0, .ref b1, .ref b2, .ref b3, .int (nI lim), .int (nI kc), .int (nI nr), .int (nI nf), .int (nI nc)])), (b1, .inl (g1, 400, .inl (pm_clr 0 mr))), (b2, .inl (g2, 400, .inl (pm_clr 0 ch))), (b3, .inl (g3, 64, .inl kp)), (h0, .inr (0, [.ref a1, .ref a2, .ref a3, .int (nI N), .int fa])), (a1, .inl (k1, 400, .inl (pm_nf9 cn))), (a2, .inl (k2, 8000, .inl fl)), (a3, .inl (k3, 16, .inl rt))] H := by rw [pm_clr_0, pm_clr_0]; exact hP
  have hD : va_D A [(m0, .inr (1, [.ref h0, .ref b1, .ref b2, .ref b3, .int (nI lim), .int (nI kc), .int (nI nr), .int (nI nf), .int (nI nc)])), (b1, .inl (g1, 400, .inl (pm_clr 0 mr))), (b2, .inl (g2, 400, .inl (pm_clr 0 ch))), (b3, .inl (g3, 64, .inl kp)), (h0, .inr (0, [.ref a1, .ref a2, .ref a3, .int (nI N), .int fa])), (a1, .inl (k1, 400, .inl (pm_nf9 cn))), (a2, .inl (k2, 8000, .inl fl)), (a3, .inl (k3, 16, .inl rt))] := by rw [pm_clr_0, pm_clr_0]; exact hD
  refine lp_loop (σ := Nat) (head := 2) (fun k H locs ls => k ≤ 400 ∧ va_P (dC, dI) vwCl [(m0, .inr (1, [.ref h0, .ref b1, .ref b2, .ref b3, .int (nI lim), .int (nI kc), .int (nI nr), .int (nI nf), .int (nI nc)])), (b1, .inl (g1, 400, .inl (pm_clr k mr))), (b2, .inl (g2, 400, .inl (pm_clr k ch))), (b3, .inl (g3, 64, .inl kp)), (h0, .inr (0, [.ref a1, .ref a2, .ref a3, .int (nI N), .int fa])), (a1, .inl (k1, 400, .inl (pm_nf9 cn))), (a2, .inl (k2, 8000, .inl fl)), (a3, .inl (k3, 16, .inl rt))] H ∧ va_D A [(m0, .inr (1, [.ref h0, .ref b1, .ref b2, .ref b3, .int (nI lim), .int (nI kc), .int (nI nr), .int (nI nf), .int (nI nc)])), (b1, .inl (g1, 400, .inl (pm_clr k mr))), (b2, .inl (g2, 400, .inl (pm_clr k ch))), (b3, .inl (g3, 64, .inl kp)), (h0, .inr (0, [.ref a1, .ref a2, .ref a3, .int (nI N), .int fa])), (a1, .inl (k1, 400, .inl (pm_nf9 cn))), (a2, .inl (k2, 8000, .inl fl)), (a3, .inl (k3, 16, .inl rt))] ∧ va_S A s.heap H locs ∧ lv_has ls 2 [(1, .int (nI k)), (0, .ref m0)]) (fun k => 400 - k) ?_ 0 _ _ _ ⟨Nat.zero_le _, hP, hD, hS, lv_sub hl [0, 1] rfl⟩
  intro x H locs ls hI ih
  obtain ⟨k, rfl⟩ : ∃ y, y = x := ⟨x, rfl⟩
  obtain ⟨hk, hP, hD, hS, hl⟩ := hI
  refine lv_iload_n hx hb dX1_forgetAll_2 rfl (lv_at hl 0 rfl) ?_
  refine lv_sipush (v := nI 400) hx hb dX1_forgetAll_3 (by decide +kernel) ?_
  refine lv_icmp_ge (tgt := 29) hx hb dX1_forgetAll_6 (by decide) (fun c_6 => ?_) (fun c_6 => ?_)
  · rw [nI_leI (by omega) (by omega)] at c_6
    obtain rfl : k = 400 := by omega
    refine lv_aload_n hx hb dX1_forgetAll_29 rfl (lv_at hl 1 rfl) ?_
    refine lv_iconst (v := nI 0) hx hb dX1_forgetAll_30 (by decide +kernel) ?_
    refine va_put (D := (dC, dI)) (ci := 1) (v := .int (nI 0)) (ty := .int) (C := RX1) (T := TX1) (N := 9) hx hb hts iw_X1 tyX1 tyX1_ok nmX1 hown hK hP hD hS 0 rfl rfl 5 (by decide) (hts _ mf_X1_30) (fun _ h9 => h9) rfl (by decide +kernel) (rfl) (rfl) (Nat.le_of_ble_eq_true rfl) dX1_forgetAll_31 (fun H locs hP hD hS => ?_)
    have hP : va_P (dC, dI) vwCl [(m0, .inr (1, [.ref h0, .ref b1, .ref b2, .ref b3, .int (nI lim), .int (nI 0), .int (nI nr), .int (nI nf), .int (nI nc)])), (b1, .inl (g1, 400, .inl (pm_clr 400 mr))), (b2, .inl (g2, 400, .inl (pm_clr 400 ch))), (b3, .inl (g3, 64, .inl kp)), (h0, .inr (0, [.ref a1, .ref a2, .ref a3, .int (nI N), .int fa])), (a1, .inl (k1, 400, .inl (pm_nf9 cn))), (a2, .inl (k2, 8000, .inl fl)), (a3, .inl (k3, 16, .inl rt))] H := hP
    have hD : va_D A [(m0, .inr (1, [.ref h0, .ref b1, .ref b2, .ref b3, .int (nI lim), .int (nI 0), .int (nI nr), .int (nI nf), .int (nI nc)])), (b1, .inl (g1, 400, .inl (pm_clr 400 mr))), (b2, .inl (g2, 400, .inl (pm_clr 400 ch))), (b3, .inl (g3, 64, .inl kp)), (h0, .inr (0, [.ref a1, .ref a2, .ref a3, .int (nI N), .int fa])), (a1, .inl (k1, 400, .inl (pm_nf9 cn))), (a2, .inl (k2, 8000, .inl fl)), (a3, .inl (k3, 16, .inl rt))] := hD
    refine lv_aload_n hx hb dX1_forgetAll_34 rfl (lv_at hl 1 rfl) ?_
    refine lv_iconst (v := nI 0) hx hb dX1_forgetAll_35 (by decide +kernel) ?_
    refine va_put (D := (dC, dI)) (ci := 1) (v := .int (nI 0)) (ty := .int) (C := RX1) (T := TX1) (N := 9) hx hb hts iw_X1 tyX1 tyX1_ok nmX1 hown hK hP hD hS 0 rfl rfl 6 (by decide) (hts _ mf_X1_33) (fun _ h9 => h9) rfl (by decide +kernel) (rfl) (rfl) (Nat.le_of_ble_eq_true rfl) dX1_forgetAll_36 (fun H locs hP hD hS => ?_)
    have hP : va_P (dC, dI) vwCl [(m0, .inr (1, [.ref h0, .ref b1, .ref b2, .ref b3, .int (nI lim), .int (nI 0), .int (nI 0), .int (nI nf), .int (nI nc)])), (b1, .inl (g1, 400, .inl (pm_clr 400 mr))), (b2, .inl (g2, 400, .inl (pm_clr 400 ch))), (b3, .inl (g3, 64, .inl kp)), (h0, .inr (0, [.ref a1, .ref a2, .ref a3, .int (nI N), .int fa])), (a1, .inl (k1, 400, .inl (pm_nf9 cn))), (a2, .inl (k2, 8000, .inl fl)), (a3, .inl (k3, 16, .inl rt))] H := hP
    have hD : va_D A [(m0, .inr (1, [.ref h0, .ref b1, .ref b2, .ref b3, .int (nI lim), .int (nI 0), .int (nI 0), .int (nI nf), .int (nI nc)])), (b1, .inl (g1, 400, .inl (pm_clr 400 mr))), (b2, .inl (g2, 400, .inl (pm_clr 400 ch))), (b3, .inl (g3, 64, .inl kp)), (h0, .inr (0, [.ref a1, .ref a2, .ref a3, .int (nI N), .int fa])), (a1, .inl (k1, 400, .inl (pm_nf9 cn))), (a2, .inl (k2, 8000, .inl fl)), (a3, .inl (k3, 16, .inl rt))] := hD
    refine lv_aload_n hx hb dX1_forgetAll_39 rfl (lv_at hl 1 rfl) ?_
    refine lv_sipush (v := nI 400) hx hb dX1_forgetAll_40 (by decide +kernel) ?_
    refine va_put (D := (dC, dI)) (ci := 1) (v := .int (nI 400)) (ty := .int) (C := RX1) (T := TX1) (N := 9) hx hb hts iw_X1 tyX1 tyX1_ok nmX1 hown hK hP hD hS 0 rfl rfl 7 (by decide) (hts _ mf_X1_36) (fun _ h9 => h9) rfl (by decide +kernel) (rfl) (rfl) (Nat.le_of_ble_eq_true rfl) dX1_forgetAll_43 (fun H locs hP hD hS => ?_)
    have hP : va_P (dC, dI) vwCl [(m0, .inr (1, [.ref h0, .ref b1, .ref b2, .ref b3, .int (nI lim), .int (nI 0), .int (nI 0), .int (nI 400), .int (nI nc)])), (b1, .inl (g1, 400, .inl (pm_clr 400 mr))), (b2, .inl (g2, 400, .inl (pm_clr 400 ch))), (b3, .inl (g3, 64, .inl kp)), (h0, .inr (0, [.ref a1, .ref a2, .ref a3, .int (nI N), .int fa])), (a1, .inl (k1, 400, .inl (pm_nf9 cn))), (a2, .inl (k2, 8000, .inl fl)), (a3, .inl (k3, 16, .inl rt))] H := hP
    have hD : va_D A [(m0, .inr (1, [.ref h0, .ref b1, .ref b2, .ref b3, .int (nI lim), .int (nI 0), .int (nI 0), .int (nI 400), .int (nI nc)])), (b1, .inl (g1, 400, .inl (pm_clr 400 mr))), (b2, .inl (g2, 400, .inl (pm_clr 400 ch))), (b3, .inl (g3, 64, .inl kp)), (h0, .inr (0, [.ref a1, .ref a2, .ref a3, .int (nI N), .int fa])), (a1, .inl (k1, 400, .inl (pm_nf9 cn))), (a2, .inl (k2, 8000, .inl fl)), (a3, .inl (k3, 16, .inl rt))] := hD
    refine lv_aload_n hx hb dX1_forgetAll_46 rfl (lv_at hl 1 rfl) ?_
    refine lv_sipush (v := nI 400) hx hb dX1_forgetAll_47 (by decide +kernel) ?_
    refine va_put (D := (dC, dI)) (ci := 1) (v := .int (nI 400)) (ty := .int) (C := RX1) (T := TX1) (N := 9) hx hb hts iw_X1 tyX1 tyX1_ok nmX1 hown hK hP hD hS 0 rfl rfl 8 (by decide) (hts _ mf_X1_39) (fun _ h9 => h9) rfl (by decide +kernel) (rfl) (rfl) (Nat.le_of_ble_eq_true rfl) dX1_forgetAll_50 (fun H locs hP hD hS => ?_)
    have hP : va_P (dC, dI) vwCl [(m0, .inr (1, [.ref h0, .ref b1, .ref b2, .ref b3, .int (nI lim), .int (nI 0), .int (nI 0), .int (nI 400), .int (nI 400)])), (b1, .inl (g1, 400, .inl (pm_clr 400 mr))), (b2, .inl (g2, 400, .inl (pm_clr 400 ch))), (b3, .inl (g3, 64, .inl kp)), (h0, .inr (0, [.ref a1, .ref a2, .ref a3, .int (nI N), .int fa])), (a1, .inl (k1, 400, .inl (pm_nf9 cn))), (a2, .inl (k2, 8000, .inl fl)), (a3, .inl (k3, 16, .inl rt))] H := hP
    have hD : va_D A [(m0, .inr (1, [.ref h0, .ref b1, .ref b2, .ref b3, .int (nI lim), .int (nI 0), .int (nI 0), .int (nI 400), .int (nI 400)])), (b1, .inl (g1, 400, .inl (pm_clr 400 mr))), (b2, .inl (g2, 400, .inl (pm_clr 400 ch))), (b3, .inl (g3, 64, .inl kp)), (h0, .inr (0, [.ref a1, .ref a2, .ref a3, .int (nI N), .int fa])), (a1, .inl (k1, 400, .inl (pm_nf9 cn))), (a2, .inl (k2, 8000, .inl fl)), (a3, .inl (k3, 16, .inl rt))] := hD
    exact W.vret hx hb hr (fun t ht hW => ⟨⟨(), rfl, trivial, by rw [ht]; exact hP, va_K.moved hW.alike hK, hD⟩, hS.F ht⟩) hS.2.2 dX1_forgetAll_53
  · rw [nI_leI (by omega) (by omega)] at c_6
    refine lv_aload_n hx hb dX1_forgetAll_9 rfl (lv_at hl 1 rfl) ?_
    refine va_get (D := (dC, dI)) (ci := 1) (v := .ref b1) (C := RX1) (T := TX1) (N := 9) hx hb hts iw_X1 hown hK hP 0 rfl rfl 1 (by decide) (hts _ mf_X1_15) (fun _ h9 => h9) rfl dX1_forgetAll_10 ?_
    refine lv_iload_n hx hb dX1_forgetAll_13 rfl (lv_at hl 0 rfl) ?_
    refine lv_iconst (v := nI 0) hx hb dX1_forgetAll_14 (by decide +kernel) ?_
    refine va_zast hx hb hK hP hD hS 1 0 rfl rfl (vp_in_nI (by omega) (by omega)) dX1_forgetAll_15 (fun H locs hP hD hS => ?_)
    rw [nI_clamp (by omega)] at hP hD
    rw [pm_z0] at hP hD
    have hP : va_P (dC, dI) vwCl [(m0, .inr (1, [.ref h0, .ref b1, .ref b2, .ref b3, .int (nI lim), .int (nI kc), .int (nI nr), .int (nI nf), .int (nI nc)])), (b1, .inl (g1, 400, .inl (upd (pm_clr k mr) k 0))), (b2, .inl (g2, 400, .inl (pm_clr k ch))), (b3, .inl (g3, 64, .inl kp)), (h0, .inr (0, [.ref a1, .ref a2, .ref a3, .int (nI N), .int fa])), (a1, .inl (k1, 400, .inl (pm_nf9 cn))), (a2, .inl (k2, 8000, .inl fl)), (a3, .inl (k3, 16, .inl rt))] H := hP
    have hD : va_D A [(m0, .inr (1, [.ref h0, .ref b1, .ref b2, .ref b3, .int (nI lim), .int (nI kc), .int (nI nr), .int (nI nf), .int (nI nc)])), (b1, .inl (g1, 400, .inl (upd (pm_clr k mr) k 0))), (b2, .inl (g2, 400, .inl (pm_clr k ch))), (b3, .inl (g3, 64, .inl kp)), (h0, .inr (0, [.ref a1, .ref a2, .ref a3, .int (nI N), .int fa])), (a1, .inl (k1, 400, .inl (pm_nf9 cn))), (a2, .inl (k2, 8000, .inl fl)), (a3, .inl (k3, 16, .inl rt))] := hD
    rw [show upd (pm_clr k mr) k 0 = pm_clr (k + 1) mr from pm_clr_s k mr] at hP hD
    refine lv_aload_n hx hb dX1_forgetAll_16 rfl (lv_at hl 1 rfl) ?_
    refine va_get (D := (dC, dI)) (ci := 1) (v := .ref b2) (C := RX1) (T := TX1) (N := 9) hx hb hts iw_X1 hown hK hP 0 rfl rfl 2 (by decide) (hts _ mf_X1_19) (fun _ h9 => h9) rfl dX1_forgetAll_17 ?_
    refine lv_iload_n hx hb dX1_forgetAll_20 rfl (lv_at hl 0 rfl) ?_
    refine lv_iconst (v := nI 0) hx hb dX1_forgetAll_21 (by decide +kernel) ?_
    refine va_zast hx hb hK hP hD hS 2 1 rfl rfl (vp_in_nI (by omega) (by omega)) dX1_forgetAll_22 (fun H locs hP hD hS => ?_)
    rw [nI_clamp (by omega)] at hP hD
    rw [pm_z0] at hP hD
    have hP : va_P (dC, dI) vwCl [(m0, .inr (1, [.ref h0, .ref b1, .ref b2, .ref b3, .int (nI lim), .int (nI kc), .int (nI nr), .int (nI nf), .int (nI nc)])), (b1, .inl (g1, 400, .inl (pm_clr (k + 1) mr))), (b2, .inl (g2, 400, .inl (upd (pm_clr k ch) k 0))), (b3, .inl (g3, 64, .inl kp)), (h0, .inr (0, [.ref a1, .ref a2, .ref a3, .int (nI N), .int fa])), (a1, .inl (k1, 400, .inl (pm_nf9 cn))), (a2, .inl (k2, 8000, .inl fl)), (a3, .inl (k3, 16, .inl rt))] H := hP
    have hD : va_D A [(m0, .inr (1, [.ref h0, .ref b1, .ref b2, .ref b3, .int (nI lim), .int (nI kc), .int (nI nr), .int (nI nf), .int (nI nc)])), (b1, .inl (g1, 400, .inl (pm_clr (k + 1) mr))), (b2, .inl (g2, 400, .inl (upd (pm_clr k ch) k 0))), (b3, .inl (g3, 64, .inl kp)), (h0, .inr (0, [.ref a1, .ref a2, .ref a3, .int (nI N), .int fa])), (a1, .inl (k1, 400, .inl (pm_nf9 cn))), (a2, .inl (k2, 8000, .inl fl)), (a3, .inl (k3, 16, .inl rt))] := hD
    rw [show upd (pm_clr k ch) k 0 = pm_clr (k + 1) ch from pm_clr_s k ch] at hP hD
    refine lv_iinc (v := nI (k + 1)) (lv' := [(1, .int (nI (k + 1))), (0, .ref m0)]) hx hb dX1_forgetAll_23 hl (k := 0) rfl (nI_1 _) (by decide) rfl (fun ls hl => ?_)
    refine lv_goto (tgt := 2) hx hb dX1_forgetAll_26 (by decide) ?_
    exact ih (k + 1) _ _ _ ⟨by omega, hP, hD, hS, lv_sub hl [0, 1] rfl⟩ (by omega)

set_option maxHeartbeats 4000000 in
set_option maxRecDepth 100000 in
/-- Marker.noteChange(k) -/
theorem c_M_noteChange (l : Launch) (dC : Nat → ClassId) (dI : Nat → Nat → Nat) (m0 b1 b2 b3 : Nat) (g1 g2 g3 : ClassId) (mr ch kp : Nat → Int32) (lim kc nr nf nc : Nat) (h0 a1 a2 a3 : Nat) (k1 k2 k3 : ClassId) (N : Nat) (cn : Nat → Nat) (fl rt : Nat → Int32) (fa : Int32) (k : Nat) (sz : Nat) (hN : N ≤ 400) (hk : k < N) (hnc : nc ≤ 400) : Met l yX1_noteChange wsX1_noteChange ({ frames := 1, cells := 0, slots := 0, locals := 21 }) (va_Pc [.ref m0, .int (nI k)] (fun U => U.heap.size = sz ∧ va_P (dC, dI) vwCl [(m0, .inr (1, [.ref h0, .ref b1, .ref b2, .ref b3, .int (nI lim), .int (nI kc), .int (nI nr), .int (nI nf), .int (nI nc)])), (b1, .inl (g1, 400, .inl mr)), (b2, .inl (g2, 400, .inl ch)), (b3, .inl (g3, 64, .inl kp)), (h0, .inr (0, [.ref a1, .ref a2, .ref a3, .int (nI N), .int fa])), (a1, .inl (k1, 400, .inl (pm_nf9 cn))), (a2, .inl (k2, 8000, .inl fl)), (a3, .inl (k3, 16, .inl rt))] U.heap ∧ va_K (dC, dI) vwCl [(g1, .boolean), (g2, .boolean), (g3, .int), (k1, .int), (k2, .int), (k3, .int)] U ∧ va_D (fun _ => True) [(m0, .inr (1, [.ref h0, .ref b1, .ref b2, .ref b3, .int (nI lim), .int (nI kc), .int (nI nr), .int (nI nf), .int (nI nc)])), (b1, .inl (g1, 400, .inl mr)), (b2, .inl (g2, 400, .inl ch)), (b3, .inl (g3, 64, .inl kp)), (h0, .inr (0, [.ref a1, .ref a2, .ref a3, .int (nI N), .int fa])), (a1, .inl (k1, 400, .inl (pm_nf9 cn))), (a2, .inl (k2, 8000, .inl fl)), (a3, .inl (k3, 16, .inl rt))])) (va_Qv (fun (_ : Unit) => True) (fun (_ : Unit) (t : State) => va_P (dC, dI) vwCl [(m0, .inr (1, [.ref h0, .ref b1, .ref b2, .ref b3, .int (nI lim), .int (nI kc), .int (nI nr), .int (nI nf), .int (nI ((if k < nc then k else nc)))])), (b1, .inl (g1, 400, .inl mr)), (b2, .inl (g2, 400, .inl (upd ch k 1))), (b3, .inl (g3, 64, .inl kp)), (h0, .inr (0, [.ref a1, .ref a2, .ref a3, .int (nI N), .int fa])), (a1, .inl (k1, 400, .inl (pm_nf9 cn))), (a2, .inl (k2, 8000, .inl fl)), (a3, .inl (k3, 16, .inl rt))] t.heap ∧ va_K (dC, dI) vwCl [(g1, .boolean), (g2, .boolean), (g3, .int), (k1, .int), (k2, .int), (k3, .int)] t ∧ va_D (va_A [(m0, .inr (1, [.ref h0, .ref b1, .ref b2, .ref b3, .int (nI lim), .int (nI kc), .int (nI nr), .int (nI nf), .int (nI nc)])), (b1, .inl (g1, 400, .inl mr)), (b2, .inl (g2, 400, .inl ch)), (b3, .inl (g3, 64, .inl kp)), (h0, .inr (0, [.ref a1, .ref a2, .ref a3, .int (nI N), .int fa])), (a1, .inl (k1, 400, .inl (pm_nf9 cn))), (a2, .inl (k2, 8000, .inl fl)), (a3, .inl (k3, 16, .inl rt))] sz) [(m0, .inr (1, [.ref h0, .ref b1, .ref b2, .ref b3, .int (nI lim), .int (nI kc), .int (nI nr), .int (nI nf), .int (nI ((if k < nc then k else nc)))])), (b1, .inl (g1, 400, .inl mr)), (b2, .inl (g2, 400, .inl (upd ch k 1))), (b3, .inl (g3, 64, .inl kp)), (h0, .inr (0, [.ref a1, .ref a2, .ref a3, .int (nI N), .int fa])), (a1, .inl (k1, 400, .inl (pm_nf9 cn))), (a2, .inl (k2, 8000, .inl fl)), (a3, .inl (k3, 16, .inl rt))]) (va_A [(m0, .inr (1, [.ref h0, .ref b1, .ref b2, .ref b3, .int (nI lim), .int (nI kc), .int (nI nr), .int (nI nf), .int (nI nc)])), (b1, .inl (g1, 400, .inl mr)), (b2, .inl (g2, 400, .inl ch)), (b3, .inl (g3, 64, .inl kp)), (h0, .inr (0, [.ref a1, .ref a2, .ref a3, .int (nI N), .int fa])), (a1, .inl (k1, 400, .inl (pm_nf9 cn))), (a2, .inl (k2, 8000, .inl fl)), (a3, .inl (k3, 16, .inl rt))] sz)) 0 0 (va_A [(m0, .inr (1, [.ref h0, .ref b1, .ref b2, .ref b3, .int (nI lim), .int (nI kc), .int (nI nr), .int (nI nf), .int (nI nc)])), (b1, .inl (g1, 400, .inl mr)), (b2, .inl (g2, 400, .inl ch)), (b3, .inl (g3, 64, .inl kp)), (h0, .inr (0, [.ref a1, .ref a2, .ref a3, .int (nI N), .int fa])), (a1, .inl (k1, 400, .inl (pm_nf9 cn))), (a2, .inl (k2, 8000, .inl fl)), (a3, .inl (k3, 16, .inl rt))] sz) := by
  refine Met.ofW (cc := cX1_noteChange) (maxL := 2) (ret := (none)) (by decide) rfl ?_
  intro p e s m args below meth c s₁ B hml hv
  obtain ⟨rfl, hsz, hP, hK, hD0⟩ := hv
  have hx := B.exec
  have hb := B.bytes
  have hr := B.returns
  have hts : ∀ w ∈ gw, w.before _ s = true := fun w h => atoms_spec (ws := wsX1_noteChange) B.pre w (List.mem_cons_of_mem _ h)
  have hown : s.vm.findClass RX1 = some m.cls := findClass_of_methodNamed B.named
  have hlocks := B.notSynchronized
  subst hsz
  have hD := hD0.self (sz := s.heap.size)
  generalize hAe : va_A [(m0, .inr (1, [.ref h0, .ref b1, .ref b2, .ref b3, .int (nI lim), .int (nI kc), .int (nI nr), .int (nI nf), .int (nI nc)])), (b1, .inl (g1, 400, .inl mr)), (b2, .inl (g2, 400, .inl ch)), (b3, .inl (g3, 64, .inl kp)), (h0, .inr (0, [.ref a1, .ref a2, .ref a3, .int (nI N), .int fa])), (a1, .inl (k1, 400, .inl (pm_nf9 cn))), (a2, .inl (k2, 8000, .inl fl)), (a3, .inl (k3, 16, .inl rt))] s.heap.size = A at hD ⊢
  have hA : ∀ q : Nat, s.heap.size ≤ q → A q := fun q h => by rw [← hAe]; exact Or.inr h
  have hP : va_P (dC, dI) vwCl [(m0, .inr (1, [.ref h0, .ref b1, .ref b2, .ref b3, .int (nI lim), .int (nI kc), .int (nI nr), .int (nI nf), .int (nI nc)])), (b1, .inl (g1, 400, .inl mr)), (b2, .inl (g2, 400, .inl ch)), (b3, .inl (g3, 64, .inl kp)), (h0, .inr (0, [.ref a1, .ref a2, .ref a3, .int (nI N), .int fa])), (a1, .inl (k1, 400, .inl (pm_nf9 cn))), (a2, .inl (k2, 8000, .inl fl)), (a3, .inl (k3, 16, .inl rt))] s.heap := hP
  have hl := lv_entry ([.ref m0, .int (nI k)]) (n := 2) (Nat.le_of_ble_eq_true rfl)
  rw [lg_entry_eq]
  generalize (lg_sl ([.ref m0, .int (nI k)]) ++ List.replicate (2 - (lg_sl ([.ref m0, .int (nI k)])).length) Slot.unset).toArray = ls at hl ⊢
  have hl : lv_has ls 2 [(0, .ref m0), (1, .int (nI k))] := hl
  obtain ⟨H, hH⟩ : ∃ H : Heap, H = s.heap := ⟨_, rfl⟩
  rw [← hH]
  rw [← hH] at hP
  have hS : va_S A s.heap H [] := by rw [hH]; exact va_S.rf
  clear hH
  refine lv_aload_n hx hb dX1_noteChange_0 rfl (lv_at hl 0 rfl) ?_
  refine va_get (D := (dC, dI)) (ci := 1) (v := .ref h0) (C := RX1) (T := TX1) (N := 9) hx hb hts iw_X1 hown hK hP 0 rfl rfl 0 (by decide) (hts _ mf_X1_9) (fun _ h9 => h9) rfl dX1_noteChange_1 ?_
  refine lv_iload_n hx hb dX1_noteChange_4 rfl (lv_at hl 1 rfl) ?_
  have hPc := hP.sub (ws' := [(h0, .inr (0, [.ref a1, .ref a2, .ref a3, .int (nI N), .int fa])), (a1, .inl (k1, 400, .inl (pm_nf9 cn))), (a2, .inl (k2, 8000, .inl fl)), (a3, .inl (k3, 16, .inl rt))]) [4, 5, 6, 7] rfl
  have hDc := hD.sub (ws' := [(h0, .inr (0, [.ref a1, .ref a2, .ref a3, .int (nI N), .int fa])), (a1, .inl (k1, 400, .inl (pm_nf9 cn))), (a2, .inl (k2, 8000, .inl fl)), (a3, .inl (k3, 16, .inl rt))]) [4, 5, 6, 7] (by decide) rfl
  have hKc := hK.sub (tys' := [(k1, .int), (k2, .int), (k3, .int)]) [3, 4, 5] rfl
  have hFc := va_free (wc := [(h0, .inr (0, [.ref a1, .ref a2, .ref a3, .int (nI N), .int fa])), (a1, .inl (k1, 400, .inl (pm_nf9 cn))), (a2, .inl (k2, 8000, .inl fl)), (a3, .inl (k3, 16, .inl rt))]) hD hS hA [4, 5, 6, 7] rfl
  refine va_calli (va_runV (As := [.int (nI k)]) (rest := []) ⟨hx, hb, hml, hown, hts⟩ (c_H_has l dC dI h0 a1 a2 a3 k1 k2 k3 N cn fl rt fa (nI k) H.size) (cwV 1 hts (gw_V ml_X1_42 mi_X0_has ms_X0_has mn_X0 mc_X0_has) rfl rfl rfl (by decide +kernel) ⟨Nat.le_of_ble_eq_true rfl, Nat.le_of_ble_eq_true rfl⟩) ⟨fun a U g mk q => by obtain ⟨q0, q1, qP, qK, qD⟩ := q; exact ⟨q0, q1, qP, va_K.moved (u := U) (U := U.calling g mk a) (Vm.Alike.refl U.vm) qK, qD⟩, va_recv hKc hPc (ci := 0) (q0 := 0) rfl rfl, fun U hU hW => ⟨rfl, by rw [hU], by rw [hU]; exact hPc, va_K.moved hW.alike hKc, hDc.weaken (fun _ _ _ _ => trivial)⟩⟩ rfl rfl hl.1 rfl (lv_room (Nat.le_of_ble_eq_true rfl)) dX1_noteChange_5 ⟨Nat.le_of_ble_eq_true rfl, Nat.le_of_ble_eq_true rfl⟩) hS (fun q _ h => hFc q h) hFc (fun r_1 u t H1 locs ht hvm hw hB hz1 hk1 hS => ?_)
  obtain ⟨hP1, hK1, hD1⟩ := hB
  rw [ht] at hP1
  have hK1 := va_K.moved hvm.symm hK1
  obtain ⟨hP, hD⟩ := va_join (wr := [(m0, .inr (1, [.ref h0, .ref b1, .ref b2, .ref b3, .int (nI lim), .int (nI kc), .int (nI nr), .int (nI nf), .int (nI nc)])), (b1, .inl (g1, 400, .inl mr)), (b2, .inl (g2, 400, .inl ch)), (b3, .inl (g3, 64, .inl kp))]) (w1 := [(h0, .inr (0, [.ref a1, .ref a2, .ref a3, .int (nI N), .int fa])), (a1, .inl (k1, 400, .inl (pm_nf9 cn))), (a2, .inl (k2, 8000, .inl fl)), (a3, .inl (k3, 16, .inl rt))]) hP hD [4, 5, 6, 7] [0, 1, 2, 3] rfl rfl (by decide) (by decide) hk1 hFc hP1 hD1
  clear hPc hDc hKc hFc hP1 hK1 hD1
  generalize H1 = H at hP hS ⊢
  have hP : va_P (dC, dI) vwCl [(m0, .inr (1, [.ref h0, .ref b1, .ref b2, .ref b3, .int (nI lim), .int (nI kc), .int (nI nr), .int (nI nf), .int (nI nc)])), (b1, .inl (g1, 400, .inl mr)), (b2, .inl (g2, 400, .inl ch)), (b3, .inl (g3, 64, .inl kp)), (h0, .inr (0, [.ref a1, .ref a2, .ref a3, .int (nI N), .int fa])), (a1, .inl (k1, 400, .inl (pm_nf9 cn))), (a2, .inl (k2, 8000, .inl fl)), (a3, .inl (k3, 16, .inl rt))] H := hP.sub [0, 1, 2, 3, 4, 5, 6, 7] rfl
  have hD : va_D A [(m0, .inr (1, [.ref h0, .ref b1, .ref b2, .ref b3, .int (nI lim), .int (nI kc), .int (nI nr), .int (nI nf), .int (nI nc)])), (b1, .inl (g1, 400, .inl mr)), (b2, .inl (g2, 400, .inl ch)), (b3, .inl (g3, 64, .inl kp)), (h0, .inr (0, [.ref a1, .ref a2, .ref a3, .int (nI N), .int fa])), (a1, .inl (k1, 400, .inl (pm_nf9 cn))), (a2, .inl (k2, 8000, .inl fl)), (a3, .inl (k3, 16, .inl rt))] := hD.sub [0, 1, 2, 3, 4, 5, 6, 7] (by decide) rfl
  rcases pm_tf (pm_has N (nI k)) with hh_5 | hh_5
  · obtain rfl : r_1 = nI 1 := hw.trans (by rw [hh_5]; rfl)
    refine lv_if_eq (tgt := 31) hx hb dX1_noteChange_8 (by decide) (fun c_8 => absurd c_8 (by decide +kernel)) (fun c_8 => ?_)
    refine lv_aload_n hx hb dX1_noteChange_11 rfl (lv_at hl 0 rfl) ?_
    refine va_get (D := (dC, dI)) (ci := 1) (v := .ref b2) (C := RX1) (T := TX1) (N := 9) hx hb hts iw_X1 hown hK hP 0 rfl rfl 2 (by decide) (hts _ mf_X1_19) (fun _ h9 => h9) rfl dX1_noteChange_12 ?_
    refine lv_iload_n hx hb dX1_noteChange_15 rfl (lv_at hl 1 rfl) ?_
    refine lv_iconst (v := nI 1) hx hb dX1_noteChange_16 (by decide +kernel) ?_
    refine va_zast hx hb hK hP hD hS 2 1 rfl rfl (vp_in_nI (by omega) (by omega)) dX1_noteChange_17 (fun H locs hP hD hS => ?_)
    rw [nI_clamp (by omega)] at hP hD
    rw [pm_z1] at hP hD
    have hP : va_P (dC, dI) vwCl [(m0, .inr (1, [.ref h0, .ref b1, .ref b2, .ref b3, .int (nI lim), .int (nI kc), .int (nI nr), .int (nI nf), .int (nI nc)])), (b1, .inl (g1, 400, .inl mr)), (b2, .inl (g2, 400, .inl (upd ch k 1))), (b3, .inl (g3, 64, .inl kp)), (h0, .inr (0, [.ref a1, .ref a2, .ref a3, .int (nI N), .int fa])), (a1, .inl (k1, 400, .inl (pm_nf9 cn))), (a2, .inl (k2, 8000, .inl fl)), (a3, .inl (k3, 16, .inl rt))] H := hP
    have hD : va_D A [(m0, .inr (1, [.ref h0, .ref b1, .ref b2, .ref b3, .int (nI lim), .int (nI kc), .int (nI nr), .int (nI nf), .int (nI nc)])), (b1, .inl (g1, 400, .inl mr)), (b2, .inl (g2, 400, .inl (upd ch k 1))), (b3, .inl (g3, 64, .inl kp)), (h0, .inr (0, [.ref a1, .ref a2, .ref a3, .int (nI N), .int fa])), (a1, .inl (k1, 400, .inl (pm_nf9 cn))), (a2, .inl (k2, 8000, .inl fl)), (a3, .inl (k3, 16, .inl rt))] := hD
    refine lv_iload_n hx hb dX1_noteChange_18 rfl (lv_at hl 1 rfl) ?_
    refine lv_aload_n hx hb dX1_noteChange_19 rfl (lv_at hl 0 rfl) ?_
    refine va_get (D := (dC, dI)) (ci := 1) (v := .int (nI nc)) (C := RX1) (T := TX1) (N := 9) hx hb hts iw_X1 hown hK hP 0 rfl rfl 8 (by decide) (hts _ mf_X1_39) (fun _ h9 => h9) rfl dX1_noteChange_20 ?_
    refine lv_icmp_ge (tgt := 31) hx hb dX1_noteChange_23 (by decide) (fun c_23 => ?_) (fun c_23 => ?_)
    · rw [nI_leI (by omega) (by omega)] at c_23
      have e9 : (if k < nc then k else nc) = nc := if_neg (by omega)
      exact W.vret hx hb hr (fun t ht hW => ⟨⟨(), rfl, trivial, by rw [ht, e9]; exact hP, va_K.moved hW.alike hK, by rw [e9]; exact hD⟩, hS.F ht⟩) hS.2.2 dX1_noteChange_31
    · rw [nI_leI (by omega) (by omega)] at c_23
      refine lv_aload_n hx hb dX1_noteChange_26 rfl (lv_at hl 0 rfl) ?_
      refine lv_iload_n hx hb dX1_noteChange_27 rfl (lv_at hl 1 rfl) ?_
      refine va_put (D := (dC, dI)) (ci := 1) (v := .int (nI k)) (ty := .int) (C := RX1) (T := TX1) (N := 9) hx hb hts iw_X1 tyX1 tyX1_ok nmX1 hown hK hP hD hS 0 rfl rfl 8 (by decide) (hts _ mf_X1_39) (fun _ h9 => h9) rfl (by decide +kernel) (rfl) (rfl) (Nat.le_of_ble_eq_true rfl) dX1_noteChange_28 (fun H locs hP hD hS => ?_)
      have hP : va_P (dC, dI) vwCl [(m0, .inr (1, [.ref h0, .ref b1, .ref b2, .ref b3, .int (nI lim), .int (nI kc), .int (nI nr), .int (nI nf), .int (nI k)])), (b1, .inl (g1, 400, .inl mr)), (b2, .inl (g2, 400, .inl (upd ch k 1))), (b3, .inl (g3, 64, .inl kp)), (h0, .inr (0, [.ref a1, .ref a2, .ref a3, .int (nI N), .int fa])), (a1, .inl (k1, 400, .inl (pm_nf9 cn))), (a2, .inl (k2, 8000, .inl fl)), (a3, .inl (k3, 16, .inl rt))] H := hP
      have hD : va_D A [(m0, .inr (1, [.ref h0, .ref b1, .ref b2, .ref b3, .int (nI lim), .int (nI kc), .int (nI nr), .int (nI nf), .int (nI k)])), (b1, .inl (g1, 400, .inl mr)), (b2, .inl (g2, 400, .inl (upd ch k 1))), (b3, .inl (g3, 64, .inl kp)), (h0, .inr (0, [.ref a1, .ref a2, .ref a3, .int (nI N), .int fa])), (a1, .inl (k1, 400, .inl (pm_nf9 cn))), (a2, .inl (k2, 8000, .inl fl)), (a3, .inl (k3, 16, .inl rt))] := hD
      have e9 : (if k < nc then k else nc) = k := if_pos (by omega)
      exact W.vret hx hb hr (fun t ht hW => ⟨⟨(), rfl, trivial, by rw [ht, e9]; exact hP, va_K.moved hW.alike hK, by rw [e9]; exact hD⟩, hS.F ht⟩) hS.2.2 dX1_noteChange_31
  · exact absurd (pm_has_nI (by omega) hk) (by rw [hh_5]; decide)
