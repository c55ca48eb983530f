set_option maxHeartbeats 4000000 in
set_option maxRecDepth 100000 in
/-- Marker.markAllThatIsLeft() -/
theorem c_M_markAllThatIsLeft (l : Launch) (dC : Nat → ClassId) (dI : Nat → Nat → Nat) (m0 b1 b2 b3 : Nat) (g1 g2 g3 : ClassId) (mr ch kp : Nat → Int32) (lim kc nr nf nc : Nat) (h0 a1 a2 a3 : Nat) (k1 k2 k3 : ClassId) (N : Nat) (cn : Nat → Nat) (fl rt : Nat → Int32) (fa : Int32) (n9 : Nat) (sz : Nat) (hN : N ≤ 400) (hc : ∀ k, k < N → cn k ≤ 20) (hI : pm_Inv N cn fl (mr, ch, kp, lim, kc, nr, nf, nc)) (hn9 : n9 = 1000000) : Met l yX1_markAllThatIsLeft wsX1_markAllThatIsLeft ({ frames := 5, cells := 0, slots := 0, locals := 109 }) (va_Pc [.ref m0] (fun U => U.heap.size = sz ∧ va_P (dC, dI) vwCl [(m0, .inr (1, [.ref h0, .ref b1, .ref b2, .ref b3, .int (nI lim), .int (nI kc), .int (nI nr), .int (nI nf), .int (nI nc)])), (b1, .inl (g1, 400, .inl mr)), (b2, .inl (g2, 400, .inl ch)), (b3, .inl (g3, 64, .inl kp)), (h0, .inr (0, [.ref a1, .ref a2, .ref a3, .int (nI N), .int fa])), (a1, .inl (k1, 400, .inl (pm_nf9 cn))), (a2, .inl (k2, 8000, .inl fl)), (a3, .inl (k3, 16, .inl rt))] U.heap ∧ va_K (dC, dI) vwCl [(g1, .boolean), (g2, .boolean), (g3, .int), (k1, .int), (k2, .int), (k3, .int)] U ∧ va_D (fun _ => True) [(m0, .inr (1, [.ref h0, .ref b1, .ref b2, .ref b3, .int (nI lim), .int (nI kc), .int (nI nr), .int (nI nf), .int (nI nc)])), (b1, .inl (g1, 400, .inl mr)), (b2, .inl (g2, 400, .inl ch)), (b3, .inl (g3, 64, .inl kp)), (h0, .inr (0, [.ref a1, .ref a2, .ref a3, .int (nI N), .int fa])), (a1, .inl (k1, 400, .inl (pm_nf9 cn))), (a2, .inl (k2, 8000, .inl fl)), (a3, .inl (k3, 16, .inl rt))])) (va_Qv (fun (u : pm_M) => u = pm_fin n9 N cn fl rt (mr, ch, kp, lim, kc, nr, nf, nc)) (fun (u : pm_M) (t : State) => va_P (dC, dI) vwCl [(m0, .inr (1, [.ref h0, .ref b1, .ref b2, .ref b3, .int (nI (u.2.2.2.1)), .int (nI (u.2.2.2.2.1)), .int (nI (u.2.2.2.2.2.1)), .int (nI (u.2.2.2.2.2.2.1)), .int (nI (u.2.2.2.2.2.2.2))])), (b1, .inl (g1, 400, .inl (u.1))), (b2, .inl (g2, 400, .inl (u.2.1))), (b3, .inl (g3, 64, .inl (u.2.2.1))), (h0, .inr (0, [.ref a1, .ref a2, .ref a3, .int (nI N), .int fa])), (a1, .inl (k1, 400, .inl (pm_nf9 cn))), (a2, .inl (k2, 8000, .inl fl)), (a3, .inl (k3, 16, .inl rt))] t.heap ∧ va_K (dC, dI) vwCl [(g1, .boolean), (g2, .boolean), (g3, .int), (k1, .int), (k2, .int), (k3, .int)] t ∧ va_D (va_A [(m0, .inr (1, [.ref h0, .ref b1, .ref b2, .ref b3, .int (nI lim), .int (nI kc), .int (nI nr), .int (nI nf), .int (nI nc)])), (b1, .inl (g1, 400, .inl mr)), (b2, .inl (g2, 400, .inl ch)), (b3, .inl (g3, 64, .inl kp)), (h0, .inr (0, [.ref a1, .ref a2, .ref a3, .int (nI N), .int fa])), (a1, .inl (k1, 400, .inl (pm_nf9 cn))), (a2, .inl (k2, 8000, .inl fl)), (a3, .inl (k3, 16, .inl rt))] sz) [(m0, .inr (1, [.ref h0, .ref b1, .ref b2, .ref b3, .int (nI (u.2.2.2.1)), .int (nI (u.2.2.2.2.1)), .int (nI (u.2.2.2.2.2.1)), .int (nI (u.2.2.2.2.2.2.1)), .int (nI (u.2.2.2.2.2.2.2))])), (b1, .inl (g1, 400, .inl (u.1))), (b2, .inl (g2, 400, .inl (u.2.1))), (b3, .inl (g3, 64, .inl (u.2.2.1))), (h0, .inr (0, [.ref a1, .ref a2, .ref a3, .int (nI N), .int fa])), (a1, .inl (k1, 400, .inl (pm_nf9 cn))), (a2, .inl (k2, 8000, .inl fl)), (a3, .inl (k3, 16, .inl rt))]) (va_A [(m0, .inr (1, [.ref h0, .ref b1, .ref b2, .ref b3, .int (nI lim), .int (nI kc), .int (nI nr), .int (nI nf), .int (nI nc)])), (b1, .inl (g1, 400, .inl mr)), (b2, .inl (g2, 400, .inl ch)), (b3, .inl (g3, 64, .inl kp)), (h0, .inr (0, [.ref a1, .ref a2, .ref a3, .int (nI N), .int fa])), (a1, .inl (k1, 400, .inl (pm_nf9 cn))), (a2, .inl (k2, 8000, .inl fl)), (a3, .inl (k3, 16, .inl rt))] sz)) 0 0 (va_A [(m0, .inr (1, [.ref h0, .ref b1, .ref b2, .ref b3, .int (nI lim), .int (nI kc), .int (nI nr), .int (nI nf), .int (nI nc)])), (b1, .inl (g1, 400, .inl mr)), (b2, .inl (g2, 400, .inl ch)), (b3, .inl (g3, 64, .inl kp)), (h0, .inr (0, [.ref a1, .ref a2, .ref a3, .int (nI N), .int fa])), (a1, .inl (k1, 400, .inl (pm_nf9 cn))), (a2, .inl (k2, 8000, .inl fl)), (a3, .inl (k3, 16, .inl rt))] sz) := by
  refine Met.ofW (cc := cX1_markAllThatIsLeft) (maxL := 3) (ret := (none)) (by decide) rfl ?_
  intro p e s m args below meth c s₁ B hml hv
  obtain ⟨rfl, hsz, hP, hK, hD0⟩ := hv
  have hx := B.exec
  have hb := B.bytes
  have hr := B.returns
  have hts : ∀ w ∈ gw, w.before _ s = true := fun w h => atoms_spec (ws := wsX1_markAllThatIsLeft) B.pre w (List.mem_cons_of_mem _ h)
  have hown : s.vm.findClass RX1 = some m.cls := findClass_of_methodNamed B.named
  have hlocks := B.notSynchronized
  subst hsz
  have hD := hD0.self (sz := s.heap.size)
  generalize hAe : va_A [(m0, .inr (1, [.ref h0, .ref b1, .ref b2, .ref b3, .int (nI lim), .int (nI kc), .int (nI nr), .int (nI nf), .int (nI nc)])), (b1, .inl (g1, 400, .inl mr)), (b2, .inl (g2, 400, .inl ch)), (b3, .inl (g3, 64, .inl kp)), (h0, .inr (0, [.ref a1, .ref a2, .ref a3, .int (nI N), .int fa])), (a1, .inl (k1, 400, .inl (pm_nf9 cn))), (a2, .inl (k2, 8000, .inl fl)), (a3, .inl (k3, 16, .inl rt))] s.heap.size = A at hD ⊢
  have hA : ∀ q : Nat, s.heap.size ≤ q → A q := fun q h => by rw [← hAe]; exact Or.inr h
  have hP : va_P (dC, dI) vwCl [(m0, .inr (1, [.ref h0, .ref b1, .ref b2, .ref b3, .int (nI lim), .int (nI kc), .int (nI nr), .int (nI nf), .int (nI nc)])), (b1, .inl (g1, 400, .inl mr)), (b2, .inl (g2, 400, .inl ch)), (b3, .inl (g3, 64, .inl kp)), (h0, .inr (0, [.ref a1, .ref a2, .ref a3, .int (nI N), .int fa])), (a1, .inl (k1, 400, .inl (pm_nf9 cn))), (a2, .inl (k2, 8000, .inl fl)), (a3, .inl (k3, 16, .inl rt))] s.heap := hP
  have hl := lv_entry ([.ref m0]) (n := 3) (Nat.le_of_ble_eq_true rfl)
  rw [lg_entry_eq]
  generalize (lg_sl ([.ref m0]) ++ List.replicate (3 - (lg_sl ([.ref m0])).length) Slot.unset).toArray = ls at hl ⊢
  have hl : lv_has ls 3 [(0, .ref m0)] := hl
  obtain ⟨H, hH⟩ : ∃ H : Heap, H = s.heap := ⟨_, rfl⟩
  rw [← hH]
  rw [← hH] at hP
  have hS : va_S A s.heap H [] := by rw [hH]; exact va_S.rf
  clear hH
  refine lv_aload_n hx hb dX1_markAllThatIsLeft_0 rfl (lv_at hl 0 rfl) ?_
  refine lv_iconst (v := nI 0) hx hb dX1_markAllThatIsLeft_1 (by decide +kernel) ?_
  refine va_put (D := (dC, dI)) (ci := 1) (v := .int (nI 0)) (ty := .int) (C := RX1) (T := TX1) (N := 9) hx hb hts iw_X1 tyX1 tyX1_ok nmX1 hown hK hP hD hS 0 rfl rfl 6 (by decide) (hts _ mf_X1_33) (fun _ h9 => h9) rfl (by decide +kernel) (rfl) (rfl) (Nat.le_of_ble_eq_true rfl) dX1_markAllThatIsLeft_2 (fun H locs hP hD hS => ?_)
  have hP : va_P (dC, dI) vwCl [(m0, .inr (1, [.ref h0, .ref b1, .ref b2, .ref b3, .int (nI lim), .int (nI kc), .int (nI 0), .int (nI nf), .int (nI nc)])), (b1, .inl (g1, 400, .inl mr)), (b2, .inl (g2, 400, .inl ch)), (b3, .inl (g3, 64, .inl kp)), (h0, .inr (0, [.ref a1, .ref a2, .ref a3, .int (nI N), .int fa])), (a1, .inl (k1, 400, .inl (pm_nf9 cn))), (a2, .inl (k2, 8000, .inl fl)), (a3, .inl (k3, 16, .inl rt))] H := hP
  have hD : va_D A [(m0, .inr (1, [.ref h0, .ref b1, .ref b2, .ref b3, .int (nI lim), .int (nI kc), .int (nI 0), .int (nI nf), .int (nI nc)])), (b1, .inl (g1, 400, .inl mr)), (b2, .inl (g2, 400, .inl ch)), (b3, .inl (g3, 64, .inl kp)), (h0, .inr (0, [.ref a1, .ref a2, .ref a3, .int (nI N), .int fa])), (a1, .inl (k1, 400, .inl (pm_nf9 cn))), (a2, .inl (k2, 8000, .inl fl)), (a3, .inl (k3, 16, .inl rt))] := hD
  refine lv_iconst (v := nI 1) hx hb dX1_markAllThatIsLeft_5 (by decide +kernel) ?_
  refine lv_istore_n (lv' := [(1, .int (nI 1)), (0, .ref m0)]) hx hb dX1_markAllThatIsLeft_6 rfl hl (by decide) rfl (fun ls hl => ?_)
  refine lv_iconst (v := nI 0) hx hb dX1_markAllThatIsLeft_7 (by decide +kernel) ?_
  refine lv_istore_n (lv' := [(2, .int (nI 0)), (1, .int (nI 1)), (0, .ref m0)]) hx hb dX1_markAllThatIsLeft_8 rfl hl (by decide) rfl (fun ls hl => ?_)
  have hI0 : pm_Inv N cn fl (mr, ch, kp, lim, kc, 0, nf, nc) := ⟨⟨hI.1.1, hI.1.2.1, Nat.zero_le _, hI.1.2.2.2.1, hI.1.2.2.2.2⟩, hI.2.1, hI.2.2.1, hI.2.2.2⟩
  have hl : lv_has ls 3 [(2, .int (nI 0)), (1, .int (pm_b true)), (0, .ref m0)] := hl
  refine lp_loop (σ := Nat × Bool × (Nat → Int32) × (Nat → Int32) × (Nat → Int32) × Nat × Nat × Nat × Nat × Nat) (head := 9) (fun x H locs ls => match x with | (i, b, mk1, ch1, kp1, lim1, kc1, nr1, nf1, nc1) => i ≤ n9 ∧ pm_Inv N cn fl (mk1, ch1, kp1, lim1, kc1, nr1, nf1, nc1) ∧ pm_tg (pm_fs N cn fl rt) b (n9 - i) (mk1, ch1, kp1, lim1, kc1, nr1, nf1, nc1) = pm_fin n9 N cn fl rt (mr, ch, kp, lim, kc, nr, nf, nc) ∧ va_P (dC, dI) vwCl [(m0, .inr (1, [.ref h0, .ref b1, .ref b2, .ref b3, .int (nI lim1), .int (nI kc1), .int (nI nr1), .int (nI nf1), .int (nI nc1)])), (b1, .inl (g1, 400, .inl mk1)), (b2, .inl (g2, 400, .inl ch1)), (b3, .inl (g3, 64, .inl kp1)), (h0, .inr (0, [.ref a1, .ref a2, .ref a3, .int (nI N), .int fa])), (a1, .inl (k1, 400, .inl (pm_nf9 cn))), (a2, .inl (k2, 8000, .inl fl)), (a3, .inl (k3, 16, .inl rt))] H ∧ va_D A [(m0, .inr (1, [.ref h0, .ref b1, .ref b2, .ref b3, .int (nI lim1), .int (nI kc1), .int (nI nr1), .int (nI nf1), .int (nI nc1)])), (b1, .inl (g1, 400, .inl mk1)), (b2, .inl (g2, 400, .inl ch1)), (b3, .inl (g3, 64, .inl kp1)), (h0, .inr (0, [.ref a1, .ref a2, .ref a3, .int (nI N), .int fa])), (a1, .inl (k1, 400, .inl (pm_nf9 cn))), (a2, .inl (k2, 8000, .inl fl)), (a3, .inl (k3, 16, .inl rt))] ∧ va_S A s.heap H locs ∧ lv_has ls 3 [(2, .int (nI i)), (1, .int (pm_b b)), (0, .ref m0)]) (fun x => match x with | (i, b, mk1, ch1, kp1, lim1, kc1, nr1, nf1, nc1) => n9 - i) ?_ (0, true, mr, ch, kp, lim, kc, 0, nf, nc) _ _ _ ⟨Nat.zero_le _, hI0, rfl, hP, hD, hS, lv_sub hl [0, 1, 2] rfl⟩
  intro x H locs ls hI ih
  obtain ⟨i, b, mk1, ch1, kp1, lim1, kc1, nr1, nf1, nc1⟩ := x
  obtain ⟨hi, hI1, hT, hP, hD, hS, hl⟩ := hI
  dsimp only at ih
  refine lv_iload_n hx hb dX1_markAllThatIsLeft_9 rfl (lv_at hl 0 rfl) ?_
  refine lv_ldc (v := nI 1000000) hx hb hown (hts _ mo_X1_55) dX1_markAllThatIsLeft_10 ?_
  refine lv_icmp_ge (tgt := 45) hx hb dX1_markAllThatIsLeft_12 (by decide) (fun c_12 => ?_) (fun c_12 => ?_)
  · rw [nI_leI (by omega) (by omega)] at c_12
    exact W.vret hx hb hr (fun t ht hW => ⟨⟨(mk1, ch1, kp1, lim1, kc1, nr1, nf1, nc1), rfl, pm_tg0 hT (by omega), by rw [ht]; exact hP, va_K.moved hW.alike hK, hD⟩, hS.F ht⟩) hS.2.2 dX1_markAllThatIsLeft_45
  · rw [nI_leI (by omega) (by omega)] at c_12
    cases b with
    | true =>
      have hl : lv_has ls 3 [(2, .int (nI i)), (1, .int (nI 1)), (0, .ref m0)] := hl
      refine lv_iload_n hx hb dX1_markAllThatIsLeft_15 rfl (lv_at hl 1 rfl) ?_
      refine lv_if_eq (tgt := 45) hx hb dX1_markAllThatIsLeft_16 (by decide) (fun c_16 => absurd c_16 (by decide +kernel)) (fun c_16 => ?_)
      refine lv_aload_n hx hb dX1_markAllThatIsLeft_19 rfl (lv_at hl 2 rfl) ?_
      have hPc := hP.sub (ws' := [(m0, .inr (1, [.ref h0, .ref b1, .ref b2, .ref b3, .int (nI lim1), .int (nI kc1), .int (nI nr1), .int (nI nf1), .int (nI nc1)])), (b1, .inl (g1, 400, .inl mk1)), (b2, .inl (g2, 400, .inl ch1)), (b3, .inl (g3, 64, .inl kp1)), (h0, .inr (0, [.ref a1, .ref a2, .ref a3, .int (nI N), .int fa])), (a1, .inl (k1, 400, .inl (pm_nf9 cn))), (a2, .inl (k2, 8000, .inl fl)), (a3, .inl (k3, 16, .inl rt))]) [0, 1, 2, 3, 4, 5, 6, 7] rfl
      have hDc := hD.sub (ws' := [(m0, .inr (1, [.ref h0, .ref b1, .ref b2, .ref b3, .int (nI lim1), .int (nI kc1), .int (nI nr1), .int (nI nf1), .int (nI nc1)])), (b1, .inl (g1, 400, .inl mk1)), (b2, .inl (g2, 400, .inl ch1)), (b3, .inl (g3, 64, .inl kp1)), (h0, .inr (0, [.ref a1, .ref a2, .ref a3, .int (nI N), .int fa])), (a1, .inl (k1, 400, .inl (pm_nf9 cn))), (a2, .inl (k2, 8000, .inl fl)), (a3, .inl (k3, 16, .inl rt))]) [0, 1, 2, 3, 4, 5, 6, 7] (by decide) rfl
      have hKc := hK.sub (tys' := [(g1, .boolean), (g2, .boolean), (g3, .int), (k1, .int), (k2, .int), (k3, .int)]) [0, 1, 2, 3, 4, 5] rfl
      have hFc := va_free (wc := [(m0, .inr (1, [.ref h0, .ref b1, .ref b2, .ref b3, .int (nI lim1), .int (nI kc1), .int (nI nr1), .int (nI nf1), .int (nI nc1)])), (b1, .inl (g1, 400, .inl mk1)), (b2, .inl (g2, 400, .inl ch1)), (b3, .inl (g3, 64, .inl kp1)), (h0, .inr (0, [.ref a1, .ref a2, .ref a3, .int (nI N), .int fa])), (a1, .inl (k1, 400, .inl (pm_nf9 cn))), (a2, .inl (k2, 8000, .inl fl)), (a3, .inl (k3, 16, .inl rt))]) hD hS hA [0, 1, 2, 3, 4, 5, 6, 7] rfl
      refine va_calli (va_runV (As := []) (rest := []) ⟨hx, hb, hml, hown, hts⟩ (c_M_markStep l dC dI m0 b1 b2 b3 g1 g2 g3 mk1 ch1 kp1 lim1 kc1 nr1 nf1 nc1 h0 a1 a2 a3 k1 k2 k3 N cn fl rt fa H.size (hN) (hc) (hI1.1.1) (hI1.1.2.1) (hI1.1.2.2.1) (hI1.1.2.2.2.1) (hI1.1.2.2.2.2)) (cwV 0 hts (gw_V ml_X1_48 mi_X1_markStep ms_X1_markStep mn_X1 mc_X1_markStep) rfl rfl rfl (by decide +kernel) ⟨Nat.le_of_ble_eq_true rfl, Nat.le_of_ble_eq_true rfl⟩) ⟨fun a U g mk q => by obtain ⟨q0, q1, qP, qK, qD⟩ := q; exact ⟨q0, q1, qP, va_K.moved (u := U) (U := U.calling g mk a) (Vm.Alike.refl U.vm) qK, qD⟩, va_recv hKc hPc (ci := 1) (q0 := 0) rfl rfl, fun U hU hW => ⟨rfl, by rw [hU], by rw [hU]; exact hPc, va_K.moved hW.alike hKc, hDc.weaken (fun _ _ _ _ => trivial)⟩⟩ rfl rfl hl.1 rfl (lv_room (Nat.le_of_ble_eq_true rfl)) dX1_markAllThatIsLeft_20 ⟨Nat.le_of_ble_eq_true rfl, Nat.le_of_ble_eq_true rfl⟩) hS (fun q _ h => hFc q h) hFc (fun r_1 u t H1 locs ht hvm hw hB hz1 hk1 hS => ?_)
      obtain ⟨mk2, ch2, kp2, lim2, kc2, nr2, nf2, nc2⟩ := u
      obtain ⟨hP1, hK1, hD1⟩ := hB
      rw [ht] at hP1
      have hK1 := va_K.moved hvm.symm hK1
      obtain ⟨hP, hD⟩ := va_join (wr := []) (w1 := [(m0, .inr (1, [.ref h0, .ref b1, .ref b2, .ref b3, .int (nI lim2), .int (nI kc2), .int (nI nr2), .int (nI nf2), .int (nI nc2)])), (b1, .inl (g1, 400, .inl mk2)), (b2, .inl (g2, 400, .inl ch2)), (b3, .inl (g3, 64, .inl kp2)), (h0, .inr (0, [.ref a1, .ref a2, .ref a3, .int (nI N), .int fa])), (a1, .inl (k1, 400, .inl (pm_nf9 cn))), (a2, .inl (k2, 8000, .inl fl)), (a3, .inl (k3, 16, .inl rt))]) hP hD [0, 1, 2, 3, 4, 5, 6, 7] [] rfl rfl (by decide) (by decide) hk1 hFc hP1 hD1
      clear hPc hDc hKc hFc hP1 hK1 hD1
      generalize H1 = H at hP hS ⊢
      have hP : va_P (dC, dI) vwCl [(m0, .inr (1, [.ref h0, .ref b1, .ref b2, .ref b3, .int (nI lim2), .int (nI kc2), .int (nI nr2), .int (nI nf2), .int (nI nc2)])), (b1, .inl (g1, 400, .inl mk2)), (b2, .inl (g2, 400, .inl ch2)), (b3, .inl (g3, 64, .inl kp2)), (h0, .inr (0, [.ref a1, .ref a2, .ref a3, .int (nI N), .int fa])), (a1, .inl (k1, 400, .inl (pm_nf9 cn))), (a2, .inl (k2, 8000, .inl fl)), (a3, .inl (k3, 16, .inl rt))] H := hP.sub [0, 1, 2, 3, 4, 5, 6, 7] rfl
      have hD : va_D A [(m0, .inr (1, [.ref h0, .ref b1, .ref b2, .ref b3, .int (nI lim2), .int (nI kc2), .int (nI nr2), .int (nI nf2), .int (nI nc2)])), (b1, .inl (g1, 400, .inl mk2)), (b2, .inl (g2, 400, .inl ch2)), (b3, .inl (g3, 64, .inl kp2)), (h0, .inr (0, [.ref a1, .ref a2, .ref a3, .int (nI N), .int fa])), (a1, .inl (k1, 400, .inl (pm_nf9 cn))), (a2, .inl (k2, 8000, .inl fl)), (a3, .inl (k3, 16, .inl rt))] := hD.sub [0, 1, 2, 3, 4, 5, 6, 7] (by decide) rfl
      obtain ⟨hw, hw2⟩ := hw
      rcases pm_tf ((pm_ms N cn fl rt (mk1, ch1, kp1, lim1, kc1, nr1, nf1, nc1)).1) with hh_20 | hh_20
      · obtain rfl : r_1 = nI 1 := hw.trans (by rw [hh_20]; rfl)
        refine lv_if_ne (tgt := 33) hx hb dX1_markAllThatIsLeft_23 (by decide) (fun c_23 => ?_) (fun c_23 => absurd c_23 (by decide +kernel))
        refine lv_iconst (v := nI 1) hx hb dX1_markAllThatIsLeft_33 (by decide +kernel) ?_
        refine lv_goto (tgt := 38) hx hb dX1_markAllThatIsLeft_34 (by decide) ?_
        refine lv_istore_n (lv' := [(1, .int (nI 1)), (2, .int (nI i)), (0, .ref m0)]) hx hb dX1_markAllThatIsLeft_38 rfl hl (by decide) rfl (fun ls hl => ?_)
        refine lv_iinc (v := nI (i + 1)) (lv' := [(2, .int (nI (i + 1))), (1, .int (nI 1)), (0, .ref m0)]) hx hb dX1_markAllThatIsLeft_39 hl (k := 1) rfl (nI_1 _) (by decide) rfl (fun ls hl => ?_)
        refine lv_goto (tgt := 9) hx hb dX1_markAllThatIsLeft_42 (by decide) ?_
        have hl : lv_has ls 3 [(2, .int (nI (i + 1))), (1, .int (pm_b true)), (0, .ref m0)] := hl
        exact ih (i + 1, true, mk2, ch2, kp2, lim2, kc2, nr2, nf2, nc2) _ _ _ ⟨by omega, by rw [hw2]; exact (pm_ms_ok (rt := rt) hN hI1).1, by rw [hw2]; exact (pm_fsA hh_20 (by omega)).trans hT, hP, hD, hS, lv_sub hl [0, 1, 2] rfl⟩ (by omega)
      · obtain rfl : r_1 = nI 0 := hw.trans (by rw [hh_20]; rfl)
        have hI2 : pm_Inv N cn fl (mk2, ch2, kp2, lim2, kc2, nr2, nf2, nc2) := by rw [hw2]; exact (pm_ms_ok (rt := rt) hN hI1).1
        refine lv_if_ne (tgt := 33) hx hb dX1_markAllThatIsLeft_23 (by decide) (fun c_23 => absurd c_23 (by decide +kernel)) (fun c_23 => ?_)
        refine lv_aload_n hx hb dX1_markAllThatIsLeft_26 rfl (lv_at hl 2 rfl) ?_
        have hPc := hP.sub (ws' := [(m0, .inr (1, [.ref h0, .ref b1, .ref b2, .ref b3, .int (nI lim2), .int (nI kc2), .int (nI nr2), .int (nI nf2), .int (nI nc2)])), (b1, .inl (g1, 400, .inl mk2)), (b2, .inl (g2, 400, .inl ch2)), (b3, .inl (g3, 64, .inl kp2)), (h0, .inr (0, [.ref a1, .ref a2, .ref a3, .int (nI N), .int fa])), (a1, .inl (k1, 400, .inl (pm_nf9 cn))), (a2, .inl (k2, 8000, .inl fl)), (a3, .inl (k3, 16, .inl rt))]) [0, 1, 2, 3, 4, 5, 6, 7] rfl
        have hDc := hD.sub (ws' := [(m0, .inr (1, [.ref h0, .ref b1, .ref b2, .ref b3, .int (nI lim2), .int (nI kc2), .int (nI nr2), .int (nI nf2), .int (nI nc2)])), (b1, .inl (g1, 400, .inl mk2)), (b2, .inl (g2, 400, .inl ch2)), (b3, .inl (g3, 64, .inl kp2)), (h0, .inr (0, [.ref a1, .ref a2, .ref a3, .int (nI N), .int fa])), (a1, .inl (k1, 400, .inl (pm_nf9 cn))), (a2, .inl (k2, 8000, .inl fl)), (a3, .inl (k3, 16, .inl rt))]) [0, 1, 2, 3, 4, 5, 6, 7] (by decide) rfl
        have hKc := hK.sub (tys' := [(g1, .boolean), (g2, .boolean), (g3, .int), (k1, .int), (k2, .int), (k3, .int)]) [0, 1, 2, 3, 4, 5] rfl
        have hFc := va_free (wc := [(m0, .inr (1, [.ref h0, .ref b1, .ref b2, .ref b3, .int (nI lim2), .int (nI kc2), .int (nI nr2), .int (nI nf2), .int (nI nc2)])), (b1, .inl (g1, 400, .inl mk2)), (b2, .inl (g2, 400, .inl ch2)), (b3, .inl (g3, 64, .inl kp2)), (h0, .inr (0, [.ref a1, .ref a2, .ref a3, .int (nI N), .int fa])), (a1, .inl (k1, 400, .inl (pm_nf9 cn))), (a2, .inl (k2, 8000, .inl fl)), (a3, .inl (k3, 16, .inl rt))]) hD hS hA [0, 1, 2, 3, 4, 5, 6, 7] rfl
        refine va_calli (va_runV (As := []) (rest := []) ⟨hx, hb, hml, hown, hts⟩ (c_M_cleanStep l dC dI m0 b1 b2 b3 g1 g2 g3 mk2 ch2 kp2 lim2 kc2 nr2 nf2 nc2 h0 a1 a2 a3 k1 k2 k3 N cn fl rt fa H.size (hN) (hc) (hI2.1.1) (hI2.1.2.1) (hI2.1.2.2.1) (hI2.1.2.2.2.1) (hI2.1.2.2.2.2)) (cwV 0 hts (gw_V ml_X1_52 mi_X1_cleanStep ms_X1_cleanStep mn_X1 mc_X1_cleanStep) rfl rfl rfl (by decide +kernel) ⟨Nat.le_of_ble_eq_true rfl, Nat.le_of_ble_eq_true rfl⟩) ⟨fun a U g mk q => by obtain ⟨q0, q1, qP, qK, qD⟩ := q; exact ⟨q0, q1, qP, va_K.moved (u := U) (U := U.calling g mk a) (Vm.Alike.refl U.vm) qK, qD⟩, va_recv hKc hPc (ci := 1) (q0 := 0) rfl rfl, fun U hU hW => ⟨rfl, by rw [hU], by rw [hU]; exact hPc, va_K.moved hW.alike hKc, hDc.weaken (fun _ _ _ _ => trivial)⟩⟩ rfl rfl hl.1 rfl (lv_room (Nat.le_of_ble_eq_true rfl)) dX1_markAllThatIsLeft_27 ⟨Nat.le_of_ble_eq_true rfl, Nat.le_of_ble_eq_true rfl⟩) hS (fun q _ h => hFc q h) hFc (fun r_2 u t H1 locs ht hvm hw hB hz1 hk1 hS => ?_)
        obtain ⟨mk3, ch3, kp3, lim3, kc3, nr3, nf3, nc3⟩ := u
        obtain ⟨hP1, hK1, hD1⟩ := hB
        rw [ht] at hP1
        have hK1 := va_K.moved hvm.symm hK1
        obtain ⟨hP, hD⟩ := va_join (wr := []) (w1 := [(m0, .inr (1, [.ref h0, .ref b1, .ref b2, .ref b3, .int (nI lim3), .int (nI kc3), .int (nI nr3), .int (nI nf3), .int (nI nc3)])), (b1, .inl (g1, 400, .inl mk3)), (b2, .inl (g2, 400, .inl ch3)), (b3, .inl (g3, 64, .inl kp3)), (h0, .inr (0, [.ref a1, .ref a2, .ref a3, .int (nI N), .int fa])), (a1, .inl (k1, 400, .inl (pm_nf9 cn))), (a2, .inl (k2, 8000, .inl fl)), (a3, .inl (k3, 16, .inl rt))]) hP hD [0, 1, 2, 3, 4, 5, 6, 7] [] rfl rfl (by decide) (by decide) hk1 hFc hP1 hD1
        clear hPc hDc hKc hFc hP1 hK1 hD1
        generalize H1 = H at hP hS ⊢
        have hP : va_P (dC, dI) vwCl [(m0, .inr (1, [.ref h0, .ref b1, .ref b2, .ref b3, .int (nI lim3), .int (nI kc3), .int (nI nr3), .int (nI nf3), .int (nI nc3)])), (b1, .inl (g1, 400, .inl mk3)), (b2, .inl (g2, 400, .inl ch3)), (b3, .inl (g3, 64, .inl kp3)), (h0, .inr (0, [.ref a1, .ref a2, .ref a3, .int (nI N), .int fa])), (a1, .inl (k1, 400, .inl (pm_nf9 cn))), (a2, .inl (k2, 8000, .inl fl)), (a3, .inl (k3, 16, .inl rt))] H := hP.sub [0, 1, 2, 3, 4, 5, 6, 7] rfl
        have hD : va_D A [(m0, .inr (1, [.ref h0, .ref b1, .ref b2, .ref b3, .int (nI lim3), .int (nI kc3), .int (nI nr3), .int (nI nf3), .int (nI nc3)])), (b1, .inl (g1, 400, .inl mk3)), (b2, .inl (g2, 400, .inl ch3)), (b3, .inl (g3, 64, .inl kp3)), (h0, .inr (0, [.ref a1, .ref a2, .ref a3, .int (nI N), .int fa])), (a1, .inl (k1, 400, .inl (pm_nf9 cn))), (a2, .inl (k2, 8000, .inl fl)), (a3, .inl (k3, 16, .inl rt))] := hD.sub [0, 1, 2, 3, 4, 5, 6, 7] (by decide) rfl
        obtain ⟨hw, hw3⟩ := hw
        rcases pm_tf ((pm_cs N cn fl (mk2, ch2, kp2, lim2, kc2, nr2, nf2, nc2)).1) with hh_27 | hh_27
        · obtain rfl : r_2 = nI 1 := hw.trans (by rw [hh_27]; rfl)
          refine lv_if_eq (tgt := 37) hx hb dX1_markAllThatIsLeft_30 (by decide) (fun c_30 => absurd c_30 (by decide +kernel)) (fun c_30 => ?_)
          refine lv_iconst (v := nI 1) hx hb dX1_markAllThatIsLeft_33 (by decide +kernel) ?_
          refine lv_goto (tgt := 38) hx hb dX1_markAllThatIsLeft_34 (by decide) ?_
          refine lv_istore_n (lv' := [(1, .int (nI 1)), (2, .int (nI i)), (0, .ref m0)]) hx hb dX1_markAllThatIsLeft_38 rfl hl (by decide) rfl (fun ls hl => ?_)
          refine lv_iinc (v := nI (i + 1)) (lv' := [(2, .int (nI (i + 1))), (1, .int (nI 1)), (0, .ref m0)]) hx hb dX1_markAllThatIsLeft_39 hl (k := 1) rfl (nI_1 _) (by decide) rfl (fun ls hl => ?_)
          refine lv_goto (tgt := 9) hx hb dX1_markAllThatIsLeft_42 (by decide) ?_
          have hl : lv_has ls 3 [(2, .int (nI (i + 1))), (1, .int (pm_b true)), (0, .ref m0)] := hl
          exact ih (i + 1, true, mk3, ch3, kp3, lim3, kc3, nr3, nf3, nc3) _ _ _ ⟨by omega, by rw [hw3]; exact (pm_cs_ok (rt := rt) hN hI2).1, by rw [hw3, hw2]; exact (pm_fsB hh_20 (hw2 ▸ hh_27) (by omega)).trans hT, hP, hD, hS, lv_sub hl [0, 1, 2] rfl⟩ (by omega)
        · obtain rfl : r_2 = nI 0 := hw.trans (by rw [hh_27]; rfl)
          refine lv_if_eq (tgt := 37) hx hb dX1_markAllThatIsLeft_30 (by decide) (fun c_30 => ?_) (fun c_30 => absurd c_30 (by decide +kernel))
          refine lv_iconst (v := nI 0) hx hb dX1_markAllThatIsLeft_37 (by decide +kernel) ?_
          refine lv_istore_n (lv' := [(1, .int (nI 0)), (2, .int (nI i)), (0, .ref m0)]) hx hb dX1_markAllThatIsLeft_38 rfl hl (by decide) rfl (fun ls hl => ?_)
          refine lv_iinc (v := nI (i + 1)) (lv' := [(2, .int (nI (i + 1))), (1, .int (nI 0)), (0, .ref m0)]) hx hb dX1_markAllThatIsLeft_39 hl (k := 1) rfl (nI_1 _) (by decide) rfl (fun ls hl => ?_)
          refine lv_goto (tgt := 9) hx hb dX1_markAllThatIsLeft_42 (by decide) ?_
          have hl : lv_has ls 3 [(2, .int (nI (i + 1))), (1, .int (pm_b false)), (0, .ref m0)] := hl
          exact ih (i + 1, false, mk3, ch3, kp3, lim3, kc3, nr3, nf3, nc3) _ _ _ ⟨by omega, by rw [hw3]; exact (pm_cs_ok (rt := rt) hN hI2).1, by rw [hw3, hw2]; exact (pm_fsC hh_20 (hw2 ▸ hh_27) (by omega)).trans hT, hP, hD, hS, lv_sub hl [0, 1, 2] rfl⟩ (by omega)
    | false =>
      have hl : lv_has ls 3 [(2, .int (nI i)), (1, .int (nI 0)), (0, .ref m0)] := hl
      refine lv_iload_n hx hb dX1_markAllThatIsLeft_15 rfl (lv_at hl 1 rfl) ?_
      refine lv_if_eq (tgt := 45) hx hb dX1_markAllThatIsLeft_16 (by decide) (fun c_16 => ?_) (fun c_16 => absurd c_16 (by decide +kernel))
      exact W.vret hx hb hr (fun t ht hW => ⟨⟨(mk1, ch1, kp1, lim1, kc1, nr1, nf1, nc1), rfl, hT, by rw [ht]; exact hP, va_K.moved hW.alike hK, hD⟩, hS.F ht⟩) hS.2.2 dX1_markAllThatIsLeft_45
