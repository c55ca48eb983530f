set_option maxHeartbeats 4000000 in
set_option maxRecDepth 100000 in
/-- Marker.markStep() -/
theorem c_M_markStep (l : Launch) (dC : Nat → ClassId) (dI : Nat → Nat → Nat) (m0 b1 b2 b3 : Nat) (g1 g2 g3 : ClassId) (mr ch kp : Nat → Int32) (lim kc nr nf nc : Nat) (h0 a1 a2 a3 : Nat) (k1 k2 k3 : ClassId) (N : Nat) (cn : Nat → Nat) (fl rt : Nat → Int32) (fa : Int32) (sz : Nat) (hN : N ≤ 400) (hc : ∀ k, k < N → cn k ≤ 20) (hlim : lim ≤ 64) (hkc : kc ≤ 64) (hnr : nr ≤ 16) (hnf : nf ≤ 400) (hnc : nc ≤ 400) : Met l yX1_markStep wsX1_markStep ({ frames := 4, cells := 0, slots := 0, locals := 88 }) (va_Pc [.ref m0] (fun U => U.heap.size = sz ∧ va_P (dC, dI) vwCl [(m0, .inr (1, [.ref h0, .ref b1, .ref b2, .ref b3, .int (nI lim), .int (nI kc), .int (nI nr), .int (nI nf), .int (nI nc)])), (b1, .inl (g1, 400, .inl mr)), (b2, .inl (g2, 400, .inl ch)), (b3, .inl (g3, 64, .inl kp)), (h0, .inr (0, [.ref a1, .ref a2, .ref a3, .int (nI N), .int fa])), (a1, .inl (k1, 400, .inl (pm_nf9 cn))), (a2, .inl (k2, 8000, .inl fl)), (a3, .inl (k3, 16, .inl rt))] U.heap ∧ va_K (dC, dI) vwCl [(g1, .boolean), (g2, .boolean), (g3, .int), (k1, .int), (k2, .int), (k3, .int)] U ∧ va_D (fun _ => True) [(m0, .inr (1, [.ref h0, .ref b1, .ref b2, .ref b3, .int (nI lim), .int (nI kc), .int (nI nr), .int (nI nf), .int (nI nc)])), (b1, .inl (g1, 400, .inl mr)), (b2, .inl (g2, 400, .inl ch)), (b3, .inl (g3, 64, .inl kp)), (h0, .inr (0, [.ref a1, .ref a2, .ref a3, .int (nI N), .int fa])), (a1, .inl (k1, 400, .inl (pm_nf9 cn))), (a2, .inl (k2, 8000, .inl fl)), (a3, .inl (k3, 16, .inl rt))])) (va_Qi (fun (r : Int32) (u : pm_M) => r = pm_b (pm_ms N cn fl rt (mr, ch, kp, lim, kc, nr, nf, nc)).1 ∧ u = (pm_ms N cn fl rt (mr, ch, kp, lim, kc, nr, nf, nc)).2) (fun (u : pm_M) (t : State) => va_P (dC, dI) vwCl [(m0, .inr (1, [.ref h0, .ref b1, .ref b2, .ref b3, .int (nI (u.2.2.2.1)), .int (nI (u.2.2.2.2.1)), .int (nI (u.2.2.2.2.2.1)), .int (nI (u.2.2.2.2.2.2.1)), .int (nI (u.2.2.2.2.2.2.2))])), (b1, .inl (g1, 400, .inl (u.1))), (b2, .inl (g2, 400, .inl (u.2.1))), (b3, .inl (g3, 64, .inl (u.2.2.1))), (h0, .inr (0, [.ref a1, .ref a2, .ref a3, .int (nI N), .int fa])), (a1, .inl (k1, 400, .inl (pm_nf9 cn))), (a2, .inl (k2, 8000, .inl fl)), (a3, .inl (k3, 16, .inl rt))] t.heap ∧ va_K (dC, dI) vwCl [(g1, .boolean), (g2, .boolean), (g3, .int), (k1, .int), (k2, .int), (k3, .int)] t ∧ va_D (va_A [(m0, .inr (1, [.ref h0, .ref b1, .ref b2, .ref b3, .int (nI lim), .int (nI kc), .int (nI nr), .int (nI nf), .int (nI nc)])), (b1, .inl (g1, 400, .inl mr)), (b2, .inl (g2, 400, .inl ch)), (b3, .inl (g3, 64, .inl kp)), (h0, .inr (0, [.ref a1, .ref a2, .ref a3, .int (nI N), .int fa])), (a1, .inl (k1, 400, .inl (pm_nf9 cn))), (a2, .inl (k2, 8000, .inl fl)), (a3, .inl (k3, 16, .inl rt))] sz) [(m0, .inr (1, [.ref h0, .ref b1, .ref b2, .ref b3, .int (nI (u.2.2.2.1)), .int (nI (u.2.2.2.2.1)), .int (nI (u.2.2.2.2.2.1)), .int (nI (u.2.2.2.2.2.2.1)), .int (nI (u.2.2.2.2.2.2.2))])), (b1, .inl (g1, 400, .inl (u.1))), (b2, .inl (g2, 400, .inl (u.2.1))), (b3, .inl (g3, 64, .inl (u.2.2.1))), (h0, .inr (0, [.ref a1, .ref a2, .ref a3, .int (nI N), .int fa])), (a1, .inl (k1, 400, .inl (pm_nf9 cn))), (a2, .inl (k2, 8000, .inl fl)), (a3, .inl (k3, 16, .inl rt))]) (va_A [(m0, .inr (1, [.ref h0, .ref b1, .ref b2, .ref b3, .int (nI lim), .int (nI kc), .int (nI nr), .int (nI nf), .int (nI nc)])), (b1, .inl (g1, 400, .inl mr)), (b2, .inl (g2, 400, .inl ch)), (b3, .inl (g3, 64, .inl kp)), (h0, .inr (0, [.ref a1, .ref a2, .ref a3, .int (nI N), .int fa])), (a1, .inl (k1, 400, .inl (pm_nf9 cn))), (a2, .inl (k2, 8000, .inl fl)), (a3, .inl (k3, 16, .inl rt))] sz)) 0 0 (va_A [(m0, .inr (1, [.ref h0, .ref b1, .ref b2, .ref b3, .int (nI lim), .int (nI kc), .int (nI nr), .int (nI nf), .int (nI nc)])), (b1, .inl (g1, 400, .inl mr)), (b2, .inl (g2, 400, .inl ch)), (b3, .inl (g3, 64, .inl kp)), (h0, .inr (0, [.ref a1, .ref a2, .ref a3, .int (nI N), .int fa])), (a1, .inl (k1, 400, .inl (pm_nf9 cn))), (a2, .inl (k2, 8000, .inl fl)), (a3, .inl (k3, 16, .inl rt))] sz) := by
  refine Met.ofW (cc := cX1_markStep) (maxL := 2) (ret := (some .boolean)) (by decide) rfl ?_
  intro p e s m args below meth c s₁ B hml hv
  obtain ⟨rfl, hsz, hP, hK, hD0⟩ := hv
  have hx := B.exec
  have hb := B.bytes
  have hr := B.returns
  have hts : ∀ w ∈ gw, w.before _ s = true := fun w h => atoms_spec (ws := wsX1_markStep) B.pre w (List.mem_cons_of_mem _ h)
  have hown : s.vm.findClass RX1 = some m.cls := findClass_of_methodNamed B.named
  have hlocks := B.notSynchronized
  subst hsz
  have hD := hD0.self (sz := s.heap.size)
  generalize hAe : va_A [(m0, .inr (1, [.ref h0, .ref b1, .ref b2, .ref b3, .int (nI lim), .int (nI kc), .int (nI nr), .int (nI nf), .int (nI nc)])), (b1, .inl (g1, 400, .inl mr)), (b2, .inl (g2, 400, .inl ch)), (b3, .inl (g3, 64, .inl kp)), (h0, .inr (0, [.ref a1, .ref a2, .ref a3, .int (nI N), .int fa])), (a1, .inl (k1, 400, .inl (pm_nf9 cn))), (a2, .inl (k2, 8000, .inl fl)), (a3, .inl (k3, 16, .inl rt))] s.heap.size = A at hD ⊢
  have hA : ∀ q : Nat, s.heap.size ≤ q → A q := fun q h => by rw [← hAe]; exact Or.inr h
  have hP : va_P (dC, dI) vwCl [(m0, .inr (1, [.ref h0, .ref b1, .ref b2, .ref b3, .int (nI lim), .int (nI kc), .int (nI nr), .int (nI nf), .int (nI nc)])), (b1, .inl (g1, 400, .inl mr)), (b2, .inl (g2, 400, .inl ch)), (b3, .inl (g3, 64, .inl kp)), (h0, .inr (0, [.ref a1, .ref a2, .ref a3, .int (nI N), .int fa])), (a1, .inl (k1, 400, .inl (pm_nf9 cn))), (a2, .inl (k2, 8000, .inl fl)), (a3, .inl (k3, 16, .inl rt))] s.heap := hP
  have hl := lv_entry ([.ref m0]) (n := 2) (Nat.le_of_ble_eq_true rfl)
  rw [lg_entry_eq]
  generalize (lg_sl ([.ref m0]) ++ List.replicate (2 - (lg_sl ([.ref m0])).length) Slot.unset).toArray = ls at hl ⊢
  have hl : lv_has ls 2 [(0, .ref m0)] := hl
  obtain ⟨H, hH⟩ : ∃ H : Heap, H = s.heap := ⟨_, rfl⟩
  rw [← hH]
  rw [← hH] at hP
  have hS : va_S A s.heap H [] := by rw [hH]; exact va_S.rf
  clear hH
  refine lv_aload_n hx hb dX1_markStep_0 rfl (lv_at hl 0 rfl) ?_
  refine va_get (D := (dC, dI)) (ci := 1) (v := .int (nI nr)) (C := RX1) (T := TX1) (N := 9) hx hb hts iw_X1 hown hK hP 0 rfl rfl 6 (by decide) (hts _ mf_X1_33) (fun _ h9 => h9) rfl dX1_markStep_1 ?_
  refine lv_bipush (v := nI 16) hx hb dX1_markStep_4 (by decide +kernel) ?_
  refine lv_icmp_ge (tgt := 36) hx hb dX1_markStep_6 (by decide) (fun c_6 => ?_) (fun c_6 => ?_)
  · rw [nI_leI (by omega) (by omega)] at c_6
    refine lv_aload_n hx hb dX1_markStep_36 rfl (lv_at hl 0 rfl) ?_
    refine va_get (D := (dC, dI)) (ci := 1) (v := .int (nI kc)) (C := RX1) (T := TX1) (N := 9) hx hb hts iw_X1 hown hK hP 0 rfl rfl 5 (by decide) (hts _ mf_X1_30) (fun _ h9 => h9) rfl dX1_markStep_37 ?_
    refine lv_if_le (tgt := 77) hx hb dX1_markStep_40 (by decide) (fun c_40 => ?_) (fun c_40 => ?_)
    · have hk0 : kc = 0 := Classical.byContradiction (fun q => absurd c_40 (nI_nle (by omega) (by omega)))
      refine lv_aload_n hx hb dX1_markStep_77 rfl (lv_at hl 0 rfl) ?_
      refine va_get (D := (dC, dI)) (ci := 1) (v := .int (nI nf)) (C := RX1) (T := TX1) (N := 9) hx hb hts iw_X1 hown hK hP 0 rfl rfl 7 (by decide) (hts _ mf_X1_36) (fun _ h9 => h9) rfl dX1_markStep_78 ?_
      refine lv_aload_n hx hb dX1_markStep_81 rfl (lv_at hl 0 rfl) ?_
      refine va_get (D := (dC, dI)) (ci := 1) (v := .ref h0) (C := RX1) (T := TX1) (N := 9) hx hb hts iw_X1 hown hK hP 0 rfl rfl 0 (by decide) (hts _ mf_X1_9) (fun _ h9 => h9) rfl dX1_markStep_82 ?_
      have hPc := hP.sub (ws' := [(h0, .inr (0, [.ref a1, .ref a2, .ref a3, .int (nI N), .int fa])), (a1, .inl (k1, 400, .inl (pm_nf9 cn))), (a2, .inl (k2, 8000, .inl fl)), (a3, .inl (k3, 16, .inl rt))]) [4, 5, 6, 7] rfl
      have hDc := hD.sub (ws' := [(h0, .inr (0, [.ref a1, .ref a2, .ref a3, .int (nI N), .int fa])), (a1, .inl (k1, 400, .inl (pm_nf9 cn))), (a2, .inl (k2, 8000, .inl fl)), (a3, .inl (k3, 16, .inl rt))]) [4, 5, 6, 7] (by decide) rfl
      have hKc := hK.sub (tys' := [(k1, .int), (k2, .int), (k3, .int)]) [3, 4, 5] rfl
      have hFc := va_free (wc := [(h0, .inr (0, [.ref a1, .ref a2, .ref a3, .int (nI N), .int fa])), (a1, .inl (k1, 400, .inl (pm_nf9 cn))), (a2, .inl (k2, 8000, .inl fl)), (a3, .inl (k3, 16, .inl rt))]) hD hS hA [4, 5, 6, 7] rfl
      refine va_calli (va_runV (As := []) (rest := [.int (nI nf)]) ⟨hx, hb, hml, hown, hts⟩ (c_H_countOfObjects l dC dI h0 a1 a2 a3 k1 k2 k3 N cn fl rt fa H.size) (cwV 0 hts (gw_V ml_X1_67 mi_X0_countOfObjects ms_X0_countOfObjects mn_X0 mc_X0_countOfObjects) rfl rfl rfl (by decide +kernel) ⟨Nat.le_of_ble_eq_true rfl, Nat.le_of_ble_eq_true rfl⟩) ⟨fun a U g mk q => by obtain ⟨q0, q1, qP, qK, qD⟩ := q; exact ⟨q0, q1, qP, va_K.moved (u := U) (U := U.calling g mk a) (Vm.Alike.refl U.vm) qK, qD⟩, va_recv hKc hPc (ci := 0) (q0 := 0) rfl rfl, fun U hU hW => ⟨rfl, by rw [hU], by rw [hU]; exact hPc, va_K.moved hW.alike hKc, hDc.weaken (fun _ _ _ _ => trivial)⟩⟩ rfl rfl hl.1 rfl (lv_room (Nat.le_of_ble_eq_true rfl)) dX1_markStep_85 ⟨Nat.le_of_ble_eq_true rfl, Nat.le_of_ble_eq_true rfl⟩) hS (fun q _ h => hFc q h) hFc (fun r_1 u t H1 locs ht hvm hw hB hz1 hk1 hS => ?_)
      obtain ⟨hP1, hK1, hD1⟩ := hB
      rw [ht] at hP1
      have hK1 := va_K.moved hvm.symm hK1
      obtain ⟨hP, hD⟩ := va_join (wr := [(m0, .inr (1, [.ref h0, .ref b1, .ref b2, .ref b3, .int (nI lim), .int (nI kc), .int (nI nr), .int (nI nf), .int (nI nc)])), (b1, .inl (g1, 400, .inl mr)), (b2, .inl (g2, 400, .inl ch)), (b3, .inl (g3, 64, .inl kp))]) (w1 := [(h0, .inr (0, [.ref a1, .ref a2, .ref a3, .int (nI N), .int fa])), (a1, .inl (k1, 400, .inl (pm_nf9 cn))), (a2, .inl (k2, 8000, .inl fl)), (a3, .inl (k3, 16, .inl rt))]) hP hD [4, 5, 6, 7] [0, 1, 2, 3] rfl rfl (by decide) (by decide) hk1 hFc hP1 hD1
      clear hPc hDc hKc hFc hP1 hK1 hD1
      generalize H1 = H at hP hS ⊢
      have hP : va_P (dC, dI) vwCl [(m0, .inr (1, [.ref h0, .ref b1, .ref b2, .ref b3, .int (nI lim), .int (nI kc), .int (nI nr), .int (nI nf), .int (nI nc)])), (b1, .inl (g1, 400, .inl mr)), (b2, .inl (g2, 400, .inl ch)), (b3, .inl (g3, 64, .inl kp)), (h0, .inr (0, [.ref a1, .ref a2, .ref a3, .int (nI N), .int fa])), (a1, .inl (k1, 400, .inl (pm_nf9 cn))), (a2, .inl (k2, 8000, .inl fl)), (a3, .inl (k3, 16, .inl rt))] H := hP.sub [0, 1, 2, 3, 4, 5, 6, 7] rfl
      have hD : va_D A [(m0, .inr (1, [.ref h0, .ref b1, .ref b2, .ref b3, .int (nI lim), .int (nI kc), .int (nI nr), .int (nI nf), .int (nI nc)])), (b1, .inl (g1, 400, .inl mr)), (b2, .inl (g2, 400, .inl ch)), (b3, .inl (g3, 64, .inl kp)), (h0, .inr (0, [.ref a1, .ref a2, .ref a3, .int (nI N), .int fa])), (a1, .inl (k1, 400, .inl (pm_nf9 cn))), (a2, .inl (k2, 8000, .inl fl)), (a3, .inl (k3, 16, .inl rt))] := hD.sub [0, 1, 2, 3, 4, 5, 6, 7] (by decide) rfl
      obtain rfl : r_1 = nI N := hw.trans (rfl)
      refine lv_icmp_ge (tgt := 121) hx hb dX1_markStep_88 (by decide) (fun c_88 => ?_) (fun c_88 => ?_)
      · rw [nI_leI (by omega) (by omega)] at c_88
        refine lv_iconst (v := nI 0) hx hb dX1_markStep_121 (by decide +kernel) ?_
        exact W.zret (v := nI 0) hx hb hr (by decide +kernel) (fun t ht hW => ⟨⟨nI 0, (mr, ch, kp, lim, kc, nr, nf, nc), rfl, pm_sE (by omega) (by omega) (by omega), by rw [ht]; exact hP, va_K.moved hW.alike hK, hD⟩, hS.F ht⟩) hS.2.2 dX1_markStep_122
      · rw [nI_leI (by omega) (by omega)] at c_88
        refine lv_aload_n hx hb dX1_markStep_91 rfl (lv_at hl 0 rfl) ?_
        refine va_get (D := (dC, dI)) (ci := 1) (v := .int (nI nf)) (C := RX1) (T := TX1) (N := 9) hx hb hts iw_X1 hown hK hP 0 rfl rfl 7 (by decide) (hts _ mf_X1_36) (fun _ h9 => h9) rfl dX1_markStep_92 ?_
        refine lv_istore_n (lv' := [(1, .int (nI nf)), (0, .ref m0)]) hx hb dX1_markStep_95 rfl hl (by decide) rfl (fun ls hl => ?_)
        refine lv_aload_n hx hb dX1_markStep_96 rfl (lv_at hl 1 rfl) ?_
        refine lv_dup hx hb dX1_markStep_97 rfl ?_
        refine va_get (D := (dC, dI)) (ci := 1) (v := .int (nI nf)) (C := RX1) (T := TX1) (N := 9) hx hb hts iw_X1 hown hK hP 0 rfl rfl 7 (by decide) (hts _ mf_X1_36) (fun _ h9 => h9) rfl dX1_markStep_98 ?_
        refine lv_iconst (v := nI 1) hx hb dX1_markStep_101 (by decide +kernel) ?_
        refine lv_iadd hx hb dX1_markStep_102 ?_
        refine lv_topi (fun x_2 ex_2 => ?_)
        obtain rfl : x_2 = nI (nf + 1) := ex_2.trans (nI_add _ _)
        refine va_put (D := (dC, dI)) (ci := 1) (v := .int (nI (nf + 1))) (ty := .int) (C := RX1) (T := TX1) (N := 9) hx hb hts iw_X1 tyX1 tyX1_ok nmX1 hown hK hP hD hS 0 rfl rfl 7 (by decide) (hts _ mf_X1_36) (fun _ h9 => h9) rfl (by decide +kernel) (rfl) (rfl) (Nat.le_of_ble_eq_true rfl) dX1_markStep_103 (fun H locs hP hD hS => ?_)
        have hP : va_P (dC, dI) vwCl [(m0, .inr (1, [.ref h0, .ref b1, .ref b2, .ref b3, .int (nI lim), .int (nI kc), .int (nI nr), .int (nI (nf + 1)), .int (nI nc)])), (b1, .inl (g1, 400, .inl mr)), (b2, .inl (g2, 400, .inl ch)), (b3, .inl (g3, 64, .inl kp)), (h0, .inr (0, [.ref a1, .ref a2, .ref a3, .int (nI N), .int fa])), (a1, .inl (k1, 400, .inl (pm_nf9 cn))), (a2, .inl (k2, 8000, .inl fl)), (a3, .inl (k3, 16, .inl rt))] H := hP
        have hD : va_D A [(m0, .inr (1, [.ref h0, .ref b1, .ref b2, .ref b3, .int (nI lim), .int (nI kc), .int (nI nr), .int (nI (nf + 1)), .int (nI nc)])), (b1, .inl (g1, 400, .inl mr)), (b2, .inl (g2, 400, .inl ch)), (b3, .inl (g3, 64, .inl kp)), (h0, .inr (0, [.ref a1, .ref a2, .ref a3, .int (nI N), .int fa])), (a1, .inl (k1, 400, .inl (pm_nf9 cn))), (a2, .inl (k2, 8000, .inl fl)), (a3, .inl (k3, 16, .inl rt))] := hD
        refine lv_aload_n hx hb dX1_markStep_106 rfl (lv_at hl 1 rfl) ?_
        refine lv_iload_n hx hb dX1_markStep_107 rfl (lv_at hl 0 rfl) ?_
        have hPc := hP.sub (ws' := [(m0, .inr (1, [.ref h0, .ref b1, .ref b2, .ref b3, .int (nI lim), .int (nI kc), .int (nI nr), .int (nI (nf + 1)), .int (nI nc)])), (b1, .inl (g1, 400, .inl mr)), (b2, .inl (g2, 400, .inl ch)), (b3, .inl (g3, 64, .inl kp)), (h0, .inr (0, [.ref a1, .ref a2, .ref a3, .int (nI N), .int fa])), (a1, .inl (k1, 400, .inl (pm_nf9 cn))), (a2, .inl (k2, 8000, .inl fl)), (a3, .inl (k3, 16, .inl rt))]) [0, 1, 2, 3, 4, 5, 6, 7] rfl
        have hDc := hD.sub (ws' := [(m0, .inr (1, [.ref h0, .ref b1, .ref b2, .ref b3, .int (nI lim), .int (nI kc), .int (nI nr), .int (nI (nf + 1)), .int (nI nc)])), (b1, .inl (g1, 400, .inl mr)), (b2, .inl (g2, 400, .inl ch)), (b3, .inl (g3, 64, .inl kp)), (h0, .inr (0, [.ref a1, .ref a2, .ref a3, .int (nI N), .int fa])), (a1, .inl (k1, 400, .inl (pm_nf9 cn))), (a2, .inl (k2, 8000, .inl fl)), (a3, .inl (k3, 16, .inl rt))]) [0, 1, 2, 3, 4, 5, 6, 7] (by decide) rfl
        have hKc := hK.sub (tys' := [(g1, .boolean), (g2, .boolean), (g3, .int), (k1, .int), (k2, .int), (k3, .int)]) [0, 1, 2, 3, 4, 5] rfl
        have hFc := va_free (wc := [(m0, .inr (1, [.ref h0, .ref b1, .ref b2, .ref b3, .int (nI lim), .int (nI kc), .int (nI nr), .int (nI (nf + 1)), .int (nI nc)])), (b1, .inl (g1, 400, .inl mr)), (b2, .inl (g2, 400, .inl ch)), (b3, .inl (g3, 64, .inl kp)), (h0, .inr (0, [.ref a1, .ref a2, .ref a3, .int (nI N), .int fa])), (a1, .inl (k1, 400, .inl (pm_nf9 cn))), (a2, .inl (k2, 8000, .inl fl)), (a3, .inl (k3, 16, .inl rt))]) hD hS hA [0, 1, 2, 3, 4, 5, 6, 7] rfl
        refine va_calli (va_runV (As := [.int (nI nf)]) (rest := []) ⟨hx, hb, hml, hown, hts⟩ (c_M_hasMark l dC dI m0 b1 b2 b3 g1 g2 g3 mr ch kp lim kc nr (nf + 1) nc h0 a1 a2 a3 k1 k2 k3 N cn fl rt fa (nI nf) H.size (hN)) (cwV 1 hts (gw_V ml_X1_71 mi_X1_hasMark ms_X1_hasMark mn_X1 mc_X1_hasMark) rfl rfl rfl (by decide +kernel) ⟨Nat.le_of_ble_eq_true rfl, Nat.le_of_ble_eq_true rfl⟩) ⟨fun a U g mk q => by obtain ⟨q0, q1, qP, qK, qD⟩ := q; exact ⟨q0, q1, qP, va_K.moved (u := U) (U := U.calling g mk a) (Vm.Alike.refl U.vm) qK, qD⟩, va_recv hKc hPc (ci := 1) (q0 := 0) rfl rfl, fun U hU hW => ⟨rfl, by rw [hU], by rw [hU]; exact hPc, va_K.moved hW.alike hKc, hDc.weaken (fun _ _ _ _ => trivial)⟩⟩ rfl rfl hl.1 rfl (lv_room (Nat.le_of_ble_eq_true rfl)) dX1_markStep_108 ⟨Nat.le_of_ble_eq_true rfl, Nat.le_of_ble_eq_true rfl⟩) hS (fun q _ h => hFc q h) hFc (fun r_3 u t H1 locs ht hvm hw hB hz1 hk1 hS => ?_)
        obtain ⟨hP1, hK1, hD1⟩ := hB
        rw [ht] at hP1
        have hK1 := va_K.moved hvm.symm hK1
        obtain ⟨hP, hD⟩ := va_join (wr := []) (w1 := [(m0, .inr (1, [.ref h0, .ref b1, .ref b2, .ref b3, .int (nI lim), .int (nI kc), .int (nI nr), .int (nI (nf + 1)), .int (nI nc)])), (b1, .inl (g1, 400, .inl mr)), (b2, .inl (g2, 400, .inl ch)), (b3, .inl (g3, 64, .inl kp)), (h0, .inr (0, [.ref a1, .ref a2, .ref a3, .int (nI N), .int fa])), (a1, .inl (k1, 400, .inl (pm_nf9 cn))), (a2, .inl (k2, 8000, .inl fl)), (a3, .inl (k3, 16, .inl rt))]) hP hD [0, 1, 2, 3, 4, 5, 6, 7] [] rfl rfl (by decide) (by decide) hk1 hFc hP1 hD1
        clear hPc hDc hKc hFc hP1 hK1 hD1
        generalize H1 = H at hP hS ⊢
        have hP : va_P (dC, dI) vwCl [(m0, .inr (1, [.ref h0, .ref b1, .ref b2, .ref b3, .int (nI lim), .int (nI kc), .int (nI nr), .int (nI (nf + 1)), .int (nI nc)])), (b1, .inl (g1, 400, .inl mr)), (b2, .inl (g2, 400, .inl ch)), (b3, .inl (g3, 64, .inl kp)), (h0, .inr (0, [.ref a1, .ref a2, .ref a3, .int (nI N), .int fa])), (a1, .inl (k1, 400, .inl (pm_nf9 cn))), (a2, .inl (k2, 8000, .inl fl)), (a3, .inl (k3, 16, .inl rt))] H := hP.sub [0, 1, 2, 3, 4, 5, 6, 7] rfl
        have hD : va_D A [(m0, .inr (1, [.ref h0, .ref b1, .ref b2, .ref b3, .int (nI lim), .int (nI kc), .int (nI nr), .int (nI (nf + 1)), .int (nI nc)])), (b1, .inl (g1, 400, .inl mr)), (b2, .inl (g2, 400, .inl ch)), (b3, .inl (g3, 64, .inl kp)), (h0, .inr (0, [.ref a1, .ref a2, .ref a3, .int (nI N), .int fa])), (a1, .inl (k1, 400, .inl (pm_nf9 cn))), (a2, .inl (k2, 8000, .inl fl)), (a3, .inl (k3, 16, .inl rt))] := hD.sub [0, 1, 2, 3, 4, 5, 6, 7] (by decide) rfl
        rw [pm_hm_nI (by omega) (by omega)] at hw
        rcases pm_tf ((!decide (mr nf = 0))) with hh_108 | hh_108
        · obtain rfl : r_3 = nI 1 := hw.trans (by rw [hh_108]; rfl)
          have h4 : ¬ mr nf = 0 := by intro q; rw [q] at hh_108; exact absurd hh_108 (by decide)
          refine lv_if_eq (tgt := 119) hx hb dX1_markStep_111 (by decide) (fun c_111 => absurd c_111 (by decide +kernel)) (fun c_111 => ?_)
          refine lv_aload_n hx hb dX1_markStep_114 rfl (lv_at hl 1 rfl) ?_
          refine lv_iload_n hx hb dX1_markStep_115 rfl (lv_at hl 0 rfl) ?_
          have hPc := hP.sub (ws' := [(m0, .inr (1, [.ref h0, .ref b1, .ref b2, .ref b3, .int (nI lim), .int (nI kc), .int (nI nr), .int (nI (nf + 1)), .int (nI nc)])), (b1, .inl (g1, 400, .inl mr)), (b2, .inl (g2, 400, .inl ch)), (b3, .inl (g3, 64, .inl kp)), (h0, .inr (0, [.ref a1, .ref a2, .ref a3, .int (nI N), .int fa])), (a1, .inl (k1, 400, .inl (pm_nf9 cn))), (a2, .inl (k2, 8000, .inl fl)), (a3, .inl (k3, 16, .inl rt))]) [0, 1, 2, 3, 4, 5, 6, 7] rfl
          have hDc := hD.sub (ws' := [(m0, .inr (1, [.ref h0, .ref b1, .ref b2, .ref b3, .int (nI lim), .int (nI kc), .int (nI nr), .int (nI (nf + 1)), .int (nI nc)])), (b1, .inl (g1, 400, .inl mr)), (b2, .inl (g2, 400, .inl ch)), (b3, .inl (g3, 64, .inl kp)), (h0, .inr (0, [.ref a1, .ref a2, .ref a3, .int (nI N), .int fa])), (a1, .inl (k1, 400, .inl (pm_nf9 cn))), (a2, .inl (k2, 8000, .inl fl)), (a3, .inl (k3, 16, .inl rt))]) [0, 1, 2, 3, 4, 5, 6, 7] (by decide) rfl
          have hKc := hK.sub (tys' := [(g1, .boolean), (g2, .boolean), (g3, .int), (k1, .int), (k2, .int), (k3, .int)]) [0, 1, 2, 3, 4, 5] rfl
          have hFc := va_free (wc := [(m0, .inr (1, [.ref h0, .ref b1, .ref b2, .ref b3, .int (nI lim), .int (nI kc), .int (nI nr), .int (nI (nf + 1)), .int (nI nc)])), (b1, .inl (g1, 400, .inl mr)), (b2, .inl (g2, 400, .inl ch)), (b3, .inl (g3, 64, .inl kp)), (h0, .inr (0, [.ref a1, .ref a2, .ref a3, .int (nI N), .int fa])), (a1, .inl (k1, 400, .inl (pm_nf9 cn))), (a2, .inl (k2, 8000, .inl fl)), (a3, .inl (k3, 16, .inl rt))]) hD hS hA [0, 1, 2, 3, 4, 5, 6, 7] rfl
          refine va_callv (va_runV (As := [.int (nI nf)]) (rest := []) ⟨hx, hb, hml, hown, hts⟩ (c_M_markFieldsOf l dC dI m0 b1 b2 b3 g1 g2 g3 mr ch kp lim kc nr (nf + 1) nc h0 a1 a2 a3 k1 k2 k3 N cn fl rt fa (nI nf) H.size (hlim) (by omega) (by omega) (hN) (hc)) (cwV 1 hts (gw_V ml_X1_64 mi_X1_markFieldsOf ms_X1_markFieldsOf mn_X1 mc_X1_markFieldsOf) rfl rfl rfl (by decide +kernel) ⟨Nat.le_of_ble_eq_true rfl, Nat.le_of_ble_eq_true rfl⟩) ⟨fun a U g mk q => by obtain ⟨q0, q1, qP, qK, qD⟩ := q; exact ⟨q0, q1, qP, va_K.moved (u := U) (U := U.calling g mk a) (Vm.Alike.refl U.vm) qK, qD⟩, va_recv hKc hPc (ci := 1) (q0 := 0) rfl rfl, fun U hU hW => ⟨rfl, by rw [hU], by rw [hU]; exact hPc, va_K.moved hW.alike hKc, hDc.weaken (fun _ _ _ _ => trivial)⟩⟩ rfl rfl hl.1 rfl (lv_room (Nat.le_of_ble_eq_true rfl)) dX1_markStep_116 ⟨Nat.le_of_ble_eq_true rfl, Nat.le_of_ble_eq_true rfl⟩) hS (fun q _ h => hFc q h) hFc (fun u t H1 locs ht hvm hw hB hz1 hk1 hS => ?_)
          obtain ⟨mk9, kp9, kc9, nf9⟩ := u
          obtain ⟨hP1, hK1, hD1⟩ := hB
          rw [ht] at hP1
          have hK1 := va_K.moved hvm.symm hK1
          obtain ⟨hP, hD⟩ := va_join (wr := []) (w1 := [(m0, .inr (1, [.ref h0, .ref b1, .ref b2, .ref b3, .int (nI lim), .int (nI kc9), .int (nI nr), .int (nI nf9), .int (nI nc)])), (b1, .inl (g1, 400, .inl mk9)), (b2, .inl (g2, 400, .inl ch)), (b3, .inl (g3, 64, .inl kp9)), (h0, .inr (0, [.ref a1, .ref a2, .ref a3, .int (nI N), .int fa])), (a1, .inl (k1, 400, .inl (pm_nf9 cn))), (a2, .inl (k2, 8000, .inl fl)), (a3, .inl (k3, 16, .inl rt))]) hP hD [0, 1, 2, 3, 4, 5, 6, 7] [] rfl rfl (by decide) (by decide) hk1 hFc hP1 hD1
          clear hPc hDc hKc hFc hP1 hK1 hD1
          generalize H1 = H at hP hS ⊢
          have hP : va_P (dC, dI) vwCl [(m0, .inr (1, [.ref h0, .ref b1, .ref b2, .ref b3, .int (nI lim), .int (nI kc9), .int (nI nr), .int (nI nf9), .int (nI nc)])), (b1, .inl (g1, 400, .inl mk9)), (b2, .inl (g2, 400, .inl ch)), (b3, .inl (g3, 64, .inl kp9)), (h0, .inr (0, [.ref a1, .ref a2, .ref a3, .int (nI N), .int fa])), (a1, .inl (k1, 400, .inl (pm_nf9 cn))), (a2, .inl (k2, 8000, .inl fl)), (a3, .inl (k3, 16, .inl rt))] H := hP.sub [0, 1, 2, 3, 4, 5, 6, 7] rfl
          have hD : va_D A [(m0, .inr (1, [.ref h0, .ref b1, .ref b2, .ref b3, .int (nI lim), .int (nI kc9), .int (nI nr), .int (nI nf9), .int (nI nc)])), (b1, .inl (g1, 400, .inl mk9)), (b2, .inl (g2, 400, .inl ch)), (b3, .inl (g3, 64, .inl kp9)), (h0, .inr (0, [.ref a1, .ref a2, .ref a3, .int (nI N), .int fa])), (a1, .inl (k1, 400, .inl (pm_nf9 cn))), (a2, .inl (k2, 8000, .inl fl)), (a3, .inl (k3, 16, .inl rt))] := hD.sub [0, 1, 2, 3, 4, 5, 6, 7] (by decide) rfl
          refine lv_iconst (v := nI 1) hx hb dX1_markStep_119 (by decide +kernel) ?_
          exact W.zret (v := nI 1) hx hb hr (by decide +kernel) (fun t ht hW => ⟨⟨nI 1, (mk9, ch, kp9, lim, kc9, nr, nf9, nc), rfl, pm_sD (by omega) (by omega) (by omega) h4 hw, by rw [ht]; exact hP, va_K.moved hW.alike hK, hD⟩, hS.F ht⟩) hS.2.2 dX1_markStep_120
        · obtain rfl : r_3 = nI 0 := hw.trans (by rw [hh_108]; rfl)
          have h4 : mr nf = 0 := by by_cases q : mr nf = 0; exact q; rw [decide_eq_false q] at hh_108; exact absurd hh_108 (by decide)
          refine lv_if_eq (tgt := 119) hx hb dX1_markStep_111 (by decide) (fun c_111 => ?_) (fun c_111 => absurd c_111 (by decide +kernel))
          refine lv_iconst (v := nI 1) hx hb dX1_markStep_119 (by decide +kernel) ?_
          exact W.zret (v := nI 1) hx hb hr (by decide +kernel) (fun t ht hW => ⟨⟨nI 1, (mr, ch, kp, lim, kc, nr, nf + 1, nc), rfl, pm_sC (by omega) (by omega) (by omega) h4, by rw [ht]; exact hP, va_K.moved hW.alike hK, hD⟩, hS.F ht⟩) hS.2.2 dX1_markStep_120
    · have hk0 : 0 < kc := Nat.pos_of_ne_zero (fun q => c_40 (by subst q; decide +kernel))
      refine lv_aload_n hx hb dX1_markStep_43 rfl (lv_at hl 0 rfl) ?_
      refine va_get (D := (dC, dI)) (ci := 1) (v := .int (nI kc)) (C := RX1) (T := TX1) (N := 9) hx hb hts iw_X1 hown hK hP 0 rfl rfl 5 (by decide) (hts _ mf_X1_30) (fun _ h9 => h9) rfl dX1_markStep_44 ?_
      refine lv_bipush (v := nI 64) hx hb dX1_markStep_47 (by decide +kernel) ?_
      refine lv_icmp_gt (tgt := 77) hx hb dX1_markStep_49 (by decide) (fun c_49 => absurd c_49 (nI_nlt (by omega) (by omega))) (fun c_49 => ?_)
      refine lv_aload_n hx hb dX1_markStep_52 rfl (lv_at hl 0 rfl) ?_
      refine lv_dup hx hb dX1_markStep_53 rfl ?_
      refine va_get (D := (dC, dI)) (ci := 1) (v := .int (nI kc)) (C := RX1) (T := TX1) (N := 9) hx hb hts iw_X1 hown hK hP 0 rfl rfl 5 (by decide) (hts _ mf_X1_30) (fun _ h9 => h9) rfl dX1_markStep_54 ?_
      refine lv_iconst (v := nI 1) hx hb dX1_markStep_57 (by decide +kernel) ?_
      refine lv_isub hx hb dX1_markStep_58 ?_
      refine lv_topi (fun x_5 ex_5 => ?_)
      obtain rfl : x_5 = nI (kc - 1) := ex_5.trans (pk_sub (by omega))
      refine va_put (D := (dC, dI)) (ci := 1) (v := .int (nI (kc - 1))) (ty := .int) (C := RX1) (T := TX1) (N := 9) hx hb hts iw_X1 tyX1 tyX1_ok nmX1 hown hK hP hD hS 0 rfl rfl 5 (by decide) (hts _ mf_X1_30) (fun _ h9 => h9) rfl (by decide +kernel) (rfl) (rfl) (Nat.le_of_ble_eq_true rfl) dX1_markStep_59 (fun H locs hP hD hS => ?_)
      have hP : va_P (dC, dI) vwCl [(m0, .inr (1, [.ref h0, .ref b1, .ref b2, .ref b3, .int (nI lim), .int (nI (kc - 1)), .int (nI nr), .int (nI nf), .int (nI nc)])), (b1, .inl (g1, 400, .inl mr)), (b2, .inl (g2, 400, .inl ch)), (b3, .inl (g3, 64, .inl kp)), (h0, .inr (0, [.ref a1, .ref a2, .ref a3, .int (nI N), .int fa])), (a1, .inl (k1, 400, .inl (pm_nf9 cn))), (a2, .inl (k2, 8000, .inl fl)), (a3, .inl (k3, 16, .inl rt))] H := hP
      have hD : va_D A [(m0, .inr (1, [.ref h0, .ref b1, .ref b2, .ref b3, .int (nI lim), .int (nI (kc - 1)), .int (nI nr), .int (nI nf), .int (nI nc)])), (b1, .inl (g1, 400, .inl mr)), (b2, .inl (g2, 400, .inl ch)), (b3, .inl (g3, 64, .inl kp)), (h0, .inr (0, [.ref a1, .ref a2, .ref a3, .int (nI N), .int fa])), (a1, .inl (k1, 400, .inl (pm_nf9 cn))), (a2, .inl (k2, 8000, .inl fl)), (a3, .inl (k3, 16, .inl rt))] := hD
      refine lv_aload_n hx hb dX1_markStep_62 rfl (lv_at hl 0 rfl) ?_
      refine lv_aload_n hx hb dX1_markStep_63 rfl (lv_at hl 0 rfl) ?_
      refine va_get (D := (dC, dI)) (ci := 1) (v := .ref b3) (C := RX1) (T := TX1) (N := 9) hx hb hts iw_X1 hown hK hP 0 rfl rfl 3 (by decide) (hts _ mf_X1_22) (fun _ h9 => h9) rfl dX1_markStep_64 ?_
      refine lv_aload_n hx hb dX1_markStep_67 rfl (lv_at hl 0 rfl) ?_
      refine va_get (D := (dC, dI)) (ci := 1) (v := .int (nI (kc - 1))) (C := RX1) (T := TX1) (N := 9) hx hb hts iw_X1 hown hK hP 0 rfl rfl 5 (by decide) (hts _ mf_X1_30) (fun _ h9 => h9) rfl dX1_markStep_68 ?_
      refine va_iald hx hb hK hP 3 2 rfl rfl (vp_in_nI (by omega) (by omega)) dX1_markStep_71 ?_
      refine lv_topi (fun x_6 ex_6 => ?_)
      rw [nI_clamp (by omega)] at ex_6
      subst ex_6
      have hPc := hP.sub (ws' := [(m0, .inr (1, [.ref h0, .ref b1, .ref b2, .ref b3, .int (nI lim), .int (nI (kc - 1)), .int (nI nr), .int (nI nf), .int (nI nc)])), (b1, .inl (g1, 400, .inl mr)), (b2, .inl (g2, 400, .inl ch)), (b3, .inl (g3, 64, .inl kp)), (h0, .inr (0, [.ref a1, .ref a2, .ref a3, .int (nI N), .int fa])), (a1, .inl (k1, 400, .inl (pm_nf9 cn))), (a2, .inl (k2, 8000, .inl fl)), (a3, .inl (k3, 16, .inl rt))]) [0, 1, 2, 3, 4, 5, 6, 7] rfl
      have hDc := hD.sub (ws' := [(m0, .inr (1, [.ref h0, .ref b1, .ref b2, .ref b3, .int (nI lim), .int (nI (kc - 1)), .int (nI nr), .int (nI nf), .int (nI nc)])), (b1, .inl (g1, 400, .inl mr)), (b2, .inl (g2, 400, .inl ch)), (b3, .inl (g3, 64, .inl kp)), (h0, .inr (0, [.ref a1, .ref a2, .ref a3, .int (nI N), .int fa])), (a1, .inl (k1, 400, .inl (pm_nf9 cn))), (a2, .inl (k2, 8000, .inl fl)), (a3, .inl (k3, 16, .inl rt))]) [0, 1, 2, 3, 4, 5, 6, 7] (by decide) rfl
      have hKc := hK.sub (tys' := [(g1, .boolean), (g2, .boolean), (g3, .int), (k1, .int), (k2, .int), (k3, .int)]) [0, 1, 2, 3, 4, 5] rfl
      have hFc := va_free (wc := [(m0, .inr (1, [.ref h0, .ref b1, .ref b2, .ref b3, .int (nI lim), .int (nI (kc - 1)), .int (nI nr), .int (nI nf), .int (nI nc)])), (b1, .inl (g1, 400, .inl mr)), (b2, .inl (g2, 400, .inl ch)), (b3, .inl (g3, 64, .inl kp)), (h0, .inr (0, [.ref a1, .ref a2, .ref a3, .int (nI N), .int fa])), (a1, .inl (k1, 400, .inl (pm_nf9 cn))), (a2, .inl (k2, 8000, .inl fl)), (a3, .inl (k3, 16, .inl rt))]) hD hS hA [0, 1, 2, 3, 4, 5, 6, 7] rfl
      refine va_callv (va_runV (As := [.int (kp ((kc - 1)))]) (rest := []) ⟨hx, hb, hml, hown, hts⟩ (c_M_markFieldsOf l dC dI m0 b1 b2 b3 g1 g2 g3 mr ch kp lim (kc - 1) nr nf nc h0 a1 a2 a3 k1 k2 k3 N cn fl rt fa (kp ((kc - 1))) H.size (hlim) (by omega) (by omega) (hN) (hc)) (cwV 1 hts (gw_V ml_X1_64 mi_X1_markFieldsOf ms_X1_markFieldsOf mn_X1 mc_X1_markFieldsOf) rfl rfl rfl (by decide +kernel) ⟨Nat.le_of_ble_eq_true rfl, Nat.le_of_ble_eq_true rfl⟩) ⟨fun a U g mk q => by obtain ⟨q0, q1, qP, qK, qD⟩ := q; exact ⟨q0, q1, qP, va_K.moved (u := U) (U := U.calling g mk a) (Vm.Alike.refl U.vm) qK, qD⟩, va_recv hKc hPc (ci := 1) (q0 := 0) rfl rfl, fun U hU hW => ⟨rfl, by rw [hU], by rw [hU]; exact hPc, va_K.moved hW.alike hKc, hDc.weaken (fun _ _ _ _ => trivial)⟩⟩ rfl rfl hl.1 rfl (lv_room (Nat.le_of_ble_eq_true rfl)) dX1_markStep_72 ⟨Nat.le_of_ble_eq_true rfl, Nat.le_of_ble_eq_true rfl⟩) hS (fun q _ h => hFc q h) hFc (fun u t H1 locs ht hvm hw hB hz1 hk1 hS => ?_)
      obtain ⟨mk9, kp9, kc9, nf9⟩ := u
      obtain ⟨hP1, hK1, hD1⟩ := hB
      rw [ht] at hP1
      have hK1 := va_K.moved hvm.symm hK1
      obtain ⟨hP, hD⟩ := va_join (wr := []) (w1 := [(m0, .inr (1, [.ref h0, .ref b1, .ref b2, .ref b3, .int (nI lim), .int (nI kc9), .int (nI nr), .int (nI nf9), .int (nI nc)])), (b1, .inl (g1, 400, .inl mk9)), (b2, .inl (g2, 400, .inl ch)), (b3, .inl (g3, 64, .inl kp9)), (h0, .inr (0, [.ref a1, .ref a2, .ref a3, .int (nI N), .int fa])), (a1, .inl (k1, 400, .inl (pm_nf9 cn))), (a2, .inl (k2, 8000, .inl fl)), (a3, .inl (k3, 16, .inl rt))]) hP hD [0, 1, 2, 3, 4, 5, 6, 7] [] rfl rfl (by decide) (by decide) hk1 hFc hP1 hD1
      clear hPc hDc hKc hFc hP1 hK1 hD1
      generalize H1 = H at hP hS ⊢
      have hP : va_P (dC, dI) vwCl [(m0, .inr (1, [.ref h0, .ref b1, .ref b2, .ref b3, .int (nI lim), .int (nI kc9), .int (nI nr), .int (nI nf9), .int (nI nc)])), (b1, .inl (g1, 400, .inl mk9)), (b2, .inl (g2, 400, .inl ch)), (b3, .inl (g3, 64, .inl kp9)), (h0, .inr (0, [.ref a1, .ref a2, .ref a3, .int (nI N), .int fa])), (a1, .inl (k1, 400, .inl (pm_nf9 cn))), (a2, .inl (k2, 8000, .inl fl)), (a3, .inl (k3, 16, .inl rt))] H := hP.sub [0, 1, 2, 3, 4, 5, 6, 7] rfl
      have hD : va_D A [(m0, .inr (1, [.ref h0, .ref b1, .ref b2, .ref b3, .int (nI lim), .int (nI kc9), .int (nI nr), .int (nI nf9), .int (nI nc)])), (b1, .inl (g1, 400, .inl mk9)), (b2, .inl (g2, 400, .inl ch)), (b3, .inl (g3, 64, .inl kp9)), (h0, .inr (0, [.ref a1, .ref a2, .ref a3, .int (nI N), .int fa])), (a1, .inl (k1, 400, .inl (pm_nf9 cn))), (a2, .inl (k2, 8000, .inl fl)), (a3, .inl (k3, 16, .inl rt))] := hD.sub [0, 1, 2, 3, 4, 5, 6, 7] (by decide) rfl
      refine lv_iconst (v := nI 1) hx hb dX1_markStep_75 (by decide +kernel) ?_
      exact W.zret (v := nI 1) hx hb hr (by decide +kernel) (fun t ht hW => ⟨⟨nI 1, (mk9, ch, kp9, lim, kc9, nr, nf9, nc), rfl, pm_sB (by omega) (by omega) hw, by rw [ht]; exact hP, va_K.moved hW.alike hK, hD⟩, hS.F ht⟩) hS.2.2 dX1_markStep_76
  · rw [nI_leI (by omega) (by omega)] at c_6; replace c_6 : nr < 16 := by omega
    refine lv_aload_n hx hb dX1_markStep_9 rfl (lv_at hl 0 rfl) ?_
    refine lv_aload_n hx hb dX1_markStep_10 rfl (lv_at hl 0 rfl) ?_
    refine va_get (D := (dC, dI)) (ci := 1) (v := .ref h0) (C := RX1) (T := TX1) (N := 9) hx hb hts iw_X1 hown hK hP 0 rfl rfl 0 (by decide) (hts _ mf_X1_9) (fun _ h9 => h9) rfl dX1_markStep_11 ?_
    refine lv_aload_n hx hb dX1_markStep_14 rfl (lv_at hl 0 rfl) ?_
    refine va_get (D := (dC, dI)) (ci := 1) (v := .int (nI nr)) (C := RX1) (T := TX1) (N := 9) hx hb hts iw_X1 hown hK hP 0 rfl rfl 6 (by decide) (hts _ mf_X1_33) (fun _ h9 => h9) rfl dX1_markStep_15 ?_
    have hPc := hP.sub (ws' := [(h0, .inr (0, [.ref a1, .ref a2, .ref a3, .int (nI N), .int fa])), (a1, .inl (k1, 400, .inl (pm_nf9 cn))), (a2, .inl (k2, 8000, .inl fl)), (a3, .inl (k3, 16, .inl rt))]) [4, 5, 6, 7] rfl
    have hDc := hD.sub (ws' := [(h0, .inr (0, [.ref a1, .ref a2, .ref a3, .int (nI N), .int fa])), (a1, .inl (k1, 400, .inl (pm_nf9 cn))), (a2, .inl (k2, 8000, .inl fl)), (a3, .inl (k3, 16, .inl rt))]) [4, 5, 6, 7] (by decide) rfl
    have hKc := hK.sub (tys' := [(k1, .int), (k2, .int), (k3, .int)]) [3, 4, 5] rfl
    have hFc := va_free (wc := [(h0, .inr (0, [.ref a1, .ref a2, .ref a3, .int (nI N), .int fa])), (a1, .inl (k1, 400, .inl (pm_nf9 cn))), (a2, .inl (k2, 8000, .inl fl)), (a3, .inl (k3, 16, .inl rt))]) hD hS hA [4, 5, 6, 7] rfl
    refine va_calli (va_runV (As := [.int (nI nr)]) (rest := [.ref m0]) ⟨hx, hb, hml, hown, hts⟩ (c_H_rootAt l dC dI h0 a1 a2 a3 k1 k2 k3 N cn fl rt fa (nI nr) H.size) (cwV 1 hts (gw_V ml_X1_56 mi_X0_rootAt ms_X0_rootAt mn_X0 mc_X0_rootAt) rfl rfl rfl (by decide +kernel) ⟨Nat.le_of_ble_eq_true rfl, Nat.le_of_ble_eq_true rfl⟩) ⟨fun a U g mk q => by obtain ⟨q0, q1, qP, qK, qD⟩ := q; exact ⟨q0, q1, qP, va_K.moved (u := U) (U := U.calling g mk a) (Vm.Alike.refl U.vm) qK, qD⟩, va_recv hKc hPc (ci := 0) (q0 := 0) rfl rfl, fun U hU hW => ⟨rfl, by rw [hU], by rw [hU]; exact hPc, va_K.moved hW.alike hKc, hDc.weaken (fun _ _ _ _ => trivial)⟩⟩ rfl rfl hl.1 rfl (lv_room (Nat.le_of_ble_eq_true rfl)) dX1_markStep_18 ⟨Nat.le_of_ble_eq_true rfl, Nat.le_of_ble_eq_true rfl⟩) hS (fun q _ h => hFc q h) hFc (fun r_8 u t H1 locs ht hvm hw hB hz1 hk1 hS => ?_)
    obtain ⟨hP1, hK1, hD1⟩ := hB
    rw [ht] at hP1
    have hK1 := va_K.moved hvm.symm hK1
    obtain ⟨hP, hD⟩ := va_join (wr := [(m0, .inr (1, [.ref h0, .ref b1, .ref b2, .ref b3, .int (nI lim), .int (nI kc), .int (nI nr), .int (nI nf), .int (nI nc)])), (b1, .inl (g1, 400, .inl mr)), (b2, .inl (g2, 400, .inl ch)), (b3, .inl (g3, 64, .inl kp))]) (w1 := [(h0, .inr (0, [.ref a1, .ref a2, .ref a3, .int (nI N), .int fa])), (a1, .inl (k1, 400, .inl (pm_nf9 cn))), (a2, .inl (k2, 8000, .inl fl)), (a3, .inl (k3, 16, .inl rt))]) hP hD [4, 5, 6, 7] [0, 1, 2, 3] rfl rfl (by decide) (by decide) hk1 hFc hP1 hD1
    clear hPc hDc hKc hFc hP1 hK1 hD1
    generalize H1 = H at hP hS ⊢
    have hP : va_P (dC, dI) vwCl [(m0, .inr (1, [.ref h0, .ref b1, .ref b2, .ref b3, .int (nI lim), .int (nI kc), .int (nI nr), .int (nI nf), .int (nI nc)])), (b1, .inl (g1, 400, .inl mr)), (b2, .inl (g2, 400, .inl ch)), (b3, .inl (g3, 64, .inl kp)), (h0, .inr (0, [.ref a1, .ref a2, .ref a3, .int (nI N), .int fa])), (a1, .inl (k1, 400, .inl (pm_nf9 cn))), (a2, .inl (k2, 8000, .inl fl)), (a3, .inl (k3, 16, .inl rt))] H := hP.sub [0, 1, 2, 3, 4, 5, 6, 7] rfl
    have hD : va_D A [(m0, .inr (1, [.ref h0, .ref b1, .ref b2, .ref b3, .int (nI lim), .int (nI kc), .int (nI nr), .int (nI nf), .int (nI nc)])), (b1, .inl (g1, 400, .inl mr)), (b2, .inl (g2, 400, .inl ch)), (b3, .inl (g3, 64, .inl kp)), (h0, .inr (0, [.ref a1, .ref a2, .ref a3, .int (nI N), .int fa])), (a1, .inl (k1, 400, .inl (pm_nf9 cn))), (a2, .inl (k2, 8000, .inl fl)), (a3, .inl (k3, 16, .inl rt))] := hD.sub [0, 1, 2, 3, 4, 5, 6, 7] (by decide) rfl
    obtain rfl : r_8 = rt nr := hw.trans (by rw [if_pos (pm_has_nI (by omega) c_6), nI_clamp (by omega)])
    have hPc := hP.sub (ws' := [(m0, .inr (1, [.ref h0, .ref b1, .ref b2, .ref b3, .int (nI lim), .int (nI kc), .int (nI nr), .int (nI nf), .int (nI nc)])), (b1, .inl (g1, 400, .inl mr)), (b2, .inl (g2, 400, .inl ch)), (b3, .inl (g3, 64, .inl kp)), (h0, .inr (0, [.ref a1, .ref a2, .ref a3, .int (nI N), .int fa])), (a1, .inl (k1, 400, .inl (pm_nf9 cn))), (a2, .inl (k2, 8000, .inl fl)), (a3, .inl (k3, 16, .inl rt))]) [0, 1, 2, 3, 4, 5, 6, 7] rfl
    have hDc := hD.sub (ws' := [(m0, .inr (1, [.ref h0, .ref b1, .ref b2, .ref b3, .int (nI lim), .int (nI kc), .int (nI nr), .int (nI nf), .int (nI nc)])), (b1, .inl (g1, 400, .inl mr)), (b2, .inl (g2, 400, .inl ch)), (b3, .inl (g3, 64, .inl kp)), (h0, .inr (0, [.ref a1, .ref a2, .ref a3, .int (nI N), .int fa])), (a1, .inl (k1, 400, .inl (pm_nf9 cn))), (a2, .inl (k2, 8000, .inl fl)), (a3, .inl (k3, 16, .inl rt))]) [0, 1, 2, 3, 4, 5, 6, 7] (by decide) rfl
    have hKc := hK.sub (tys' := [(g1, .boolean), (g2, .boolean), (g3, .int), (k1, .int), (k2, .int), (k3, .int)]) [0, 1, 2, 3, 4, 5] rfl
    have hFc := va_free (wc := [(m0, .inr (1, [.ref h0, .ref b1, .ref b2, .ref b3, .int (nI lim), .int (nI kc), .int (nI nr), .int (nI nf), .int (nI nc)])), (b1, .inl (g1, 400, .inl mr)), (b2, .inl (g2, 400, .inl ch)), (b3, .inl (g3, 64, .inl kp)), (h0, .inr (0, [.ref a1, .ref a2, .ref a3, .int (nI N), .int fa])), (a1, .inl (k1, 400, .inl (pm_nf9 cn))), (a2, .inl (k2, 8000, .inl fl)), (a3, .inl (k3, 16, .inl rt))]) hD hS hA [0, 1, 2, 3, 4, 5, 6, 7] rfl
    refine va_callv (va_runV (As := [.int (rt nr)]) (rest := []) ⟨hx, hb, hml, hown, hts⟩ (c_M_putMark l dC dI m0 b1 b2 b3 g1 g2 g3 mr ch kp lim kc nr nf nc h0 a1 a2 a3 k1 k2 k3 N cn fl rt fa (rt nr) H.size (hlim) (by omega) (by omega) (hN)) (cwV 1 hts (gw_V ml_X1_60 mi_X1_putMark ms_X1_putMark mn_X1 mc_X1_putMark) rfl rfl rfl (by decide +kernel) ⟨Nat.le_of_ble_eq_true rfl, Nat.le_of_ble_eq_true rfl⟩) ⟨fun a U g mk q => by obtain ⟨q0, q1, qP, qK, qD⟩ := q; exact ⟨q0, q1, qP, va_K.moved (u := U) (U := U.calling g mk a) (Vm.Alike.refl U.vm) qK, qD⟩, va_recv hKc hPc (ci := 1) (q0 := 0) rfl rfl, fun U hU hW => ⟨rfl, by rw [hU], by rw [hU]; exact hPc, va_K.moved hW.alike hKc, hDc.weaken (fun _ _ _ _ => trivial)⟩⟩ rfl rfl hl.1 rfl (lv_room (Nat.le_of_ble_eq_true rfl)) dX1_markStep_21 ⟨Nat.le_of_ble_eq_true rfl, Nat.le_of_ble_eq_true rfl⟩) hS (fun q _ h => hFc q h) hFc (fun u t H1 locs ht hvm hw hB hz1 hk1 hS => ?_)
    obtain ⟨mk9, kp9, kc9, nf9⟩ := u
    obtain ⟨hP1, hK1, hD1⟩ := hB
    rw [ht] at hP1
    have hK1 := va_K.moved hvm.symm hK1
    obtain ⟨hP, hD⟩ := va_join (wr := []) (w1 := [(m0, .inr (1, [.ref h0, .ref b1, .ref b2, .ref b3, .int (nI lim), .int (nI kc9), .int (nI nr), .int (nI nf9), .int (nI nc)])), (b1, .inl (g1, 400, .inl mk9)), (b2, .inl (g2, 400, .inl ch)), (b3, .inl (g3, 64, .inl kp9)), (h0, .inr (0, [.ref a1, .ref a2, .ref a3, .int (nI N), .int fa])), (a1, .inl (k1, 400, .inl (pm_nf9 cn))), (a2, .inl (k2, 8000, .inl fl)), (a3, .inl (k3, 16, .inl rt))]) hP hD [0, 1, 2, 3, 4, 5, 6, 7] [] rfl rfl (by decide) (by decide) hk1 hFc hP1 hD1
    clear hPc hDc hKc hFc hP1 hK1 hD1
    generalize H1 = H at hP hS ⊢
    have hP : va_P (dC, dI) vwCl [(m0, .inr (1, [.ref h0, .ref b1, .ref b2, .ref b3, .int (nI lim), .int (nI kc9), .int (nI nr), .int (nI nf9), .int (nI nc)])), (b1, .inl (g1, 400, .inl mk9)), (b2, .inl (g2, 400, .inl ch)), (b3, .inl (g3, 64, .inl kp9)), (h0, .inr (0, [.ref a1, .ref a2, .ref a3, .int (nI N), .int fa])), (a1, .inl (k1, 400, .inl (pm_nf9 cn))), (a2, .inl (k2, 8000, .inl fl)), (a3, .inl (k3, 16, .inl rt))] H := hP.sub [0, 1, 2, 3, 4, 5, 6, 7] rfl
    have hD : va_D A [(m0, .inr (1, [.ref h0, .ref b1, .ref b2, .ref b3, .int (nI lim), .int (nI kc9), .int (nI nr), .int (nI nf9), .int (nI nc)])), (b1, .inl (g1, 400, .inl mk9)), (b2, .inl (g2, 400, .inl ch)), (b3, .inl (g3, 64, .inl kp9)), (h0, .inr (0, [.ref a1, .ref a2, .ref a3, .int (nI N), .int fa])), (a1, .inl (k1, 400, .inl (pm_nf9 cn))), (a2, .inl (k2, 8000, .inl fl)), (a3, .inl (k3, 16, .inl rt))] := hD.sub [0, 1, 2, 3, 4, 5, 6, 7] (by decide) rfl
    refine lv_aload_n hx hb dX1_markStep_24 rfl (lv_at hl 0 rfl) ?_
    refine lv_dup hx hb dX1_markStep_25 rfl ?_
    refine va_get (D := (dC, dI)) (ci := 1) (v := .int (nI nr)) (C := RX1) (T := TX1) (N := 9) hx hb hts iw_X1 hown hK hP 0 rfl rfl 6 (by decide) (hts _ mf_X1_33) (fun _ h9 => h9) rfl dX1_markStep_26 ?_
    refine lv_iconst (v := nI 1) hx hb dX1_markStep_29 (by decide +kernel) ?_
    refine lv_iadd hx hb dX1_markStep_30 ?_
    refine lv_topi (fun x_10 ex_10 => ?_)
    obtain rfl : x_10 = nI (nr + 1) := ex_10.trans (nI_add _ _)
    refine va_put (D := (dC, dI)) (ci := 1) (v := .int (nI (nr + 1))) (ty := .int) (C := RX1) (T := TX1) (N := 9) hx hb hts iw_X1 tyX1 tyX1_ok nmX1 hown hK hP hD hS 0 rfl rfl 6 (by decide) (hts _ mf_X1_33) (fun _ h9 => h9) rfl (by decide +kernel) (rfl) (rfl) (Nat.le_of_ble_eq_true rfl) dX1_markStep_31 (fun H locs hP hD hS => ?_)
    have hP : va_P (dC, dI) vwCl [(m0, .inr (1, [.ref h0, .ref b1, .ref b2, .ref b3, .int (nI lim), .int (nI kc9), .int (nI (nr + 1)), .int (nI nf9), .int (nI nc)])), (b1, .inl (g1, 400, .inl mk9)), (b2, .inl (g2, 400, .inl ch)), (b3, .inl (g3, 64, .inl kp9)), (h0, .inr (0, [.ref a1, .ref a2, .ref a3, .int (nI N), .int fa])), (a1, .inl (k1, 400, .inl (pm_nf9 cn))), (a2, .inl (k2, 8000, .inl fl)), (a3, .inl (k3, 16, .inl rt))] H := hP
    have hD : va_D A [(m0, .inr (1, [.ref h0, .ref b1, .ref b2, .ref b3, .int (nI lim), .int (nI kc9), .int (nI (nr + 1)), .int (nI nf9), .int (nI nc)])), (b1, .inl (g1, 400, .inl mk9)), (b2, .inl (g2, 400, .inl ch)), (b3, .inl (g3, 64, .inl kp9)), (h0, .inr (0, [.ref a1, .ref a2, .ref a3, .int (nI N), .int fa])), (a1, .inl (k1, 400, .inl (pm_nf9 cn))), (a2, .inl (k2, 8000, .inl fl)), (a3, .inl (k3, 16, .inl rt))] := hD
    refine lv_iconst (v := nI 1) hx hb dX1_markStep_34 (by decide +kernel) ?_
    exact W.zret (v := nI 1) hx hb hr (by decide +kernel) (fun t ht hW => ⟨⟨nI 1, (mk9, ch, kp9, lim, kc9, nr + 1, nf9, nc), rfl, pm_sA c_6 hw, by rw [ht]; exact hP, va_K.moved hW.alike hK, hD⟩, hS.F ht⟩) hS.2.2 dX1_markStep_35

set_option maxHeartbeats 4000000 in
set_option maxRecDepth 100000 in
/-- Marker.cleanStep() -/
theorem c_M_cleanStep (l : Launch) (dC : Nat → ClassId) (dI : Nat → Nat → Nat) (m0 b1 b2 b3 : Nat) (g1 g2 g3 : ClassId) (mr ch kp : Nat → Int32) (lim kc nr nf nc : Nat) (h0 a1 a2 a3 : Nat) (k1 k2 k3 : ClassId) (N : Nat) (cn : Nat → Nat) (fl rt : Nat → Int32) (fa : Int32) (sz : Nat) (hN : N ≤ 400) (hc : ∀ k, k < N → cn k ≤ 20) (hlim : lim ≤ 64) (hkc : kc ≤ 64) (hnr : nr ≤ 16) (hnf : nf ≤ 400) (hnc : nc ≤ 400) : Met l yX1_cleanStep wsX1_cleanStep ({ frames := 4, cells := 0, slots := 0, locals := 88 }) (va_Pc [.ref m0] (fun U => U.heap.size = sz ∧ va_P (dC, dI) vwCl [(m0, .inr (1, [.ref h0, .ref b1, .ref b2, .ref b3, .int (nI lim), .int (nI kc), .int (nI nr), .int (nI nf), .int (nI nc)])), (b1, .inl (g1, 400, .inl mr)), (b2, .inl (g2, 400, .inl ch)), (b3, .inl (g3, 64, .inl kp)), (h0, .inr (0, [.ref a1, .ref a2, .ref a3, .int (nI N), .int fa])), (a1, .inl (k1, 400, .inl (pm_nf9 cn))), (a2, .inl (k2, 8000, .inl fl)), (a3, .inl (k3, 16, .inl rt))] U.heap ∧ va_K (dC, dI) vwCl [(g1, .boolean), (g2, .boolean), (g3, .int), (k1, .int), (k2, .int), (k3, .int)] U ∧ va_D (fun _ => True) [(m0, .inr (1, [.ref h0, .ref b1, .ref b2, .ref b3, .int (nI lim), .int (nI kc), .int (nI nr), .int (nI nf), .int (nI nc)])), (b1, .inl (g1, 400, .inl mr)), (b2, .inl (g2, 400, .inl ch)), (b3, .inl (g3, 64, .inl kp)), (h0, .inr (0, [.ref a1, .ref a2, .ref a3, .int (nI N), .int fa])), (a1, .inl (k1, 400, .inl (pm_nf9 cn))), (a2, .inl (k2, 8000, .inl fl)), (a3, .inl (k3, 16, .inl rt))])) (va_Qi (fun (r : Int32) (u : pm_M) => r = pm_b (pm_cs N cn fl (mr, ch, kp, lim, kc, nr, nf, nc)).1 ∧ u = (pm_cs N cn fl (mr, ch, kp, lim, kc, nr, nf, nc)).2) (fun (u : pm_M) (t : State) => va_P (dC, dI) vwCl [(m0, .inr (1, [.ref h0, .ref b1, .ref b2, .ref b3, .int (nI (u.2.2.2.1)), .int (nI (u.2.2.2.2.1)), .int (nI (u.2.2.2.2.2.1)), .int (nI (u.2.2.2.2.2.2.1)), .int (nI (u.2.2.2.2.2.2.2))])), (b1, .inl (g1, 400, .inl (u.1))), (b2, .inl (g2, 400, .inl (u.2.1))), (b3, .inl (g3, 64, .inl (u.2.2.1))), (h0, .inr (0, [.ref a1, .ref a2, .ref a3, .int (nI N), .int fa])), (a1, .inl (k1, 400, .inl (pm_nf9 cn))), (a2, .inl (k2, 8000, .inl fl)), (a3, .inl (k3, 16, .inl rt))] t.heap ∧ va_K (dC, dI) vwCl [(g1, .boolean), (g2, .boolean), (g3, .int), (k1, .int), (k2, .int), (k3, .int)] t ∧ va_D (va_A [(m0, .inr (1, [.ref h0, .ref b1, .ref b2, .ref b3, .int (nI lim), .int (nI kc), .int (nI nr), .int (nI nf), .int (nI nc)])), (b1, .inl (g1, 400, .inl mr)), (b2, .inl (g2, 400, .inl ch)), (b3, .inl (g3, 64, .inl kp)), (h0, .inr (0, [.ref a1, .ref a2, .ref a3, .int (nI N), .int fa])), (a1, .inl (k1, 400, .inl (pm_nf9 cn))), (a2, .inl (k2, 8000, .inl fl)), (a3, .inl (k3, 16, .inl rt))] sz) [(m0, .inr (1, [.ref h0, .ref b1, .ref b2, .ref b3, .int (nI (u.2.2.2.1)), .int (nI (u.2.2.2.2.1)), .int (nI (u.2.2.2.2.2.1)), .int (nI (u.2.2.2.2.2.2.1)), .int (nI (u.2.2.2.2.2.2.2))])), (b1, .inl (g1, 400, .inl (u.1))), (b2, .inl (g2, 400, .inl (u.2.1))), (b3, .inl (g3, 64, .inl (u.2.2.1))), (h0, .inr (0, [.ref a1, .ref a2, .ref a3, .int (nI N), .int fa])), (a1, .inl (k1, 400, .inl (pm_nf9 cn))), (a2, .inl (k2, 8000, .inl fl)), (a3, .inl (k3, 16, .inl rt))]) (va_A [(m0, .inr (1, [.ref h0, .ref b1, .ref b2, .ref b3, .int (nI lim), .int (nI kc), .int (nI nr), .int (nI nf), .int (nI nc)])), (b1, .inl (g1, 400, .inl mr)), (b2, .inl (g2, 400, .inl ch)), (b3, .inl (g3, 64, .inl kp)), (h0, .inr (0, [.ref a1, .ref a2, .ref a3, .int (nI N), .int fa])), (a1, .inl (k1, 400, .inl (pm_nf9 cn))), (a2, .inl (k2, 8000, .inl fl)), (a3, .inl (k3, 16, .inl rt))] sz)) 0 0 (va_A [(m0, .inr (1, [.ref h0, .ref b1, .ref b2, .ref b3, .int (nI lim), .int (nI kc), .int (nI nr), .int (nI nf), .int (nI nc)])), (b1, .inl (g1, 400, .inl mr)), (b2, .inl (g2, 400, .inl ch)), (b3, .inl (g3, 64, .inl kp)), (h0, .inr (0, [.ref a1, .ref a2, .ref a3, .int (nI N), .int fa])), (a1, .inl (k1, 400, .inl (pm_nf9 cn))), (a2, .inl (k2, 8000, .inl fl)), (a3, .inl (k3, 16, .inl rt))] sz) := by
  refine Met.ofW (cc := cX1_cleanStep) (maxL := 2) (ret := (some .boolean)) (by decide) rfl ?_
  intro p e s m args below meth c s₁ B hml hv
  obtain ⟨rfl, hsz, hP, hK, hD0⟩ := hv
  have hx := B.exec
  have hb := B.bytes
  have hr := B.returns
  have hts : ∀ w ∈ gw, w.before _ s = true := fun w h => atoms_spec (ws := wsX1_cleanStep) B.pre w (List.mem_cons_of_mem _ h)
  have hown : s.vm.findClass RX1 = some m.cls := findClass_of_methodNamed B.named
  have hlocks := B.notSynchronized
  subst hsz
  have hD := hD0.self (sz := s.heap.size)
  generalize hAe : va_A [(m0, .inr (1, [.ref h0, .ref b1, .ref b2, .ref b3, .int (nI lim), .int (nI kc), .int (nI nr), .int (nI nf), .int (nI nc)])), (b1, .inl (g1, 400, .inl mr)), (b2, .inl (g2, 400, .inl ch)), (b3, .inl (g3, 64, .inl kp)), (h0, .inr (0, [.ref a1, .ref a2, .ref a3, .int (nI N), .int fa])), (a1, .inl (k1, 400, .inl (pm_nf9 cn))), (a2, .inl (k2, 8000, .inl fl)), (a3, .inl (k3, 16, .inl rt))] s.heap.size = A at hD ⊢
  have hA : ∀ q : Nat, s.heap.size ≤ q → A q := fun q h => by rw [← hAe]; exact Or.inr h
  have hP : va_P (dC, dI) vwCl [(m0, .inr (1, [.ref h0, .ref b1, .ref b2, .ref b3, .int (nI lim), .int (nI kc), .int (nI nr), .int (nI nf), .int (nI nc)])), (b1, .inl (g1, 400, .inl mr)), (b2, .inl (g2, 400, .inl ch)), (b3, .inl (g3, 64, .inl kp)), (h0, .inr (0, [.ref a1, .ref a2, .ref a3, .int (nI N), .int fa])), (a1, .inl (k1, 400, .inl (pm_nf9 cn))), (a2, .inl (k2, 8000, .inl fl)), (a3, .inl (k3, 16, .inl rt))] s.heap := hP
  have hl := lv_entry ([.ref m0]) (n := 2) (Nat.le_of_ble_eq_true rfl)
  rw [lg_entry_eq]
  generalize (lg_sl ([.ref m0]) ++ List.replicate (2 - (lg_sl ([.ref m0])).length) Slot.unset).toArray = ls at hl ⊢
  have hl : lv_has ls 2 [(0, .ref m0)] := hl
  obtain ⟨H, hH⟩ : ∃ H : Heap, H = s.heap := ⟨_, rfl⟩
  rw [← hH]
  rw [← hH] at hP
  have hS : va_S A s.heap H [] := by rw [hH]; exact va_S.rf
  clear hH
  refine lv_aload_n hx hb dX1_cleanStep_0 rfl (lv_at hl 0 rfl) ?_
  refine va_get (D := (dC, dI)) (ci := 1) (v := .int (nI nc)) (C := RX1) (T := TX1) (N := 9) hx hb hts iw_X1 hown hK hP 0 rfl rfl 8 (by decide) (hts _ mf_X1_39) (fun _ h9 => h9) rfl dX1_cleanStep_1 ?_
  refine lv_aload_n hx hb dX1_cleanStep_4 rfl (lv_at hl 0 rfl) ?_
  refine va_get (D := (dC, dI)) (ci := 1) (v := .ref h0) (C := RX1) (T := TX1) (N := 9) hx hb hts iw_X1 hown hK hP 0 rfl rfl 0 (by decide) (hts _ mf_X1_9) (fun _ h9 => h9) rfl dX1_cleanStep_5 ?_
  have hPc := hP.sub (ws' := [(h0, .inr (0, [.ref a1, .ref a2, .ref a3, .int (nI N), .int fa])), (a1, .inl (k1, 400, .inl (pm_nf9 cn))), (a2, .inl (k2, 8000, .inl fl)), (a3, .inl (k3, 16, .inl rt))]) [4, 5, 6, 7] rfl
  have hDc := hD.sub (ws' := [(h0, .inr (0, [.ref a1, .ref a2, .ref a3, .int (nI N), .int fa])), (a1, .inl (k1, 400, .inl (pm_nf9 cn))), (a2, .inl (k2, 8000, .inl fl)), (a3, .inl (k3, 16, .inl rt))]) [4, 5, 6, 7] (by decide) rfl
  have hKc := hK.sub (tys' := [(k1, .int), (k2, .int), (k3, .int)]) [3, 4, 5] rfl
  have hFc := va_free (wc := [(h0, .inr (0, [.ref a1, .ref a2, .ref a3, .int (nI N), .int fa])), (a1, .inl (k1, 400, .inl (pm_nf9 cn))), (a2, .inl (k2, 8000, .inl fl)), (a3, .inl (k3, 16, .inl rt))]) hD hS hA [4, 5, 6, 7] rfl
  refine va_calli (va_runV (As := []) (rest := [.int (nI nc)]) ⟨hx, hb, hml, hown, hts⟩ (c_H_countOfObjects l dC dI h0 a1 a2 a3 k1 k2 k3 N cn fl rt fa H.size) (cwV 0 hts (gw_V ml_X1_67 mi_X0_countOfObjects ms_X0_countOfObjects mn_X0 mc_X0_countOfObjects) rfl rfl rfl (by decide +kernel) ⟨Nat.le_of_ble_eq_true rfl, Nat.le_of_ble_eq_true rfl⟩) ⟨fun a U g mk q => by obtain ⟨q0, q1, qP, qK, qD⟩ := q; exact ⟨q0, q1, qP, va_K.moved (u := U) (U := U.calling g mk a) (Vm.Alike.refl U.vm) qK, qD⟩, va_recv hKc hPc (ci := 0) (q0 := 0) rfl rfl, fun U hU hW => ⟨rfl, by rw [hU], by rw [hU]; exact hPc, va_K.moved hW.alike hKc, hDc.weaken (fun _ _ _ _ => trivial)⟩⟩ rfl rfl hl.1 rfl (lv_room (Nat.le_of_ble_eq_true rfl)) dX1_cleanStep_8 ⟨Nat.le_of_ble_eq_true rfl, Nat.le_of_ble_eq_true rfl⟩) hS (fun q _ h => hFc q h) hFc (fun r_1 u t H1 locs ht hvm hw hB hz1 hk1 hS => ?_)
  obtain ⟨hP1, hK1, hD1⟩ := hB
  rw [ht] at hP1
  have hK1 := va_K.moved hvm.symm hK1
  obtain ⟨hP, hD⟩ := va_join (wr := [(m0, .inr (1, [.ref h0, .ref b1, .ref b2, .ref b3, .int (nI lim), .int (nI kc), .int (nI nr), .int (nI nf), .int (nI nc)])), (b1, .inl (g1, 400, .inl mr)), (b2, .inl (g2, 400, .inl ch)), (b3, .inl (g3, 64, .inl kp))]) (w1 := [(h0, .inr (0, [.ref a1, .ref a2, .ref a3, .int (nI N), .int fa])), (a1, .inl (k1, 400, .inl (pm_nf9 cn))), (a2, .inl (k2, 8000, .inl fl)), (a3, .inl (k3, 16, .inl rt))]) hP hD [4, 5, 6, 7] [0, 1, 2, 3] rfl rfl (by decide) (by decide) hk1 hFc hP1 hD1
  clear hPc hDc hKc hFc hP1 hK1 hD1
  generalize H1 = H at hP hS ⊢
  have hP : va_P (dC, dI) vwCl [(m0, .inr (1, [.ref h0, .ref b1, .ref b2, .ref b3, .int (nI lim), .int (nI kc), .int (nI nr), .int (nI nf), .int (nI nc)])), (b1, .inl (g1, 400, .inl mr)), (b2, .inl (g2, 400, .inl ch)), (b3, .inl (g3, 64, .inl kp)), (h0, .inr (0, [.ref a1, .ref a2, .ref a3, .int (nI N), .int fa])), (a1, .inl (k1, 400, .inl (pm_nf9 cn))), (a2, .inl (k2, 8000, .inl fl)), (a3, .inl (k3, 16, .inl rt))] H := hP.sub [0, 1, 2, 3, 4, 5, 6, 7] rfl
  have hD : va_D A [(m0, .inr (1, [.ref h0, .ref b1, .ref b2, .ref b3, .int (nI lim), .int (nI kc), .int (nI nr), .int (nI nf), .int (nI nc)])), (b1, .inl (g1, 400, .inl mr)), (b2, .inl (g2, 400, .inl ch)), (b3, .inl (g3, 64, .inl kp)), (h0, .inr (0, [.ref a1, .ref a2, .ref a3, .int (nI N), .int fa])), (a1, .inl (k1, 400, .inl (pm_nf9 cn))), (a2, .inl (k2, 8000, .inl fl)), (a3, .inl (k3, 16, .inl rt))] := hD.sub [0, 1, 2, 3, 4, 5, 6, 7] (by decide) rfl
  obtain rfl : r_1 = nI N := hw.trans (rfl)
  refine lv_icmp_lt (tgt := 16) hx hb dX1_cleanStep_11 (by decide) (fun c_11 => ?_) (fun c_11 => ?_)
  · rw [nI_ltI (by omega) (by omega)] at c_11
    refine lv_aload_n hx hb dX1_cleanStep_16 rfl (lv_at hl 0 rfl) ?_
    refine va_get (D := (dC, dI)) (ci := 1) (v := .int (nI nc)) (C := RX1) (T := TX1) (N := 9) hx hb hts iw_X1 hown hK hP 0 rfl rfl 8 (by decide) (hts _ mf_X1_39) (fun _ h9 => h9) rfl dX1_cleanStep_17 ?_
    refine lv_istore_n (lv' := [(1, .int (nI nc)), (0, .ref m0)]) hx hb dX1_cleanStep_20 rfl hl (by decide) rfl (fun ls hl => ?_)
    refine lv_aload_n hx hb dX1_cleanStep_21 rfl (lv_at hl 1 rfl) ?_
    refine lv_dup hx hb dX1_cleanStep_22 rfl ?_
    refine va_get (D := (dC, dI)) (ci := 1) (v := .int (nI nc)) (C := RX1) (T := TX1) (N := 9) hx hb hts iw_X1 hown hK hP 0 rfl rfl 8 (by decide) (hts _ mf_X1_39) (fun _ h9 => h9) rfl dX1_cleanStep_23 ?_
    refine lv_iconst (v := nI 1) hx hb dX1_cleanStep_26 (by decide +kernel) ?_
    refine lv_iadd hx hb dX1_cleanStep_27 ?_
    refine lv_topi (fun x_2 ex_2 => ?_)
    obtain rfl : x_2 = nI (nc + 1) := ex_2.trans (nI_add _ _)
    refine va_put (D := (dC, dI)) (ci := 1) (v := .int (nI (nc + 1))) (ty := .int) (C := RX1) (T := TX1) (N := 9) hx hb hts iw_X1 tyX1 tyX1_ok nmX1 hown hK hP hD hS 0 rfl rfl 8 (by decide) (hts _ mf_X1_39) (fun _ h9 => h9) rfl (by decide +kernel) (rfl) (rfl) (Nat.le_of_ble_eq_true rfl) dX1_cleanStep_28 (fun H locs hP hD hS => ?_)
    have hP : va_P (dC, dI) vwCl [(m0, .inr (1, [.ref h0, .ref b1, .ref b2, .ref b3, .int (nI lim), .int (nI kc), .int (nI nr), .int (nI nf), .int (nI (nc + 1))])), (b1, .inl (g1, 400, .inl mr)), (b2, .inl (g2, 400, .inl ch)), (b3, .inl (g3, 64, .inl kp)), (h0, .inr (0, [.ref a1, .ref a2, .ref a3, .int (nI N), .int fa])), (a1, .inl (k1, 400, .inl (pm_nf9 cn))), (a2, .inl (k2, 8000, .inl fl)), (a3, .inl (k3, 16, .inl rt))] H := hP
    have hD : va_D A [(m0, .inr (1, [.ref h0, .ref b1, .ref b2, .ref b3, .int (nI lim), .int (nI kc), .int (nI nr), .int (nI nf), .int (nI (nc + 1))])), (b1, .inl (g1, 400, .inl mr)), (b2, .inl (g2, 400, .inl ch)), (b3, .inl (g3, 64, .inl kp)), (h0, .inr (0, [.ref a1, .ref a2, .ref a3, .int (nI N), .int fa])), (a1, .inl (k1, 400, .inl (pm_nf9 cn))), (a2, .inl (k2, 8000, .inl fl)), (a3, .inl (k3, 16, .inl rt))] := hD
    refine lv_aload_n hx hb dX1_cleanStep_31 rfl (lv_at hl 1 rfl) ?_
    refine va_get (D := (dC, dI)) (ci := 1) (v := .ref h0) (C := RX1) (T := TX1) (N := 9) hx hb hts iw_X1 hown hK hP 0 rfl rfl 0 (by decide) (hts _ mf_X1_9) (fun _ h9 => h9) rfl dX1_cleanStep_32 ?_
    refine lv_iload_n hx hb dX1_cleanStep_35 rfl (lv_at hl 0 rfl) ?_
    have hPc := hP.sub (ws' := [(h0, .inr (0, [.ref a1, .ref a2, .ref a3, .int (nI N), .int fa])), (a1, .inl (k1, 400, .inl (pm_nf9 cn))), (a2, .inl (k2, 8000, .inl fl)), (a3, .inl (k3, 16, .inl rt))]) [4, 5, 6, 7] rfl
    have hDc := hD.sub (ws' := [(h0, .inr (0, [.ref a1, .ref a2, .ref a3, .int (nI N), .int fa])), (a1, .inl (k1, 400, .inl (pm_nf9 cn))), (a2, .inl (k2, 8000, .inl fl)), (a3, .inl (k3, 16, .inl rt))]) [4, 5, 6, 7] (by decide) rfl
    have hKc := hK.sub (tys' := [(k1, .int), (k2, .int), (k3, .int)]) [3, 4, 5] rfl
    have hFc := va_free (wc := [(h0, .inr (0, [.ref a1, .ref a2, .ref a3, .int (nI N), .int fa])), (a1, .inl (k1, 400, .inl (pm_nf9 cn))), (a2, .inl (k2, 8000, .inl fl)), (a3, .inl (k3, 16, .inl rt))]) hD hS hA [4, 5, 6, 7] rfl
    refine va_calli (va_runV (As := [.int (nI nc)]) (rest := []) ⟨hx, hb, hml, hown, hts⟩ (c_H_has l dC dI h0 a1 a2 a3 k1 k2 k3 N cn fl rt fa (nI nc) H.size) (cwV 1 hts (gw_V ml_X1_42 mi_X0_has ms_X0_has mn_X0 mc_X0_has) rfl rfl rfl (by decide +kernel) ⟨Nat.le_of_ble_eq_true rfl, Nat.le_of_ble_eq_true rfl⟩) ⟨fun a U g mk q => by obtain ⟨q0, q1, qP, qK, qD⟩ := q; exact ⟨q0, q1, qP, va_K.moved (u := U) (U := U.calling g mk a) (Vm.Alike.refl U.vm) qK, qD⟩, va_recv hKc hPc (ci := 0) (q0 := 0) rfl rfl, fun U hU hW => ⟨rfl, by rw [hU], by rw [hU]; exact hPc, va_K.moved hW.alike hKc, hDc.weaken (fun _ _ _ _ => trivial)⟩⟩ rfl rfl hl.1 rfl (lv_room (Nat.le_of_ble_eq_true rfl)) dX1_cleanStep_36 ⟨Nat.le_of_ble_eq_true rfl, Nat.le_of_ble_eq_true rfl⟩) hS (fun q _ h => hFc q h) hFc (fun r_3 u t H1 locs ht hvm hw hB hz1 hk1 hS => ?_)
    obtain ⟨hP1, hK1, hD1⟩ := hB
    rw [ht] at hP1
    have hK1 := va_K.moved hvm.symm hK1
    obtain ⟨hP, hD⟩ := va_join (wr := [(m0, .inr (1, [.ref h0, .ref b1, .ref b2, .ref b3, .int (nI lim), .int (nI kc), .int (nI nr), .int (nI nf), .int (nI (nc + 1))])), (b1, .inl (g1, 400, .inl mr)), (b2, .inl (g2, 400, .inl ch)), (b3, .inl (g3, 64, .inl kp))]) (w1 := [(h0, .inr (0, [.ref a1, .ref a2, .ref a3, .int (nI N), .int fa])), (a1, .inl (k1, 400, .inl (pm_nf9 cn))), (a2, .inl (k2, 8000, .inl fl)), (a3, .inl (k3, 16, .inl rt))]) hP hD [4, 5, 6, 7] [0, 1, 2, 3] rfl rfl (by decide) (by decide) hk1 hFc hP1 hD1
    clear hPc hDc hKc hFc hP1 hK1 hD1
    generalize H1 = H at hP hS ⊢
    have hP : va_P (dC, dI) vwCl [(m0, .inr (1, [.ref h0, .ref b1, .ref b2, .ref b3, .int (nI lim), .int (nI kc), .int (nI nr), .int (nI nf), .int (nI (nc + 1))])), (b1, .inl (g1, 400, .inl mr)), (b2, .inl (g2, 400, .inl ch)), (b3, .inl (g3, 64, .inl kp)), (h0, .inr (0, [.ref a1, .ref a2, .ref a3, .int (nI N), .int fa])), (a1, .inl (k1, 400, .inl (pm_nf9 cn))), (a2, .inl (k2, 8000, .inl fl)), (a3, .inl (k3, 16, .inl rt))] H := hP.sub [0, 1, 2, 3, 4, 5, 6, 7] rfl
    have hD : va_D A [(m0, .inr (1, [.ref h0, .ref b1, .ref b2, .ref b3, .int (nI lim), .int (nI kc), .int (nI nr), .int (nI nf), .int (nI (nc + 1))])), (b1, .inl (g1, 400, .inl mr)), (b2, .inl (g2, 400, .inl ch)), (b3, .inl (g3, 64, .inl kp)), (h0, .inr (0, [.ref a1, .ref a2, .ref a3, .int (nI N), .int fa])), (a1, .inl (k1, 400, .inl (pm_nf9 cn))), (a2, .inl (k2, 8000, .inl fl)), (a3, .inl (k3, 16, .inl rt))] := hD.sub [0, 1, 2, 3, 4, 5, 6, 7] (by decide) rfl
    rcases pm_tf (pm_has N (nI nc)) with hh_36 | hh_36
    · obtain rfl : r_3 = nI 1 := hw.trans (by rw [hh_36]; rfl)
      refine lv_if_eq (tgt := 72) hx hb dX1_cleanStep_39 (by decide) (fun c_39 => absurd c_39 (by decide +kernel)) (fun c_39 => ?_)
      refine lv_aload_n hx hb dX1_cleanStep_42 rfl (lv_at hl 1 rfl) ?_
      refine va_get (D := (dC, dI)) (ci := 1) (v := .ref b2) (C := RX1) (T := TX1) (N := 9) hx hb hts iw_X1 hown hK hP 0 rfl rfl 2 (by decide) (hts _ mf_X1_19) (fun _ h9 => h9) rfl dX1_cleanStep_43 ?_
      refine lv_iload_n hx hb dX1_cleanStep_46 rfl (lv_at hl 0 rfl) ?_
      refine va_zald hx hb hK hP 2 1 rfl rfl (vp_in_nI (by omega) (by omega)) dX1_cleanStep_47 ?_
      refine lv_topi (fun x_4 ex_4 => ?_)
      rw [nI_clamp (by omega)] at ex_4
      subst ex_4
      refine lv_if_eq (tgt := 72) hx hb dX1_cleanStep_48 (by decide) (fun c_48 => ?_) (fun c_48 => ?_)
      · refine lv_iconst (v := nI 1) hx hb dX1_cleanStep_72 (by decide +kernel) ?_
        exact W.zret (v := nI 1) hx hb hr (by decide +kernel) (fun t ht hW => ⟨⟨nI 1, (mr, ch, kp, lim, kc, nr, nf, nc + 1), rfl, pm_cB c_11 c_48, by rw [ht]; exact hP, va_K.moved hW.alike hK, hD⟩, hS.F ht⟩) hS.2.2 dX1_cleanStep_73
      · refine lv_aload_n hx hb dX1_cleanStep_51 rfl (lv_at hl 1 rfl) ?_
        refine va_get (D := (dC, dI)) (ci := 1) (v := .ref b2) (C := RX1) (T := TX1) (N := 9) hx hb hts iw_X1 hown hK hP 0 rfl rfl 2 (by decide) (hts _ mf_X1_19) (fun _ h9 => h9) rfl dX1_cleanStep_52 ?_
        refine lv_iload_n hx hb dX1_cleanStep_55 rfl (lv_at hl 0 rfl) ?_
        refine lv_iconst (v := nI 0) hx hb dX1_cleanStep_56 (by decide +kernel) ?_
        refine va_zast hx hb hK hP hD hS 2 1 rfl rfl (vp_in_nI (by omega) (by omega)) dX1_cleanStep_57 (fun H locs hP hD hS => ?_)
        rw [nI_clamp (by omega)] at hP hD
        rw [pm_z0] at hP hD
        have hP : va_P (dC, dI) vwCl [(m0, .inr (1, [.ref h0, .ref b1, .ref b2, .ref b3, .int (nI lim), .int (nI kc), .int (nI nr), .int (nI nf), .int (nI (nc + 1))])), (b1, .inl (g1, 400, .inl mr)), (b2, .inl (g2, 400, .inl (upd ch nc 0))), (b3, .inl (g3, 64, .inl kp)), (h0, .inr (0, [.ref a1, .ref a2, .ref a3, .int (nI N), .int fa])), (a1, .inl (k1, 400, .inl (pm_nf9 cn))), (a2, .inl (k2, 8000, .inl fl)), (a3, .inl (k3, 16, .inl rt))] H := hP
        have hD : va_D A [(m0, .inr (1, [.ref h0, .ref b1, .ref b2, .ref b3, .int (nI lim), .int (nI kc), .int (nI nr), .int (nI nf), .int (nI (nc + 1))])), (b1, .inl (g1, 400, .inl mr)), (b2, .inl (g2, 400, .inl (upd ch nc 0))), (b3, .inl (g3, 64, .inl kp)), (h0, .inr (0, [.ref a1, .ref a2, .ref a3, .int (nI N), .int fa])), (a1, .inl (k1, 400, .inl (pm_nf9 cn))), (a2, .inl (k2, 8000, .inl fl)), (a3, .inl (k3, 16, .inl rt))] := hD
        refine lv_aload_n hx hb dX1_cleanStep_58 rfl (lv_at hl 1 rfl) ?_
        refine va_get (D := (dC, dI)) (ci := 1) (v := .ref b1) (C := RX1) (T := TX1) (N := 9) hx hb hts iw_X1 hown hK hP 0 rfl rfl 1 (by decide) (hts _ mf_X1_15) (fun _ h9 => h9) rfl dX1_cleanStep_59 ?_
        refine lv_iload_n hx hb dX1_cleanStep_62 rfl (lv_at hl 0 rfl) ?_
        refine va_zald hx hb hK hP 1 0 rfl rfl (vp_in_nI (by omega) (by omega)) dX1_cleanStep_63 ?_
        refine lv_topi (fun x_5 ex_5 => ?_)
        rw [nI_clamp (by omega)] at ex_5
        subst ex_5
        refine lv_if_eq (tgt := 72) hx hb dX1_cleanStep_64 (by decide) (fun c_64 => ?_) (fun c_64 => ?_)
        · refine lv_iconst (v := nI 1) hx hb dX1_cleanStep_72 (by decide +kernel) ?_
          exact W.zret (v := nI 1) hx hb hr (by decide +kernel) (fun t ht hW => ⟨⟨nI 1, (mr, upd ch nc 0, kp, lim, kc, nr, nf, nc + 1), rfl, pm_cC c_11 c_48 c_64, by rw [ht]; exact hP, va_K.moved hW.alike hK, hD⟩, hS.F ht⟩) hS.2.2 dX1_cleanStep_73
        · refine lv_aload_n hx hb dX1_cleanStep_67 rfl (lv_at hl 1 rfl) ?_
          refine lv_iload_n hx hb dX1_cleanStep_68 rfl (lv_at hl 0 rfl) ?_
          have hPc := hP.sub (ws' := [(m0, .inr (1, [.ref h0, .ref b1, .ref b2, .ref b3, .int (nI lim), .int (nI kc), .int (nI nr), .int (nI nf), .int (nI (nc + 1))])), (b1, .inl (g1, 400, .inl mr)), (b2, .inl (g2, 400, .inl (upd ch nc 0))), (b3, .inl (g3, 64, .inl kp)), (h0, .inr (0, [.ref a1, .ref a2, .ref a3, .int (nI N), .int fa])), (a1, .inl (k1, 400, .inl (pm_nf9 cn))), (a2, .inl (k2, 8000, .inl fl)), (a3, .inl (k3, 16, .inl rt))]) [0, 1, 2, 3, 4, 5, 6, 7] rfl
          have hDc := hD.sub (ws' := [(m0, .inr (1, [.ref h0, .ref b1, .ref b2, .ref b3, .int (nI lim), .int (nI kc), .int (nI nr), .int (nI nf), .int (nI (nc + 1))])), (b1, .inl (g1, 400, .inl mr)), (b2, .inl (g2, 400, .inl (upd ch nc 0))), (b3, .inl (g3, 64, .inl kp)), (h0, .inr (0, [.ref a1, .ref a2, .ref a3, .int (nI N), .int fa])), (a1, .inl (k1, 400, .inl (pm_nf9 cn))), (a2, .inl (k2, 8000, .inl fl)), (a3, .inl (k3, 16, .inl rt))]) [0, 1, 2, 3, 4, 5, 6, 7] (by decide) rfl
          have hKc := hK.sub (tys' := [(g1, .boolean), (g2, .boolean), (g3, .int), (k1, .int), (k2, .int), (k3, .int)]) [0, 1, 2, 3, 4, 5] rfl
          have hFc := va_free (wc := [(m0, .inr (1, [.ref h0, .ref b1, .ref b2, .ref b3, .int (nI lim), .int (nI kc), .int (nI nr), .int (nI nf), .int (nI (nc + 1))])), (b1, .inl (g1, 400, .inl mr)), (b2, .inl (g2, 400, .inl (upd ch nc 0))), (b3, .inl (g3, 64, .inl kp)), (h0, .inr (0, [.ref a1, .ref a2, .ref a3, .int (nI N), .int fa])), (a1, .inl (k1, 400, .inl (pm_nf9 cn))), (a2, .inl (k2, 8000, .inl fl)), (a3, .inl (k3, 16, .inl rt))]) hD hS hA [0, 1, 2, 3, 4, 5, 6, 7] rfl
          refine va_callv (va_runV (As := [.int (nI nc)]) (rest := []) ⟨hx, hb, hml, hown, hts⟩ (c_M_markFieldsOf l dC dI m0 b1 b2 b3 g1 g2 g3 mr (upd ch nc 0) kp lim kc nr nf (nc + 1) h0 a1 a2 a3 k1 k2 k3 N cn fl rt fa (nI nc) H.size (hlim) (by omega) (by omega) (hN) (hc)) (cwV 1 hts (gw_V ml_X1_64 mi_X1_markFieldsOf ms_X1_markFieldsOf mn_X1 mc_X1_markFieldsOf) rfl rfl rfl (by decide +kernel) ⟨Nat.le_of_ble_eq_true rfl, Nat.le_of_ble_eq_true rfl⟩) ⟨fun a U g mk q => by obtain ⟨q0, q1, qP, qK, qD⟩ := q; exact ⟨q0, q1, qP, va_K.moved (u := U) (U := U.calling g mk a) (Vm.Alike.refl U.vm) qK, qD⟩, va_recv hKc hPc (ci := 1) (q0 := 0) rfl rfl, fun U hU hW => ⟨rfl, by rw [hU], by rw [hU]; exact hPc, va_K.moved hW.alike hKc, hDc.weaken (fun _ _ _ _ => trivial)⟩⟩ rfl rfl hl.1 rfl (lv_room (Nat.le_of_ble_eq_true rfl)) dX1_cleanStep_69 ⟨Nat.le_of_ble_eq_true rfl, Nat.le_of_ble_eq_true rfl⟩) hS (fun q _ h => hFc q h) hFc (fun u t H1 locs ht hvm hw hB hz1 hk1 hS => ?_)
          obtain ⟨mk9, kp9, kc9, nf9⟩ := u
          obtain ⟨hP1, hK1, hD1⟩ := hB
          rw [ht] at hP1
          have hK1 := va_K.moved hvm.symm hK1
          obtain ⟨hP, hD⟩ := va_join (wr := []) (w1 := [(m0, .inr (1, [.ref h0, .ref b1, .ref b2, .ref b3, .int (nI lim), .int (nI kc9), .int (nI nr), .int (nI nf9), .int (nI (nc + 1))])), (b1, .inl (g1, 400, .inl mk9)), (b2, .inl (g2, 400, .inl (upd ch nc 0))), (b3, .inl (g3, 64, .inl kp9)), (h0, .inr (0, [.ref a1, .ref a2, .ref a3, .int (nI N), .int fa])), (a1, .inl (k1, 400, .inl (pm_nf9 cn))), (a2, .inl (k2, 8000, .inl fl)), (a3, .inl (k3, 16, .inl rt))]) hP hD [0, 1, 2, 3, 4, 5, 6, 7] [] rfl rfl (by decide) (by decide) hk1 hFc hP1 hD1
          clear hPc hDc hKc hFc hP1 hK1 hD1
          generalize H1 = H at hP hS ⊢
          have hP : va_P (dC, dI) vwCl [(m0, .inr (1, [.ref h0, .ref b1, .ref b2, .ref b3, .int (nI lim), .int (nI kc9), .int (nI nr), .int (nI nf9), .int (nI (nc + 1))])), (b1, .inl (g1, 400, .inl mk9)), (b2, .inl (g2, 400, .inl (upd ch nc 0))), (b3, .inl (g3, 64, .inl kp9)), (h0, .inr (0, [.ref a1, .ref a2, .ref a3, .int (nI N), .int fa])), (a1, .inl (k1, 400, .inl (pm_nf9 cn))), (a2, .inl (k2, 8000, .inl fl)), (a3, .inl (k3, 16, .inl rt))] H := hP.sub [0, 1, 2, 3, 4, 5, 6, 7] rfl
          have hD : va_D A [(m0, .inr (1, [.ref h0, .ref b1, .ref b2, .ref b3, .int (nI lim), .int (nI kc9), .int (nI nr), .int (nI nf9), .int (nI (nc + 1))])), (b1, .inl (g1, 400, .inl mk9)), (b2, .inl (g2, 400, .inl (upd ch nc 0))), (b3, .inl (g3, 64, .inl kp9)), (h0, .inr (0, [.ref a1, .ref a2, .ref a3, .int (nI N), .int fa])), (a1, .inl (k1, 400, .inl (pm_nf9 cn))), (a2, .inl (k2, 8000, .inl fl)), (a3, .inl (k3, 16, .inl rt))] := hD.sub [0, 1, 2, 3, 4, 5, 6, 7] (by decide) rfl
          refine lv_iconst (v := nI 1) hx hb dX1_cleanStep_72 (by decide +kernel) ?_
          exact W.zret (v := nI 1) hx hb hr (by decide +kernel) (fun t ht hW => ⟨⟨nI 1, (mk9, upd ch nc 0, kp9, lim, kc9, nr, nf9, nc + 1), rfl, pm_cD c_11 c_48 c_64 hw, by rw [ht]; exact hP, va_K.moved hW.alike hK, hD⟩, hS.F ht⟩) hS.2.2 dX1_cleanStep_73
    · exact absurd (pm_has_nI (by omega) c_11) (by rw [hh_36]; decide)
  · rw [nI_ltI (by omega) (by omega)] at c_11
    refine lv_iconst (v := nI 0) hx hb dX1_cleanStep_14 (by decide +kernel) ?_
    exact W.zret (v := nI 0) hx hb hr (by decide +kernel) (fun t ht hW => ⟨⟨nI 0, (mr, ch, kp, lim, kc, nr, nf, nc), rfl, pm_cA c_11, by rw [ht]; exact hP, va_K.moved hW.alike hK, hD⟩, hS.F ht⟩) hS.2.2 dX1_cleanStep_15
