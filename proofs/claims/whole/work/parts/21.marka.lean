set_option maxHeartbeats 4000000 in
set_option maxRecDepth 100000 in
/-- Marker.keepOrForget(k): on the pile, or forgotten -/
theorem c_M_keepOrForget (l : Launch) (dC : Nat → ClassId) (dI : Nat → Nat → Nat) (m0 b1 b2 b3 : Nat) (g1 g2 g3 : ClassId) (mr ch kp : Nat → Int32) (lim kc nr nf nc : Nat) (h0 a1 a2 a3 : Nat) (k1 k2 k3 : ClassId) (N : Nat) (cn : Nat → Nat) (fl rt : Nat → Int32) (fa : Int32) (j : Nat) (sz : Nat) (hlim : lim ≤ 64) (hkc : kc ≤ 64) (hnf : nf ≤ 400) (hj : j < 400) : Met l yX1_keepOrForget wsX1_keepOrForget ({ frames := 0, cells := 0, slots := 0, locals := 0 }) (va_Pc [.ref m0, .int (nI j)] (fun U => U.heap.size = sz ∧ va_P (dC, dI) vwCl [(m0, .inr (1, [.ref h0, .ref b1, .ref b2, .ref b3, .int (nI lim), .int (nI kc), .int (nI nr), .int (nI nf), .int (nI nc)])), (b3, .inl (g3, 64, .inl kp))] U.heap ∧ va_K (dC, dI) vwCl [(g3, .int)] U ∧ va_D (fun _ => True) [(m0, .inr (1, [.ref h0, .ref b1, .ref b2, .ref b3, .int (nI lim), .int (nI kc), .int (nI nr), .int (nI nf), .int (nI nc)])), (b3, .inl (g3, 64, .inl kp))])) (va_Qv (fun (u : pm_P) => u = pm_keep lim (mr, kp, kc, nf) j) (fun (u : pm_P) (t : State) => va_P (dC, dI) vwCl [(m0, .inr (1, [.ref h0, .ref b1, .ref b2, .ref b3, .int (nI lim), .int (nI u.2.2.1), .int (nI nr), .int (nI u.2.2.2), .int (nI nc)])), (b3, .inl (g3, 64, .inl (u.2.1)))] t.heap ∧ va_K (dC, dI) vwCl [(g3, .int)] t ∧ va_D (va_A [(m0, .inr (1, [.ref h0, .ref b1, .ref b2, .ref b3, .int (nI lim), .int (nI kc), .int (nI nr), .int (nI nf), .int (nI nc)])), (b3, .inl (g3, 64, .inl kp))] sz) [(m0, .inr (1, [.ref h0, .ref b1, .ref b2, .ref b3, .int (nI lim), .int (nI u.2.2.1), .int (nI nr), .int (nI u.2.2.2), .int (nI nc)])), (b3, .inl (g3, 64, .inl (u.2.1)))]) (va_A [(m0, .inr (1, [.ref h0, .ref b1, .ref b2, .ref b3, .int (nI lim), .int (nI kc), .int (nI nr), .int (nI nf), .int (nI nc)])), (b3, .inl (g3, 64, .inl kp))] sz)) 0 0 (va_A [(m0, .inr (1, [.ref h0, .ref b1, .ref b2, .ref b3, .int (nI lim), .int (nI kc), .int (nI nr), .int (nI nf), .int (nI nc)])), (b3, .inl (g3, 64, .inl kp))] sz) := by
  refine Met.ofW (cc := cX1_keepOrForget) (maxL := 2) (ret := (none)) (by decide) rfl ?_
  intro p e s m args below meth c s₁ B hml hv
  obtain ⟨rfl, hsz, hP, hK, hD0⟩ := hv
  have hx := B.exec
  have hb := B.bytes
  have hr := B.returns
  have hts : ∀ w ∈ gw, w.before _ s = true := fun w h => atoms_spec (ws := wsX1_keepOrForget) B.pre w (List.mem_cons_of_mem _ h)
  have hown : s.vm.findClass RX1 = some m.cls := findClass_of_methodNamed B.named
  have hlocks := B.notSynchronized
  subst hsz
  have hD := hD0.self (sz := s.heap.size)
  generalize hAe : va_A [(m0, .inr (1, [.ref h0, .ref b1, .ref b2, .ref b3, .int (nI lim), .int (nI kc), .int (nI nr), .int (nI nf), .int (nI nc)])), (b3, .inl (g3, 64, .inl kp))] s.heap.size = A at hD ⊢
  have hA : ∀ q : Nat, s.heap.size ≤ q → A q := fun q h => by rw [← hAe]; exact Or.inr h
  have hP : va_P (dC, dI) vwCl [(m0, .inr (1, [.ref h0, .ref b1, .ref b2, .ref b3, .int (nI lim), .int (nI kc), .int (nI nr), .int (nI nf), .int (nI nc)])), (b3, .inl (g3, 64, .inl kp))] s.heap := hP
  have hl := lv_entry ([.ref m0, .int (nI j)]) (n := 2) (Nat.le_of_ble_eq_true rfl)
  rw [lg_entry_eq]
  generalize (lg_sl ([.ref m0, .int (nI j)]) ++ List.replicate (2 - (lg_sl ([.ref m0, .int (nI j)])).length) Slot.unset).toArray = ls at hl ⊢
  have hl : lv_has ls 2 [(0, .ref m0), (1, .int (nI j))] := hl
  obtain ⟨H, hH⟩ : ∃ H : Heap, H = s.heap := ⟨_, rfl⟩
  rw [← hH]
  rw [← hH] at hP
  have hS : va_S A s.heap H [] := by rw [hH]; exact va_S.rf
  clear hH
  refine lv_aload_n hx hb dX1_keepOrForget_0 rfl (lv_at hl 0 rfl) ?_
  refine va_get (D := (dC, dI)) (ci := 1) (v := .int (nI kc)) (C := RX1) (T := TX1) (N := 9) hx hb hts iw_X1 hown hK hP 0 rfl rfl 5 (by decide) (hts _ mf_X1_30) (fun _ h9 => h9) rfl dX1_keepOrForget_1 ?_
  refine lv_if_lt (tgt := 50) hx hb dX1_keepOrForget_4 (by decide) (fun c_4 => absurd c_4 (nI_pos (by omega))) (fun c_4 => ?_)
  refine lv_aload_n hx hb dX1_keepOrForget_7 rfl (lv_at hl 0 rfl) ?_
  refine va_get (D := (dC, dI)) (ci := 1) (v := .int (nI kc)) (C := RX1) (T := TX1) (N := 9) hx hb hts iw_X1 hown hK hP 0 rfl rfl 5 (by decide) (hts _ mf_X1_30) (fun _ h9 => h9) rfl dX1_keepOrForget_8 ?_
  refine lv_aload_n hx hb dX1_keepOrForget_11 rfl (lv_at hl 0 rfl) ?_
  refine va_get (D := (dC, dI)) (ci := 1) (v := .int (nI lim)) (C := RX1) (T := TX1) (N := 9) hx hb hts iw_X1 hown hK hP 0 rfl rfl 4 (by decide) (hts _ mf_X1_26) (fun _ h9 => h9) rfl dX1_keepOrForget_12 ?_
  refine lv_icmp_ge (tgt := 50) hx hb dX1_keepOrForget_15 (by decide) (fun c_15 => ?_) (fun c_15 => ?_)
  · rw [nI_leI (by omega) (by omega)] at c_15
    refine lv_iload_n hx hb dX1_keepOrForget_50 rfl (lv_at hl 1 rfl) ?_
    refine lv_aload_n hx hb dX1_keepOrForget_51 rfl (lv_at hl 0 rfl) ?_
    refine va_get (D := (dC, dI)) (ci := 1) (v := .int (nI nf)) (C := RX1) (T := TX1) (N := 9) hx hb hts iw_X1 hown hK hP 0 rfl rfl 7 (by decide) (hts _ mf_X1_36) (fun _ h9 => h9) rfl dX1_keepOrForget_52 ?_
    refine lv_icmp_ge (tgt := 63) hx hb dX1_keepOrForget_55 (by decide) (fun c_55 => ?_) (fun c_55 => ?_)
    · rw [nI_leI (by omega) (by omega)] at c_55
      exact W.vret hx hb hr (fun t ht hW => ⟨⟨(mr, kp, kc, nf), rfl, pm_k3 (by omega) (by omega), by rw [ht]; exact hP, va_K.moved hW.alike hK, hD⟩, hS.F ht⟩) hS.2.2 dX1_keepOrForget_63
    · rw [nI_leI (by omega) (by omega)] at c_55
      refine lv_aload_n hx hb dX1_keepOrForget_58 rfl (lv_at hl 0 rfl) ?_
      refine lv_iload_n hx hb dX1_keepOrForget_59 rfl (lv_at hl 1 rfl) ?_
      refine va_put (D := (dC, dI)) (ci := 1) (v := .int (nI j)) (ty := .int) (C := RX1) (T := TX1) (N := 9) hx hb hts iw_X1 tyX1 tyX1_ok nmX1 hown hK hP hD hS 0 rfl rfl 7 (by decide) (hts _ mf_X1_36) (fun _ h9 => h9) rfl (by decide +kernel) (rfl) (rfl) (Nat.le_of_ble_eq_true rfl) dX1_keepOrForget_60 (fun H locs hP hD hS => ?_)
      have hP : va_P (dC, dI) vwCl [(m0, .inr (1, [.ref h0, .ref b1, .ref b2, .ref b3, .int (nI lim), .int (nI kc), .int (nI nr), .int (nI j), .int (nI nc)])), (b3, .inl (g3, 64, .inl kp))] H := hP
      have hD : va_D A [(m0, .inr (1, [.ref h0, .ref b1, .ref b2, .ref b3, .int (nI lim), .int (nI kc), .int (nI nr), .int (nI j), .int (nI nc)])), (b3, .inl (g3, 64, .inl kp))] := hD
      exact W.vret hx hb hr (fun t ht hW => ⟨⟨(mr, kp, kc, j), rfl, pm_k2 (by omega) (by omega), by rw [ht]; exact hP, va_K.moved hW.alike hK, hD⟩, hS.F ht⟩) hS.2.2 dX1_keepOrForget_63
  · rw [nI_leI (by omega) (by omega)] at c_15
    refine lv_aload_n hx hb dX1_keepOrForget_18 rfl (lv_at hl 0 rfl) ?_
    refine va_get (D := (dC, dI)) (ci := 1) (v := .int (nI kc)) (C := RX1) (T := TX1) (N := 9) hx hb hts iw_X1 hown hK hP 0 rfl rfl 5 (by decide) (hts _ mf_X1_30) (fun _ h9 => h9) rfl dX1_keepOrForget_19 ?_
    refine lv_bipush (v := nI 64) hx hb dX1_keepOrForget_22 (by decide +kernel) ?_
    refine lv_icmp_ge (tgt := 50) hx hb dX1_keepOrForget_24 (by decide) (fun c_24 => ?_) (fun c_24 => ?_)
    · rw [nI_leI (by omega) (by omega)] at c_24
      refine lv_iload_n hx hb dX1_keepOrForget_50 rfl (lv_at hl 1 rfl) ?_
      refine lv_aload_n hx hb dX1_keepOrForget_51 rfl (lv_at hl 0 rfl) ?_
      refine va_get (D := (dC, dI)) (ci := 1) (v := .int (nI nf)) (C := RX1) (T := TX1) (N := 9) hx hb hts iw_X1 hown hK hP 0 rfl rfl 7 (by decide) (hts _ mf_X1_36) (fun _ h9 => h9) rfl dX1_keepOrForget_52 ?_
      refine lv_icmp_ge (tgt := 63) hx hb dX1_keepOrForget_55 (by decide) (fun c_55 => ?_) (fun c_55 => ?_)
      · rw [nI_leI (by omega) (by omega)] at c_55
        exact W.vret hx hb hr (fun t ht hW => ⟨⟨(mr, kp, kc, nf), rfl, pm_k3 (by omega) (by omega), by rw [ht]; exact hP, va_K.moved hW.alike hK, hD⟩, hS.F ht⟩) hS.2.2 dX1_keepOrForget_63
      · rw [nI_leI (by omega) (by omega)] at c_55
        refine lv_aload_n hx hb dX1_keepOrForget_58 rfl (lv_at hl 0 rfl) ?_
        refine lv_iload_n hx hb dX1_keepOrForget_59 rfl (lv_at hl 1 rfl) ?_
        refine va_put (D := (dC, dI)) (ci := 1) (v := .int (nI j)) (ty := .int) (C := RX1) (T := TX1) (N := 9) hx hb hts iw_X1 tyX1 tyX1_ok nmX1 hown hK hP hD hS 0 rfl rfl 7 (by decide) (hts _ mf_X1_36) (fun _ h9 => h9) rfl (by decide +kernel) (rfl) (rfl) (Nat.le_of_ble_eq_true rfl) dX1_keepOrForget_60 (fun H locs hP hD hS => ?_)
        have hP : va_P (dC, dI) vwCl [(m0, .inr (1, [.ref h0, .ref b1, .ref b2, .ref b3, .int (nI lim), .int (nI kc), .int (nI nr), .int (nI j), .int (nI nc)])), (b3, .inl (g3, 64, .inl kp))] H := hP
        have hD : va_D A [(m0, .inr (1, [.ref h0, .ref b1, .ref b2, .ref b3, .int (nI lim), .int (nI kc), .int (nI nr), .int (nI j), .int (nI nc)])), (b3, .inl (g3, 64, .inl kp))] := hD
        exact W.vret hx hb hr (fun t ht hW => ⟨⟨(mr, kp, kc, j), rfl, pm_k2 (by omega) (by omega), by rw [ht]; exact hP, va_K.moved hW.alike hK, hD⟩, hS.F ht⟩) hS.2.2 dX1_keepOrForget_63
    · rw [nI_leI (by omega) (by omega)] at c_24
      refine lv_aload_n hx hb dX1_keepOrForget_27 rfl (lv_at hl 0 rfl) ?_
      refine va_get (D := (dC, dI)) (ci := 1) (v := .ref b3) (C := RX1) (T := TX1) (N := 9) hx hb hts iw_X1 hown hK hP 0 rfl rfl 3 (by decide) (hts _ mf_X1_22) (fun _ h9 => h9) rfl dX1_keepOrForget_28 ?_
      refine lv_aload_n hx hb dX1_keepOrForget_31 rfl (lv_at hl 0 rfl) ?_
      refine va_get (D := (dC, dI)) (ci := 1) (v := .int (nI kc)) (C := RX1) (T := TX1) (N := 9) hx hb hts iw_X1 hown hK hP 0 rfl rfl 5 (by decide) (hts _ mf_X1_30) (fun _ h9 => h9) rfl dX1_keepOrForget_32 ?_
      refine lv_iload_n hx hb dX1_keepOrForget_35 rfl (lv_at hl 1 rfl) ?_
      refine va_iast hx hb hK hP hD hS 1 0 rfl rfl (vp_in_nI (by omega) (by omega)) dX1_keepOrForget_36 (fun H locs hP hD hS => ?_)
      rw [nI_clamp (by omega)] at hP hD
      have hP : va_P (dC, dI) vwCl [(m0, .inr (1, [.ref h0, .ref b1, .ref b2, .ref b3, .int (nI lim), .int (nI kc), .int (nI nr), .int (nI nf), .int (nI nc)])), (b3, .inl (g3, 64, .inl (upd kp kc (nI j))))] H := hP
      have hD : va_D A [(m0, .inr (1, [.ref h0, .ref b1, .ref b2, .ref b3, .int (nI lim), .int (nI kc), .int (nI nr), .int (nI nf), .int (nI nc)])), (b3, .inl (g3, 64, .inl (upd kp kc (nI j))))] := hD
      refine lv_aload_n hx hb dX1_keepOrForget_37 rfl (lv_at hl 0 rfl) ?_
      refine lv_dup hx hb dX1_keepOrForget_38 rfl ?_
      refine va_get (D := (dC, dI)) (ci := 1) (v := .int (nI kc)) (C := RX1) (T := TX1) (N := 9) hx hb hts iw_X1 hown hK hP 0 rfl rfl 5 (by decide) (hts _ mf_X1_30) (fun _ h9 => h9) rfl dX1_keepOrForget_39 ?_
      refine lv_iconst (v := nI 1) hx hb dX1_keepOrForget_42 (by decide +kernel) ?_
      refine lv_iadd hx hb dX1_keepOrForget_43 ?_
      refine lv_topi (fun x_1 ex_1 => ?_)
      obtain rfl : x_1 = nI (kc + 1) := ex_1.trans (nI_add _ _)
      refine va_put (D := (dC, dI)) (ci := 1) (v := .int (nI (kc + 1))) (ty := .int) (C := RX1) (T := TX1) (N := 9) hx hb hts iw_X1 tyX1 tyX1_ok nmX1 hown hK hP hD hS 0 rfl rfl 5 (by decide) (hts _ mf_X1_30) (fun _ h9 => h9) rfl (by decide +kernel) (rfl) (rfl) (Nat.le_of_ble_eq_true rfl) dX1_keepOrForget_44 (fun H locs hP hD hS => ?_)
      have hP : va_P (dC, dI) vwCl [(m0, .inr (1, [.ref h0, .ref b1, .ref b2, .ref b3, .int (nI lim), .int (nI (kc + 1)), .int (nI nr), .int (nI nf), .int (nI nc)])), (b3, .inl (g3, 64, .inl (upd kp kc (nI j))))] H := hP
      have hD : va_D A [(m0, .inr (1, [.ref h0, .ref b1, .ref b2, .ref b3, .int (nI lim), .int (nI (kc + 1)), .int (nI nr), .int (nI nf), .int (nI nc)])), (b3, .inl (g3, 64, .inl (upd kp kc (nI j))))] := hD
      refine lv_goto (tgt := 63) hx hb dX1_keepOrForget_47 (by decide) ?_
      exact W.vret hx hb hr (fun t ht hW => ⟨⟨(mr, upd kp kc (nI j), kc + 1, nf), rfl, pm_k1 (by omega) (by omega), by rw [ht]; exact hP, va_K.moved hW.alike hK, hD⟩, hS.F ht⟩) hS.2.2 dX1_keepOrForget_63

set_option maxHeartbeats 4000000 in
set_option maxRecDepth 100000 in
/-- Marker.putMark(k) -/
theorem c_M_putMark (l : Launch) (dC : Nat → ClassId) (dI : Nat → Nat → Nat) (m0 b1 b2 b3 : Nat) (g1 g2 g3 : ClassId) (mr ch kp : Nat → Int32) (lim kc nr nf nc : Nat) (h0 a1 a2 a3 : Nat) (k1 k2 k3 : ClassId) (N : Nat) (cn : Nat → Nat) (fl rt : Nat → Int32) (fa : Int32) (p0 : Int32) (sz : Nat) (hlim : lim ≤ 64) (hkc : kc ≤ 64) (hnf : nf ≤ 400) (hN : N ≤ 400) : Met l yX1_putMark wsX1_putMark ({ frames := 1, cells := 0, slots := 0, locals := 21 }) (va_Pc [.ref m0, .int p0] (fun U => U.heap.size = sz ∧ va_P (dC, dI) vwCl [(m0, .inr (1, [.ref h0, .ref b1, .ref b2, .ref b3, .int (nI lim), .int (nI kc), .int (nI nr), .int (nI nf), .int (nI nc)])), (b1, .inl (g1, 400, .inl mr)), (b2, .inl (g2, 400, .inl ch)), (b3, .inl (g3, 64, .inl kp)), (h0, .inr (0, [.ref a1, .ref a2, .ref a3, .int (nI N), .int fa])), (a1, .inl (k1, 400, .inl (pm_nf9 cn))), (a2, .inl (k2, 8000, .inl fl)), (a3, .inl (k3, 16, .inl rt))] U.heap ∧ va_K (dC, dI) vwCl [(g1, .boolean), (g2, .boolean), (g3, .int), (k1, .int), (k2, .int), (k3, .int)] U ∧ va_D (fun _ => True) [(m0, .inr (1, [.ref h0, .ref b1, .ref b2, .ref b3, .int (nI lim), .int (nI kc), .int (nI nr), .int (nI nf), .int (nI nc)])), (b1, .inl (g1, 400, .inl mr)), (b2, .inl (g2, 400, .inl ch)), (b3, .inl (g3, 64, .inl kp)), (h0, .inr (0, [.ref a1, .ref a2, .ref a3, .int (nI N), .int fa])), (a1, .inl (k1, 400, .inl (pm_nf9 cn))), (a2, .inl (k2, 8000, .inl fl)), (a3, .inl (k3, 16, .inl rt))])) (va_Qv (fun (u : pm_P) => u = pm_put N lim (mr, kp, kc, nf) p0) (fun (u : pm_P) (t : State) => va_P (dC, dI) vwCl [(m0, .inr (1, [.ref h0, .ref b1, .ref b2, .ref b3, .int (nI lim), .int (nI (u.2.2.1)), .int (nI nr), .int (nI (u.2.2.2)), .int (nI nc)])), (b1, .inl (g1, 400, .inl (u.1))), (b2, .inl (g2, 400, .inl ch)), (b3, .inl (g3, 64, .inl (u.2.1))), (h0, .inr (0, [.ref a1, .ref a2, .ref a3, .int (nI N), .int fa])), (a1, .inl (k1, 400, .inl (pm_nf9 cn))), (a2, .inl (k2, 8000, .inl fl)), (a3, .inl (k3, 16, .inl rt))] t.heap ∧ va_K (dC, dI) vwCl [(g1, .boolean), (g2, .boolean), (g3, .int), (k1, .int), (k2, .int), (k3, .int)] t ∧ va_D (va_A [(m0, .inr (1, [.ref h0, .ref b1, .ref b2, .ref b3, .int (nI lim), .int (nI kc), .int (nI nr), .int (nI nf), .int (nI nc)])), (b1, .inl (g1, 400, .inl mr)), (b2, .inl (g2, 400, .inl ch)), (b3, .inl (g3, 64, .inl kp)), (h0, .inr (0, [.ref a1, .ref a2, .ref a3, .int (nI N), .int fa])), (a1, .inl (k1, 400, .inl (pm_nf9 cn))), (a2, .inl (k2, 8000, .inl fl)), (a3, .inl (k3, 16, .inl rt))] sz) [(m0, .inr (1, [.ref h0, .ref b1, .ref b2, .ref b3, .int (nI lim), .int (nI (u.2.2.1)), .int (nI nr), .int (nI (u.2.2.2)), .int (nI nc)])), (b1, .inl (g1, 400, .inl (u.1))), (b2, .inl (g2, 400, .inl ch)), (b3, .inl (g3, 64, .inl (u.2.1))), (h0, .inr (0, [.ref a1, .ref a2, .ref a3, .int (nI N), .int fa])), (a1, .inl (k1, 400, .inl (pm_nf9 cn))), (a2, .inl (k2, 8000, .inl fl)), (a3, .inl (k3, 16, .inl rt))]) (va_A [(m0, .inr (1, [.ref h0, .ref b1, .ref b2, .ref b3, .int (nI lim), .int (nI kc), .int (nI nr), .int (nI nf), .int (nI nc)])), (b1, .inl (g1, 400, .inl mr)), (b2, .inl (g2, 400, .inl ch)), (b3, .inl (g3, 64, .inl kp)), (h0, .inr (0, [.ref a1, .ref a2, .ref a3, .int (nI N), .int fa])), (a1, .inl (k1, 400, .inl (pm_nf9 cn))), (a2, .inl (k2, 8000, .inl fl)), (a3, .inl (k3, 16, .inl rt))] sz)) 0 0 (va_A [(m0, .inr (1, [.ref h0, .ref b1, .ref b2, .ref b3, .int (nI lim), .int (nI kc), .int (nI nr), .int (nI nf), .int (nI nc)])), (b1, .inl (g1, 400, .inl mr)), (b2, .inl (g2, 400, .inl ch)), (b3, .inl (g3, 64, .inl kp)), (h0, .inr (0, [.ref a1, .ref a2, .ref a3, .int (nI N), .int fa])), (a1, .inl (k1, 400, .inl (pm_nf9 cn))), (a2, .inl (k2, 8000, .inl fl)), (a3, .inl (k3, 16, .inl rt))] sz) := by
  refine Met.ofW (cc := cX1_putMark) (maxL := 2) (ret := (none)) (by decide) rfl ?_
  intro p e s m args below meth c s₁ B hml hv
  obtain ⟨rfl, hsz, hP, hK, hD0⟩ := hv
  have hx := B.exec
  have hb := B.bytes
  have hr := B.returns
  have hts : ∀ w ∈ gw, w.before _ s = true := fun w h => atoms_spec (ws := wsX1_putMark) B.pre w (List.mem_cons_of_mem _ h)
  have hown : s.vm.findClass RX1 = some m.cls := findClass_of_methodNamed B.named
  have hlocks := B.notSynchronized
  subst hsz
  have hD := hD0.self (sz := s.heap.size)
  generalize hAe : va_A [(m0, .inr (1, [.ref h0, .ref b1, .ref b2, .ref b3, .int (nI lim), .int (nI kc), .int (nI nr), .int (nI nf), .int (nI nc)])), (b1, .inl (g1, 400, .inl mr)), (b2, .inl (g2, 400, .inl ch)), (b3, .inl (g3, 64, .inl kp)), (h0, .inr (0, [.ref a1, .ref a2, .ref a3, .int (nI N), .int fa])), (a1, .inl (k1, 400, .inl (pm_nf9 cn))), (a2, .inl (k2, 8000, .inl fl)), (a3, .inl (k3, 16, .inl rt))] s.heap.size = A at hD ⊢
  have hA : ∀ q : Nat, s.heap.size ≤ q → A q := fun q h => by rw [← hAe]; exact Or.inr h
  have hP : va_P (dC, dI) vwCl [(m0, .inr (1, [.ref h0, .ref b1, .ref b2, .ref b3, .int (nI lim), .int (nI kc), .int (nI nr), .int (nI nf), .int (nI nc)])), (b1, .inl (g1, 400, .inl mr)), (b2, .inl (g2, 400, .inl ch)), (b3, .inl (g3, 64, .inl kp)), (h0, .inr (0, [.ref a1, .ref a2, .ref a3, .int (nI N), .int fa])), (a1, .inl (k1, 400, .inl (pm_nf9 cn))), (a2, .inl (k2, 8000, .inl fl)), (a3, .inl (k3, 16, .inl rt))] s.heap := hP
  have hl := lv_entry ([.ref m0, .int p0]) (n := 2) (Nat.le_of_ble_eq_true rfl)
  rw [lg_entry_eq]
  generalize (lg_sl ([.ref m0, .int p0]) ++ List.replicate (2 - (lg_sl ([.ref m0, .int p0])).length) Slot.unset).toArray = ls at hl ⊢
  have hl : lv_has ls 2 [(0, .ref m0), (1, .int p0)] := hl
  obtain ⟨H, hH⟩ : ∃ H : Heap, H = s.heap := ⟨_, rfl⟩
  rw [← hH]
  rw [← hH] at hP
  have hS : va_S A s.heap H [] := by rw [hH]; exact va_S.rf
  clear hH
  refine lv_aload_n hx hb dX1_putMark_0 rfl (lv_at hl 0 rfl) ?_
  refine va_get (D := (dC, dI)) (ci := 1) (v := .ref h0) (C := RX1) (T := TX1) (N := 9) hx hb hts iw_X1 hown hK hP 0 rfl rfl 0 (by decide) (hts _ mf_X1_9) (fun _ h9 => h9) rfl dX1_putMark_1 ?_
  refine lv_iload_n hx hb dX1_putMark_4 rfl (lv_at hl 1 rfl) ?_
  have hPc := hP.sub (ws' := [(h0, .inr (0, [.ref a1, .ref a2, .ref a3, .int (nI N), .int fa])), (a1, .inl (k1, 400, .inl (pm_nf9 cn))), (a2, .inl (k2, 8000, .inl fl)), (a3, .inl (k3, 16, .inl rt))]) [4, 5, 6, 7] rfl
  have hDc := hD.sub (ws' := [(h0, .inr (0, [.ref a1, .ref a2, .ref a3, .int (nI N), .int fa])), (a1, .inl (k1, 400, .inl (pm_nf9 cn))), (a2, .inl (k2, 8000, .inl fl)), (a3, .inl (k3, 16, .inl rt))]) [4, 5, 6, 7] (by decide) rfl
  have hKc := hK.sub (tys' := [(k1, .int), (k2, .int), (k3, .int)]) [3, 4, 5] rfl
  have hFc := va_free (wc := [(h0, .inr (0, [.ref a1, .ref a2, .ref a3, .int (nI N), .int fa])), (a1, .inl (k1, 400, .inl (pm_nf9 cn))), (a2, .inl (k2, 8000, .inl fl)), (a3, .inl (k3, 16, .inl rt))]) hD hS hA [4, 5, 6, 7] rfl
  refine va_calli (va_runV (As := [.int p0]) (rest := []) ⟨hx, hb, hml, hown, hts⟩ (c_H_has l dC dI h0 a1 a2 a3 k1 k2 k3 N cn fl rt fa p0 H.size) (cwV 1 hts (gw_V ml_X1_42 mi_X0_has ms_X0_has mn_X0 mc_X0_has) rfl rfl rfl (by decide +kernel) ⟨Nat.le_of_ble_eq_true rfl, Nat.le_of_ble_eq_true rfl⟩) ⟨fun a U g mk q => by obtain ⟨q0, q1, qP, qK, qD⟩ := q; exact ⟨q0, q1, qP, va_K.moved (u := U) (U := U.calling g mk a) (Vm.Alike.refl U.vm) qK, qD⟩, va_recv hKc hPc (ci := 0) (q0 := 0) rfl rfl, fun U hU hW => ⟨rfl, by rw [hU], by rw [hU]; exact hPc, va_K.moved hW.alike hKc, hDc.weaken (fun _ _ _ _ => trivial)⟩⟩ rfl rfl hl.1 rfl (lv_room (Nat.le_of_ble_eq_true rfl)) dX1_putMark_5 ⟨Nat.le_of_ble_eq_true rfl, Nat.le_of_ble_eq_true rfl⟩) hS (fun q _ h => hFc q h) hFc (fun r_1 u t H1 locs ht hvm hw hB hz1 hk1 hS => ?_)
  obtain ⟨hP1, hK1, hD1⟩ := hB
  rw [ht] at hP1
  have hK1 := va_K.moved hvm.symm hK1
  obtain ⟨hP, hD⟩ := va_join (wr := [(m0, .inr (1, [.ref h0, .ref b1, .ref b2, .ref b3, .int (nI lim), .int (nI kc), .int (nI nr), .int (nI nf), .int (nI nc)])), (b1, .inl (g1, 400, .inl mr)), (b2, .inl (g2, 400, .inl ch)), (b3, .inl (g3, 64, .inl kp))]) (w1 := [(h0, .inr (0, [.ref a1, .ref a2, .ref a3, .int (nI N), .int fa])), (a1, .inl (k1, 400, .inl (pm_nf9 cn))), (a2, .inl (k2, 8000, .inl fl)), (a3, .inl (k3, 16, .inl rt))]) hP hD [4, 5, 6, 7] [0, 1, 2, 3] rfl rfl (by decide) (by decide) hk1 hFc hP1 hD1
  clear hPc hDc hKc hFc hP1 hK1 hD1
  generalize H1 = H at hP hS ⊢
  have hP : va_P (dC, dI) vwCl [(m0, .inr (1, [.ref h0, .ref b1, .ref b2, .ref b3, .int (nI lim), .int (nI kc), .int (nI nr), .int (nI nf), .int (nI nc)])), (b1, .inl (g1, 400, .inl mr)), (b2, .inl (g2, 400, .inl ch)), (b3, .inl (g3, 64, .inl kp)), (h0, .inr (0, [.ref a1, .ref a2, .ref a3, .int (nI N), .int fa])), (a1, .inl (k1, 400, .inl (pm_nf9 cn))), (a2, .inl (k2, 8000, .inl fl)), (a3, .inl (k3, 16, .inl rt))] H := hP.sub [0, 1, 2, 3, 4, 5, 6, 7] rfl
  have hD : va_D A [(m0, .inr (1, [.ref h0, .ref b1, .ref b2, .ref b3, .int (nI lim), .int (nI kc), .int (nI nr), .int (nI nf), .int (nI nc)])), (b1, .inl (g1, 400, .inl mr)), (b2, .inl (g2, 400, .inl ch)), (b3, .inl (g3, 64, .inl kp)), (h0, .inr (0, [.ref a1, .ref a2, .ref a3, .int (nI N), .int fa])), (a1, .inl (k1, 400, .inl (pm_nf9 cn))), (a2, .inl (k2, 8000, .inl fl)), (a3, .inl (k3, 16, .inl rt))] := hD.sub [0, 1, 2, 3, 4, 5, 6, 7] (by decide) rfl
  rcases pm_tf (pm_has N p0) with hh_5 | hh_5
  · obtain rfl : r_1 = nI 1 := hw.trans (by rw [hh_5]; rfl)
    obtain ⟨k, hk, rfl⟩ := pm_has_of (by omega) hh_5
    refine lv_if_eq (tgt := 32) hx hb dX1_putMark_8 (by decide) (fun c_8 => absurd c_8 (by decide +kernel)) (fun c_8 => ?_)
    refine lv_aload_n hx hb dX1_putMark_11 rfl (lv_at hl 0 rfl) ?_
    refine va_get (D := (dC, dI)) (ci := 1) (v := .ref b1) (C := RX1) (T := TX1) (N := 9) hx hb hts iw_X1 hown hK hP 0 rfl rfl 1 (by decide) (hts _ mf_X1_15) (fun _ h9 => h9) rfl dX1_putMark_12 ?_
    refine lv_iload_n hx hb dX1_putMark_15 rfl (lv_at hl 1 rfl) ?_
    refine va_zald hx hb hK hP 1 0 rfl rfl (vp_in_nI (by omega) (by omega)) dX1_putMark_16 ?_
    refine lv_topi (fun x_2 ex_2 => ?_)
    rw [nI_clamp (by omega)] at ex_2
    subst ex_2
    refine lv_if_ne (tgt := 32) hx hb dX1_putMark_17 (by decide) (fun c_17 => ?_) (fun c_17 => ?_)
    · exact W.vret hx hb hr (fun t ht hW => ⟨⟨(mr, kp, kc, nf), rfl, pm_p2 hh_5 (by omega) c_17, by rw [ht]; exact hP, va_K.moved hW.alike hK, hD⟩, hS.F ht⟩) hS.2.2 dX1_putMark_32
    · refine lv_aload_n hx hb dX1_putMark_20 rfl (lv_at hl 0 rfl) ?_
      refine va_get (D := (dC, dI)) (ci := 1) (v := .ref b1) (C := RX1) (T := TX1) (N := 9) hx hb hts iw_X1 hown hK hP 0 rfl rfl 1 (by decide) (hts _ mf_X1_15) (fun _ h9 => h9) rfl dX1_putMark_21 ?_
      refine lv_iload_n hx hb dX1_putMark_24 rfl (lv_at hl 1 rfl) ?_
      refine lv_iconst (v := nI 1) hx hb dX1_putMark_25 (by decide +kernel) ?_
      refine va_zast hx hb hK hP hD hS 1 0 rfl rfl (vp_in_nI (by omega) (by omega)) dX1_putMark_26 (fun H locs hP hD hS => ?_)
      rw [nI_clamp (by omega)] at hP hD
      rw [pm_z1] at hP hD
      have hP : va_P (dC, dI) vwCl [(m0, .inr (1, [.ref h0, .ref b1, .ref b2, .ref b3, .int (nI lim), .int (nI kc), .int (nI nr), .int (nI nf), .int (nI nc)])), (b1, .inl (g1, 400, .inl (upd mr k 1))), (b2, .inl (g2, 400, .inl ch)), (b3, .inl (g3, 64, .inl kp)), (h0, .inr (0, [.ref a1, .ref a2, .ref a3, .int (nI N), .int fa])), (a1, .inl (k1, 400, .inl (pm_nf9 cn))), (a2, .inl (k2, 8000, .inl fl)), (a3, .inl (k3, 16, .inl rt))] H := hP
      have hD : va_D A [(m0, .inr (1, [.ref h0, .ref b1, .ref b2, .ref b3, .int (nI lim), .int (nI kc), .int (nI nr), .int (nI nf), .int (nI nc)])), (b1, .inl (g1, 400, .inl (upd mr k 1))), (b2, .inl (g2, 400, .inl ch)), (b3, .inl (g3, 64, .inl kp)), (h0, .inr (0, [.ref a1, .ref a2, .ref a3, .int (nI N), .int fa])), (a1, .inl (k1, 400, .inl (pm_nf9 cn))), (a2, .inl (k2, 8000, .inl fl)), (a3, .inl (k3, 16, .inl rt))] := hD
      refine lv_aload_n hx hb dX1_putMark_27 rfl (lv_at hl 0 rfl) ?_
      refine lv_iload_n hx hb dX1_putMark_28 rfl (lv_at hl 1 rfl) ?_
      have hPc := hP.sub (ws' := [(m0, .inr (1, [.ref h0, .ref b1, .ref b2, .ref b3, .int (nI lim), .int (nI kc), .int (nI nr), .int (nI nf), .int (nI nc)])), (b3, .inl (g3, 64, .inl kp))]) [0, 3] rfl
      have hDc := hD.sub (ws' := [(m0, .inr (1, [.ref h0, .ref b1, .ref b2, .ref b3, .int (nI lim), .int (nI kc), .int (nI nr), .int (nI nf), .int (nI nc)])), (b3, .inl (g3, 64, .inl kp))]) [0, 3] (by decide) rfl
      have hKc := hK.sub (tys' := [(g3, .int)]) [2] rfl
      have hFc := va_free (wc := [(m0, .inr (1, [.ref h0, .ref b1, .ref b2, .ref b3, .int (nI lim), .int (nI kc), .int (nI nr), .int (nI nf), .int (nI nc)])), (b3, .inl (g3, 64, .inl kp))]) hD hS hA [0, 3] rfl
      refine va_callv (va_runV (As := [.int (nI k)]) (rest := []) ⟨hx, hb, hml, hown, hts⟩ (c_M_keepOrForget l dC dI m0 b1 b2 b3 g1 g2 g3 (upd mr k 1) ch kp lim kc nr nf nc h0 a1 a2 a3 k1 k2 k3 N cn fl rt fa k H.size (hlim) (hkc) (hnf) (by omega)) (cwV 1 hts (gw_V ml_X1_81 mi_X1_keepOrForget ms_X1_keepOrForget mn_X1 mc_X1_keepOrForget) rfl rfl rfl (by decide +kernel) ⟨Nat.le_of_ble_eq_true rfl, Nat.le_of_ble_eq_true rfl⟩) ⟨fun a U g mk q => by obtain ⟨q0, q1, qP, qK, qD⟩ := q; exact ⟨q0, q1, qP, va_K.moved (u := U) (U := U.calling g mk a) (Vm.Alike.refl U.vm) qK, qD⟩, va_recv hKc hPc (ci := 1) (q0 := 0) rfl rfl, fun U hU hW => ⟨rfl, by rw [hU], by rw [hU]; exact hPc, va_K.moved hW.alike hKc, hDc.weaken (fun _ _ _ _ => trivial)⟩⟩ rfl rfl hl.1 rfl (lv_room (Nat.le_of_ble_eq_true rfl)) dX1_putMark_29 ⟨Nat.le_of_ble_eq_true rfl, Nat.le_of_ble_eq_true rfl⟩) hS (fun q _ h => hFc q h) hFc (fun u t H1 locs ht hvm hw hB hz1 hk1 hS => ?_)
      obtain ⟨mk9, kp9, kc9, nf9⟩ := u
      obtain ⟨hP1, hK1, hD1⟩ := hB
      rw [ht] at hP1
      have hK1 := va_K.moved hvm.symm hK1
      obtain ⟨hP, hD⟩ := va_join (wr := [(b1, .inl (g1, 400, .inl (upd mr k 1))), (b2, .inl (g2, 400, .inl ch)), (h0, .inr (0, [.ref a1, .ref a2, .ref a3, .int (nI N), .int fa])), (a1, .inl (k1, 400, .inl (pm_nf9 cn))), (a2, .inl (k2, 8000, .inl fl)), (a3, .inl (k3, 16, .inl rt))]) (w1 := [(m0, .inr (1, [.ref h0, .ref b1, .ref b2, .ref b3, .int (nI lim), .int (nI kc9), .int (nI nr), .int (nI nf9), .int (nI nc)])), (b3, .inl (g3, 64, .inl kp9))]) hP hD [0, 3] [1, 2, 4, 5, 6, 7] rfl rfl (by decide) (by decide) hk1 hFc hP1 hD1
      clear hPc hDc hKc hFc hP1 hK1 hD1
      generalize H1 = H at hP hS ⊢
      have hP : va_P (dC, dI) vwCl [(m0, .inr (1, [.ref h0, .ref b1, .ref b2, .ref b3, .int (nI lim), .int (nI kc9), .int (nI nr), .int (nI nf9), .int (nI nc)])), (b1, .inl (g1, 400, .inl (upd mr k 1))), (b2, .inl (g2, 400, .inl ch)), (b3, .inl (g3, 64, .inl kp9)), (h0, .inr (0, [.ref a1, .ref a2, .ref a3, .int (nI N), .int fa])), (a1, .inl (k1, 400, .inl (pm_nf9 cn))), (a2, .inl (k2, 8000, .inl fl)), (a3, .inl (k3, 16, .inl rt))] H := hP.sub [6, 0, 1, 7, 2, 3, 4, 5] rfl
      have hD : va_D A [(m0, .inr (1, [.ref h0, .ref b1, .ref b2, .ref b3, .int (nI lim), .int (nI kc9), .int (nI nr), .int (nI nf9), .int (nI nc)])), (b1, .inl (g1, 400, .inl (upd mr k 1))), (b2, .inl (g2, 400, .inl ch)), (b3, .inl (g3, 64, .inl kp9)), (h0, .inr (0, [.ref a1, .ref a2, .ref a3, .int (nI N), .int fa])), (a1, .inl (k1, 400, .inl (pm_nf9 cn))), (a2, .inl (k2, 8000, .inl fl)), (a3, .inl (k3, 16, .inl rt))] := hD.sub [6, 0, 1, 7, 2, 3, 4, 5] (by decide) rfl
      have e9 : mk9 = upd mr k 1 := by have q := congrArg Prod.fst hw; rw [pm_keep_mk] at q; exact q
      exact W.vret hx hb hr (fun t ht hW => ⟨⟨(upd mr k 1, kp9, kc9, nf9), rfl, by rw [← pm_p3 hh_5 (by omega) c_17, ← hw, e9], by rw [ht]; exact hP, va_K.moved hW.alike hK, hD⟩, hS.F ht⟩) hS.2.2 dX1_putMark_32
  · obtain rfl : r_1 = nI 0 := hw.trans (by rw [hh_5]; rfl)
    refine lv_if_eq (tgt := 32) hx hb dX1_putMark_8 (by decide) (fun c_8 => ?_) (fun c_8 => absurd c_8 (by decide +kernel))
    exact W.vret hx hb hr (fun t ht hW => ⟨⟨(mr, kp, kc, nf), rfl, pm_p1 hh_5, by rw [ht]; exact hP, va_K.moved hW.alike hK, hD⟩, hS.F ht⟩) hS.2.2 dX1_putMark_32

set_option maxHeartbeats 4000000 in
set_option maxRecDepth 100000 in
/-- Marker.markFieldsOf(k) -/
theorem c_M_markFieldsOf (l : Launch) (dC : Nat → ClassId) (dI : Nat → Nat → Nat) (m0 b1 b2 b3 : Nat) (g1 g2 g3 : ClassId) (mr ch kp : Nat → Int32) (lim kc nr nf nc : Nat) (h0 a1 a2 a3 : Nat) (k1 k2 k3 : ClassId) (N : Nat) (cn : Nat → Nat) (fl rt : Nat → Int32) (fa : Int32) (p0 : Int32) (sz : Nat) (hlim : lim ≤ 64) (hkc : kc ≤ 64) (hnf : nf ≤ 400) (hN : N ≤ 400) (hc : ∀ k, k < N → cn k ≤ 20) : Met l yX1_markFieldsOf wsX1_markFieldsOf ({ frames := 3, cells := 0, slots := 0, locals := 65 }) (va_Pc [.ref m0, .int p0] (fun U => U.heap.size = sz ∧ va_P (dC, dI) vwCl [(m0, .inr (1, [.ref h0, .ref b1, .ref b2, .ref b3, .int (nI lim), .int (nI kc), .int (nI nr), .int (nI nf), .int (nI nc)])), (b1, .inl (g1, 400, .inl mr)), (b2, .inl (g2, 400, .inl ch)), (b3, .inl (g3, 64, .inl kp)), (h0, .inr (0, [.ref a1, .ref a2, .ref a3, .int (nI N), .int fa])), (a1, .inl (k1, 400, .inl (pm_nf9 cn))), (a2, .inl (k2, 8000, .inl fl)), (a3, .inl (k3, 16, .inl rt))] U.heap ∧ va_K (dC, dI) vwCl [(g1, .boolean), (g2, .boolean), (g3, .int), (k1, .int), (k2, .int), (k3, .int)] U ∧ va_D (fun _ => True) [(m0, .inr (1, [.ref h0, .ref b1, .ref b2, .ref b3, .int (nI lim), .int (nI kc), .int (nI nr), .int (nI nf), .int (nI nc)])), (b1, .inl (g1, 400, .inl mr)), (b2, .inl (g2, 400, .inl ch)), (b3, .inl (g3, 64, .inl kp)), (h0, .inr (0, [.ref a1, .ref a2, .ref a3, .int (nI N), .int fa])), (a1, .inl (k1, 400, .inl (pm_nf9 cn))), (a2, .inl (k2, 8000, .inl fl)), (a3, .inl (k3, 16, .inl rt))])) (va_Qv (fun (u : pm_P) => u = pm_go N cn fl lim (mr, kp, kc, nf) p0) (fun (u : pm_P) (t : State) => va_P (dC, dI) vwCl [(m0, .inr (1, [.ref h0, .ref b1, .ref b2, .ref b3, .int (nI lim), .int (nI (u.2.2.1)), .int (nI nr), .int (nI (u.2.2.2)), .int (nI nc)])), (b1, .inl (g1, 400, .inl (u.1))), (b2, .inl (g2, 400, .inl ch)), (b3, .inl (g3, 64, .inl (u.2.1))), (h0, .inr (0, [.ref a1, .ref a2, .ref a3, .int (nI N), .int fa])), (a1, .inl (k1, 400, .inl (pm_nf9 cn))), (a2, .inl (k2, 8000, .inl fl)), (a3, .inl (k3, 16, .inl rt))] t.heap ∧ va_K (dC, dI) vwCl [(g1, .boolean), (g2, .boolean), (g3, .int), (k1, .int), (k2, .int), (k3, .int)] t ∧ va_D (va_A [(m0, .inr (1, [.ref h0, .ref b1, .ref b2, .ref b3, .int (nI lim), .int (nI kc), .int (nI nr), .int (nI nf), .int (nI nc)])), (b1, .inl (g1, 400, .inl mr)), (b2, .inl (g2, 400, .inl ch)), (b3, .inl (g3, 64, .inl kp)), (h0, .inr (0, [.ref a1, .ref a2, .ref a3, .int (nI N), .int fa])), (a1, .inl (k1, 400, .inl (pm_nf9 cn))), (a2, .inl (k2, 8000, .inl fl)), (a3, .inl (k3, 16, .inl rt))] sz) [(m0, .inr (1, [.ref h0, .ref b1, .ref b2, .ref b3, .int (nI lim), .int (nI (u.2.2.1)), .int (nI nr), .int (nI (u.2.2.2)), .int (nI nc)])), (b1, .inl (g1, 400, .inl (u.1))), (b2, .inl (g2, 400, .inl ch)), (b3, .inl (g3, 64, .inl (u.2.1))), (h0, .inr (0, [.ref a1, .ref a2, .ref a3, .int (nI N), .int fa])), (a1, .inl (k1, 400, .inl (pm_nf9 cn))), (a2, .inl (k2, 8000, .inl fl)), (a3, .inl (k3, 16, .inl rt))]) (va_A [(m0, .inr (1, [.ref h0, .ref b1, .ref b2, .ref b3, .int (nI lim), .int (nI kc), .int (nI nr), .int (nI nf), .int (nI nc)])), (b1, .inl (g1, 400, .inl mr)), (b2, .inl (g2, 400, .inl ch)), (b3, .inl (g3, 64, .inl kp)), (h0, .inr (0, [.ref a1, .ref a2, .ref a3, .int (nI N), .int fa])), (a1, .inl (k1, 400, .inl (pm_nf9 cn))), (a2, .inl (k2, 8000, .inl fl)), (a3, .inl (k3, 16, .inl rt))] sz)) 0 0 (va_A [(m0, .inr (1, [.ref h0, .ref b1, .ref b2, .ref b3, .int (nI lim), .int (nI kc), .int (nI nr), .int (nI nf), .int (nI nc)])), (b1, .inl (g1, 400, .inl mr)), (b2, .inl (g2, 400, .inl ch)), (b3, .inl (g3, 64, .inl kp)), (h0, .inr (0, [.ref a1, .ref a2, .ref a3, .int (nI N), .int fa])), (a1, .inl (k1, 400, .inl (pm_nf9 cn))), (a2, .inl (k2, 8000, .inl fl)), (a3, .inl (k3, 16, .inl rt))] sz) := by
  refine Met.ofW (cc := cX1_markFieldsOf) (maxL := 4) (ret := (none)) (by decide) rfl ?_
  intro p e s m args below meth c s₁ B hml hv
  obtain ⟨rfl, hsz, hP, hK, hD0⟩ := hv
  have hx := B.exec
  have hb := B.bytes
  have hr := B.returns
  have hts : ∀ w ∈ gw, w.before _ s = true := fun w h => atoms_spec (ws := wsX1_markFieldsOf) B.pre w (List.mem_cons_of_mem _ h)
  have hown : s.vm.findClass RX1 = some m.cls := findClass_of_methodNamed B.named
  have hlocks := B.notSynchronized
  subst hsz
  have hD := hD0.self (sz := s.heap.size)
  generalize hAe : va_A [(m0, .inr (1, [.ref h0, .ref b1, .ref b2, .ref b3, .int (nI lim), .int (nI kc), .int (nI nr), .int (nI nf), .int (nI nc)])), (b1, .inl (g1, 400, .inl mr)), (b2, .inl (g2, 400, .inl ch)), (b3, .inl (g3, 64, .inl kp)), (h0, .inr (0, [.ref a1, .ref a2, .ref a3, .int (nI N), .int fa])), (a1, .inl (k1, 400, .inl (pm_nf9 cn))), (a2, .inl (k2, 8000, .inl fl)), (a3, .inl (k3, 16, .inl rt))] s.heap.size = A at hD ⊢
  have hA : ∀ q : Nat, s.heap.size ≤ q → A q := fun q h => by rw [← hAe]; exact Or.inr h
  have hP : va_P (dC, dI) vwCl [(m0, .inr (1, [.ref h0, .ref b1, .ref b2, .ref b3, .int (nI lim), .int (nI kc), .int (nI nr), .int (nI nf), .int (nI nc)])), (b1, .inl (g1, 400, .inl mr)), (b2, .inl (g2, 400, .inl ch)), (b3, .inl (g3, 64, .inl kp)), (h0, .inr (0, [.ref a1, .ref a2, .ref a3, .int (nI N), .int fa])), (a1, .inl (k1, 400, .inl (pm_nf9 cn))), (a2, .inl (k2, 8000, .inl fl)), (a3, .inl (k3, 16, .inl rt))] s.heap := hP
  have hl := lv_entry ([.ref m0, .int p0]) (n := 4) (Nat.le_of_ble_eq_true rfl)
  rw [lg_entry_eq]
  generalize (lg_sl ([.ref m0, .int p0]) ++ List.replicate (4 - (lg_sl ([.ref m0, .int p0])).length) Slot.unset).toArray = ls at hl ⊢
  have hl : lv_has ls 4 [(0, .ref m0), (1, .int p0)] := hl
  obtain ⟨H, hH⟩ : ∃ H : Heap, H = s.heap := ⟨_, rfl⟩
  rw [← hH]
  rw [← hH] at hP
  have hS : va_S A s.heap H [] := by rw [hH]; exact va_S.rf
  clear hH
  refine lv_aload_n hx hb dX1_markFieldsOf_0 rfl (lv_at hl 0 rfl) ?_
  refine va_get (D := (dC, dI)) (ci := 1) (v := .ref h0) (C := RX1) (T := TX1) (N := 9) hx hb hts iw_X1 hown hK hP 0 rfl rfl 0 (by decide) (hts _ mf_X1_9) (fun _ h9 => h9) rfl dX1_markFieldsOf_1 ?_
  refine lv_iload_n hx hb dX1_markFieldsOf_4 rfl (lv_at hl 1 rfl) ?_
  have hPc := hP.sub (ws' := [(h0, .inr (0, [.ref a1, .ref a2, .ref a3, .int (nI N), .int fa])), (a1, .inl (k1, 400, .inl (pm_nf9 cn))), (a2, .inl (k2, 8000, .inl fl)), (a3, .inl (k3, 16, .inl rt))]) [4, 5, 6, 7] rfl
  have hDc := hD.sub (ws' := [(h0, .inr (0, [.ref a1, .ref a2, .ref a3, .int (nI N), .int fa])), (a1, .inl (k1, 400, .inl (pm_nf9 cn))), (a2, .inl (k2, 8000, .inl fl)), (a3, .inl (k3, 16, .inl rt))]) [4, 5, 6, 7] (by decide) rfl
  have hKc := hK.sub (tys' := [(k1, .int), (k2, .int), (k3, .int)]) [3, 4, 5] rfl
  have hFc := va_free (wc := [(h0, .inr (0, [.ref a1, .ref a2, .ref a3, .int (nI N), .int fa])), (a1, .inl (k1, 400, .inl (pm_nf9 cn))), (a2, .inl (k2, 8000, .inl fl)), (a3, .inl (k3, 16, .inl rt))]) hD hS hA [4, 5, 6, 7] rfl
  refine va_calli (va_runV (As := [.int p0]) (rest := []) ⟨hx, hb, hml, hown, hts⟩ (c_H_fieldCountOf l dC dI h0 a1 a2 a3 k1 k2 k3 N cn fl rt fa p0 H.size (hN)) (cwV 1 hts (gw_V ml_X1_74 mi_X0_fieldCountOf ms_X0_fieldCountOf mn_X0 mc_X0_fieldCountOf) rfl rfl rfl (by decide +kernel) ⟨Nat.le_of_ble_eq_true rfl, Nat.le_of_ble_eq_true rfl⟩) ⟨fun a U g mk q => by obtain ⟨q0, q1, qP, qK, qD⟩ := q; exact ⟨q0, q1, qP, va_K.moved (u := U) (U := U.calling g mk a) (Vm.Alike.refl U.vm) qK, qD⟩, va_recv hKc hPc (ci := 0) (q0 := 0) rfl rfl, fun U hU hW => ⟨rfl, by rw [hU], by rw [hU]; exact hPc, va_K.moved hW.alike hKc, hDc.weaken (fun _ _ _ _ => trivial)⟩⟩ rfl rfl hl.1 rfl (lv_room (Nat.le_of_ble_eq_true rfl)) dX1_markFieldsOf_5 ⟨Nat.le_of_ble_eq_true rfl, Nat.le_of_ble_eq_true rfl⟩) hS (fun q _ h => hFc q h) hFc (fun r_1 u t H1 locs ht hvm hw hB hz1 hk1 hS => ?_)
  obtain ⟨hP1, hK1, hD1⟩ := hB
  rw [ht] at hP1
  have hK1 := va_K.moved hvm.symm hK1
  obtain ⟨hP, hD⟩ := va_join (wr := [(m0, .inr (1, [.ref h0, .ref b1, .ref b2, .ref b3, .int (nI lim), .int (nI kc), .int (nI nr), .int (nI nf), .int (nI nc)])), (b1, .inl (g1, 400, .inl mr)), (b2, .inl (g2, 400, .inl ch)), (b3, .inl (g3, 64, .inl kp))]) (w1 := [(h0, .inr (0, [.ref a1, .ref a2, .ref a3, .int (nI N), .int fa])), (a1, .inl (k1, 400, .inl (pm_nf9 cn))), (a2, .inl (k2, 8000, .inl fl)), (a3, .inl (k3, 16, .inl rt))]) hP hD [4, 5, 6, 7] [0, 1, 2, 3] rfl rfl (by decide) (by decide) hk1 hFc hP1 hD1
  clear hPc hDc hKc hFc hP1 hK1 hD1
  generalize H1 = H at hP hS ⊢
  have hP : va_P (dC, dI) vwCl [(m0, .inr (1, [.ref h0, .ref b1, .ref b2, .ref b3, .int (nI lim), .int (nI kc), .int (nI nr), .int (nI nf), .int (nI nc)])), (b1, .inl (g1, 400, .inl mr)), (b2, .inl (g2, 400, .inl ch)), (b3, .inl (g3, 64, .inl kp)), (h0, .inr (0, [.ref a1, .ref a2, .ref a3, .int (nI N), .int fa])), (a1, .inl (k1, 400, .inl (pm_nf9 cn))), (a2, .inl (k2, 8000, .inl fl)), (a3, .inl (k3, 16, .inl rt))] H := hP.sub [0, 1, 2, 3, 4, 5, 6, 7] rfl
  have hD : va_D A [(m0, .inr (1, [.ref h0, .ref b1, .ref b2, .ref b3, .int (nI lim), .int (nI kc), .int (nI nr), .int (nI nf), .int (nI nc)])), (b1, .inl (g1, 400, .inl mr)), (b2, .inl (g2, 400, .inl ch)), (b3, .inl (g3, 64, .inl kp)), (h0, .inr (0, [.ref a1, .ref a2, .ref a3, .int (nI N), .int fa])), (a1, .inl (k1, 400, .inl (pm_nf9 cn))), (a2, .inl (k2, 8000, .inl fl)), (a3, .inl (k3, 16, .inl rt))] := hD.sub [0, 1, 2, 3, 4, 5, 6, 7] (by decide) rfl
  rcases pm_tf (pm_has N p0) with hh_5 | hh_5
  · obtain ⟨a, ha, rfl⟩ := pm_has_of (by omega) hh_5
    have hca := hc a ha
    obtain rfl : r_1 = nI (cn a) := hw.trans (by rw [if_pos hh_5, nI_clamp (by omega)])
    refine lv_istore_n (lv' := [(2, .int (nI (cn a))), (0, .ref m0), (1, .int (nI a))]) hx hb dX1_markFieldsOf_8 rfl hl (by decide) rfl (fun ls hl => ?_)
    refine lv_iconst (v := nI 0) hx hb dX1_markFieldsOf_9 (by decide +kernel) ?_
    refine lv_istore_n (lv' := [(3, .int (nI 0)), (2, .int (nI (cn a))), (0, .ref m0), (1, .int (nI a))]) hx hb dX1_markFieldsOf_10 rfl hl (by decide) rfl (fun ls hl => ?_)
    refine lp_loop (σ := Nat × (Nat → Int32) × (Nat → Int32) × Nat × Nat) (head := 11) (fun x H locs ls => match x with | (j, mk1, kp1, kc1, nf1) => j ≤ cn a ∧ (mk1, kp1, kc1, nf1) = pm_mf N lim (fun j => fl (a * 20 + j)) j (mr, kp, kc, nf) ∧ va_P (dC, dI) vwCl [(m0, .inr (1, [.ref h0, .ref b1, .ref b2, .ref b3, .int (nI lim), .int (nI kc1), .int (nI nr), .int (nI nf1), .int (nI nc)])), (b1, .inl (g1, 400, .inl mk1)), (b2, .inl (g2, 400, .inl ch)), (b3, .inl (g3, 64, .inl kp1)), (h0, .inr (0, [.ref a1, .ref a2, .ref a3, .int (nI N), .int fa])), (a1, .inl (k1, 400, .inl (pm_nf9 cn))), (a2, .inl (k2, 8000, .inl fl)), (a3, .inl (k3, 16, .inl rt))] H ∧ va_D A [(m0, .inr (1, [.ref h0, .ref b1, .ref b2, .ref b3, .int (nI lim), .int (nI kc1), .int (nI nr), .int (nI nf1), .int (nI nc)])), (b1, .inl (g1, 400, .inl mk1)), (b2, .inl (g2, 400, .inl ch)), (b3, .inl (g3, 64, .inl kp1)), (h0, .inr (0, [.ref a1, .ref a2, .ref a3, .int (nI N), .int fa])), (a1, .inl (k1, 400, .inl (pm_nf9 cn))), (a2, .inl (k2, 8000, .inl fl)), (a3, .inl (k3, 16, .inl rt))] ∧ va_S A s.heap H locs ∧ lv_has ls 4 [(3, .int (nI j)), (2, .int (nI (cn a))), (1, .int (nI a)), (0, .ref m0)]) (fun x => match x with | (j, mk1, kp1, kc1, nf1) => cn a - j) ?_ (0, mr, kp, kc, nf) _ _ _ ⟨Nat.zero_le _, rfl, hP, hD, hS, lv_sub hl [0, 1, 3, 2] rfl⟩
    intro x H locs ls hI ih
    obtain ⟨j, mk1, kp1, kc1, nf1⟩ := x
    obtain ⟨hj, hE, hP, hD, hS, hl⟩ := hI
    dsimp only at ih
    have hL := pm_mf_le (lim := lim) hN (fun j => fl (a * 20 + j)) j (mr, kp, kc, nf)
    rw [← hE] at hL
    have hk1 : kc1 ≤ 64 := hL.2.2.2.2.2.2.1 hkc
    have hn1 : nf1 ≤ 400 := Nat.le_trans hL.2.2.2.1 hnf
    refine lv_iload_n hx hb dX1_markFieldsOf_11 rfl (lv_at hl 0 rfl) ?_
    refine lv_iload_n hx hb dX1_markFieldsOf_12 rfl (lv_at hl 1 rfl) ?_
    refine lv_icmp_ge (tgt := 35) hx hb dX1_markFieldsOf_13 (by decide) (fun c_13 => ?_) (fun c_13 => ?_)
    · rw [nI_leI (by omega) (by omega)] at c_13
      exact W.vret hx hb hr (fun t ht hW => ⟨⟨(mk1, kp1, kc1, nf1), rfl, by rw [hE, show j = cn a by omega]; exact pm_g2 hh_5 (by omega), by rw [ht]; exact hP, va_K.moved hW.alike hK, hD⟩, hS.F ht⟩) hS.2.2 dX1_markFieldsOf_35
    · rw [nI_leI (by omega) (by omega)] at c_13
      refine lv_aload_n hx hb dX1_markFieldsOf_16 rfl (lv_at hl 3 rfl) ?_
      refine lv_aload_n hx hb dX1_markFieldsOf_17 rfl (lv_at hl 3 rfl) ?_
      refine va_get (D := (dC, dI)) (ci := 1) (v := .ref h0) (C := RX1) (T := TX1) (N := 9) hx hb hts iw_X1 hown hK hP 0 rfl rfl 0 (by decide) (hts _ mf_X1_9) (fun _ h9 => h9) rfl dX1_markFieldsOf_18 ?_
      refine lv_iload_n hx hb dX1_markFieldsOf_21 rfl (lv_at hl 2 rfl) ?_
      refine lv_iload_n hx hb dX1_markFieldsOf_22 rfl (lv_at hl 0 rfl) ?_
      have hPc := hP.sub (ws' := [(h0, .inr (0, [.ref a1, .ref a2, .ref a3, .int (nI N), .int fa])), (a1, .inl (k1, 400, .inl (pm_nf9 cn))), (a2, .inl (k2, 8000, .inl fl)), (a3, .inl (k3, 16, .inl rt))]) [4, 5, 6, 7] rfl
      have hDc := hD.sub (ws' := [(h0, .inr (0, [.ref a1, .ref a2, .ref a3, .int (nI N), .int fa])), (a1, .inl (k1, 400, .inl (pm_nf9 cn))), (a2, .inl (k2, 8000, .inl fl)), (a3, .inl (k3, 16, .inl rt))]) [4, 5, 6, 7] (by decide) rfl
      have hKc := hK.sub (tys' := [(k1, .int), (k2, .int), (k3, .int)]) [3, 4, 5] rfl
      have hFc := va_free (wc := [(h0, .inr (0, [.ref a1, .ref a2, .ref a3, .int (nI N), .int fa])), (a1, .inl (k1, 400, .inl (pm_nf9 cn))), (a2, .inl (k2, 8000, .inl fl)), (a3, .inl (k3, 16, .inl rt))]) hD hS hA [4, 5, 6, 7] rfl
      refine va_calli (va_runV (As := [.int (nI a), .int (nI j)]) (rest := [.ref m0]) ⟨hx, hb, hml, hown, hts⟩ (c_H_fieldOf l dC dI h0 a1 a2 a3 k1 k2 k3 N cn fl rt fa (nI a) (nI j) H.size (hN) (hc)) (cwV 2 hts (gw_V ml_X1_77 mi_X0_fieldOf ms_X0_fieldOf mn_X0 mc_X0_fieldOf) rfl rfl rfl (by decide +kernel) ⟨Nat.le_of_ble_eq_true rfl, Nat.le_of_ble_eq_true rfl⟩) ⟨fun a U g mk q => by obtain ⟨q0, q1, qP, qK, qD⟩ := q; exact ⟨q0, q1, qP, va_K.moved (u := U) (U := U.calling g mk a) (Vm.Alike.refl U.vm) qK, qD⟩, va_recv hKc hPc (ci := 0) (q0 := 0) rfl rfl, fun U hU hW => ⟨rfl, by rw [hU], by rw [hU]; exact hPc, va_K.moved hW.alike hKc, hDc.weaken (fun _ _ _ _ => trivial)⟩⟩ rfl rfl hl.1 rfl (lv_room (Nat.le_of_ble_eq_true rfl)) dX1_markFieldsOf_23 ⟨Nat.le_of_ble_eq_true rfl, Nat.le_of_ble_eq_true rfl⟩) hS (fun q _ h => hFc q h) hFc (fun r_2 u t H1 locs ht hvm hw hB hz1 hk1 hS => ?_)
      obtain ⟨hP1, hK1, hD1⟩ := hB
      rw [ht] at hP1
      have hK1 := va_K.moved hvm.symm hK1
      obtain ⟨hP, hD⟩ := va_join (wr := [(m0, .inr (1, [.ref h0, .ref b1, .ref b2, .ref b3, .int (nI lim), .int (nI kc1), .int (nI nr), .int (nI nf1), .int (nI nc)])), (b1, .inl (g1, 400, .inl mk1)), (b2, .inl (g2, 400, .inl ch)), (b3, .inl (g3, 64, .inl kp1))]) (w1 := [(h0, .inr (0, [.ref a1, .ref a2, .ref a3, .int (nI N), .int fa])), (a1, .inl (k1, 400, .inl (pm_nf9 cn))), (a2, .inl (k2, 8000, .inl fl)), (a3, .inl (k3, 16, .inl rt))]) hP hD [4, 5, 6, 7] [0, 1, 2, 3] rfl rfl (by decide) (by decide) hk1 hFc hP1 hD1
      clear hPc hDc hKc hFc hP1 hK1 hD1
      generalize H1 = H at hP hS ⊢
      have hP : va_P (dC, dI) vwCl [(m0, .inr (1, [.ref h0, .ref b1, .ref b2, .ref b3, .int (nI lim), .int (nI kc1), .int (nI nr), .int (nI nf1), .int (nI nc)])), (b1, .inl (g1, 400, .inl mk1)), (b2, .inl (g2, 400, .inl ch)), (b3, .inl (g3, 64, .inl kp1)), (h0, .inr (0, [.ref a1, .ref a2, .ref a3, .int (nI N), .int fa])), (a1, .inl (k1, 400, .inl (pm_nf9 cn))), (a2, .inl (k2, 8000, .inl fl)), (a3, .inl (k3, 16, .inl rt))] H := hP.sub [0, 1, 2, 3, 4, 5, 6, 7] rfl
      have hD : va_D A [(m0, .inr (1, [.ref h0, .ref b1, .ref b2, .ref b3, .int (nI lim), .int (nI kc1), .int (nI nr), .int (nI nf1), .int (nI nc)])), (b1, .inl (g1, 400, .inl mk1)), (b2, .inl (g2, 400, .inl ch)), (b3, .inl (g3, 64, .inl kp1)), (h0, .inr (0, [.ref a1, .ref a2, .ref a3, .int (nI N), .int fa])), (a1, .inl (k1, 400, .inl (pm_nf9 cn))), (a2, .inl (k2, 8000, .inl fl)), (a3, .inl (k3, 16, .inl rt))] := hD.sub [0, 1, 2, 3, 4, 5, 6, 7] (by decide) rfl
      obtain rfl : r_2 = fl (a * 20 + j) := hw.trans ((pm_fo_t (pm_hf_nI (by omega) (by omega) ha (by omega)) (by omega) (by omega)).symm)
      have hPc := hP.sub (ws' := [(m0, .inr (1, [.ref h0, .ref b1, .ref b2, .ref b3, .int (nI lim), .int (nI kc1), .int (nI nr), .int (nI nf1), .int (nI nc)])), (b1, .inl (g1, 400, .inl mk1)), (b2, .inl (g2, 400, .inl ch)), (b3, .inl (g3, 64, .inl kp1)), (h0, .inr (0, [.ref a1, .ref a2, .ref a3, .int (nI N), .int fa])), (a1, .inl (k1, 400, .inl (pm_nf9 cn))), (a2, .inl (k2, 8000, .inl fl)), (a3, .inl (k3, 16, .inl rt))]) [0, 1, 2, 3, 4, 5, 6, 7] rfl
      have hDc := hD.sub (ws' := [(m0, .inr (1, [.ref h0, .ref b1, .ref b2, .ref b3, .int (nI lim), .int (nI kc1), .int (nI nr), .int (nI nf1), .int (nI nc)])), (b1, .inl (g1, 400, .inl mk1)), (b2, .inl (g2, 400, .inl ch)), (b3, .inl (g3, 64, .inl kp1)), (h0, .inr (0, [.ref a1, .ref a2, .ref a3, .int (nI N), .int fa])), (a1, .inl (k1, 400, .inl (pm_nf9 cn))), (a2, .inl (k2, 8000, .inl fl)), (a3, .inl (k3, 16, .inl rt))]) [0, 1, 2, 3, 4, 5, 6, 7] (by decide) rfl
      have hKc := hK.sub (tys' := [(g1, .boolean), (g2, .boolean), (g3, .int), (k1, .int), (k2, .int), (k3, .int)]) [0, 1, 2, 3, 4, 5] rfl
      have hFc := va_free (wc := [(m0, .inr (1, [.ref h0, .ref b1, .ref b2, .ref b3, .int (nI lim), .int (nI kc1), .int (nI nr), .int (nI nf1), .int (nI nc)])), (b1, .inl (g1, 400, .inl mk1)), (b2, .inl (g2, 400, .inl ch)), (b3, .inl (g3, 64, .inl kp1)), (h0, .inr (0, [.ref a1, .ref a2, .ref a3, .int (nI N), .int fa])), (a1, .inl (k1, 400, .inl (pm_nf9 cn))), (a2, .inl (k2, 8000, .inl fl)), (a3, .inl (k3, 16, .inl rt))]) hD hS hA [0, 1, 2, 3, 4, 5, 6, 7] rfl
      refine va_callv (va_runV (As := [.int (fl (a * 20 + j))]) (rest := []) ⟨hx, hb, hml, hown, hts⟩ (c_M_putMark l dC dI m0 b1 b2 b3 g1 g2 g3 mk1 ch kp1 lim kc1 nr nf1 nc h0 a1 a2 a3 k1 k2 k3 N cn fl rt fa (fl (a * 20 + j)) H.size (hlim) (by omega) (by omega) (hN)) (cwV 1 hts (gw_V ml_X1_60 mi_X1_putMark ms_X1_putMark mn_X1 mc_X1_putMark) rfl rfl rfl (by decide +kernel) ⟨Nat.le_of_ble_eq_true rfl, Nat.le_of_ble_eq_true rfl⟩) ⟨fun a U g mk q => by obtain ⟨q0, q1, qP, qK, qD⟩ := q; exact ⟨q0, q1, qP, va_K.moved (u := U) (U := U.calling g mk a) (Vm.Alike.refl U.vm) qK, qD⟩, va_recv hKc hPc (ci := 1) (q0 := 0) rfl rfl, fun U hU hW => ⟨rfl, by rw [hU], by rw [hU]; exact hPc, va_K.moved hW.alike hKc, hDc.weaken (fun _ _ _ _ => trivial)⟩⟩ rfl rfl hl.1 rfl (lv_room (Nat.le_of_ble_eq_true rfl)) dX1_markFieldsOf_26 ⟨Nat.le_of_ble_eq_true rfl, Nat.le_of_ble_eq_true rfl⟩) hS (fun q _ h => hFc q h) hFc (fun u t H1 locs ht hvm hw hB hz1 hk1 hS => ?_)
      obtain ⟨mk2, kp2, kc2, nf2⟩ := u
      obtain ⟨hP1, hK1, hD1⟩ := hB
      rw [ht] at hP1
      have hK1 := va_K.moved hvm.symm hK1
      obtain ⟨hP, hD⟩ := va_join (wr := []) (w1 := [(m0, .inr (1, [.ref h0, .ref b1, .ref b2, .ref b3, .int (nI lim), .int (nI kc2), .int (nI nr), .int (nI nf2), .int (nI nc)])), (b1, .inl (g1, 400, .inl mk2)), (b2, .inl (g2, 400, .inl ch)), (b3, .inl (g3, 64, .inl kp2)), (h0, .inr (0, [.ref a1, .ref a2, .ref a3, .int (nI N), .int fa])), (a1, .inl (k1, 400, .inl (pm_nf9 cn))), (a2, .inl (k2, 8000, .inl fl)), (a3, .inl (k3, 16, .inl rt))]) hP hD [0, 1, 2, 3, 4, 5, 6, 7] [] rfl rfl (by decide) (by decide) hk1 hFc hP1 hD1
      clear hPc hDc hKc hFc hP1 hK1 hD1
      generalize H1 = H at hP hS ⊢
      have hP : va_P (dC, dI) vwCl [(m0, .inr (1, [.ref h0, .ref b1, .ref b2, .ref b3, .int (nI lim), .int (nI kc2), .int (nI nr), .int (nI nf2), .int (nI nc)])), (b1, .inl (g1, 400, .inl mk2)), (b2, .inl (g2, 400, .inl ch)), (b3, .inl (g3, 64, .inl kp2)), (h0, .inr (0, [.ref a1, .ref a2, .ref a3, .int (nI N), .int fa])), (a1, .inl (k1, 400, .inl (pm_nf9 cn))), (a2, .inl (k2, 8000, .inl fl)), (a3, .inl (k3, 16, .inl rt))] H := hP.sub [0, 1, 2, 3, 4, 5, 6, 7] rfl
      have hD : va_D A [(m0, .inr (1, [.ref h0, .ref b1, .ref b2, .ref b3, .int (nI lim), .int (nI kc2), .int (nI nr), .int (nI nf2), .int (nI nc)])), (b1, .inl (g1, 400, .inl mk2)), (b2, .inl (g2, 400, .inl ch)), (b3, .inl (g3, 64, .inl kp2)), (h0, .inr (0, [.ref a1, .ref a2, .ref a3, .int (nI N), .int fa])), (a1, .inl (k1, 400, .inl (pm_nf9 cn))), (a2, .inl (k2, 8000, .inl fl)), (a3, .inl (k3, 16, .inl rt))] := hD.sub [0, 1, 2, 3, 4, 5, 6, 7] (by decide) rfl
      refine lv_iinc (v := nI (j + 1)) (lv' := [(3, .int (nI (j + 1))), (2, .int (nI (cn a))), (1, .int (nI a)), (0, .ref m0)]) hx hb dX1_markFieldsOf_29 hl (k := 0) rfl (nI_1 _) (by decide) rfl (fun ls hl => ?_)
      refine lv_goto (tgt := 11) hx hb dX1_markFieldsOf_32 (by decide) ?_
      exact ih (j + 1, mk2, kp2, kc2, nf2) _ _ _ ⟨by omega, by rw [hw, hE]; rfl, hP, hD, hS, lv_sub hl [0, 1, 2, 3] rfl⟩ (by omega)
  · obtain rfl : r_1 = nI 0 := hw.trans (by rw [if_neg (by rw [hh_5]; decide)])
    refine lv_istore_n (lv' := [(2, .int (nI 0)), (0, .ref m0), (1, .int p0)]) hx hb dX1_markFieldsOf_8 rfl hl (by decide) rfl (fun ls hl => ?_)
    refine lv_iconst (v := nI 0) hx hb dX1_markFieldsOf_9 (by decide +kernel) ?_
    refine lv_istore_n (lv' := [(3, .int (nI 0)), (2, .int (nI 0)), (0, .ref m0), (1, .int p0)]) hx hb dX1_markFieldsOf_10 rfl hl (by decide) rfl (fun ls hl => ?_)
    refine lv_iload_n hx hb dX1_markFieldsOf_11 rfl (lv_at hl 0 rfl) ?_
    refine lv_iload_n hx hb dX1_markFieldsOf_12 rfl (lv_at hl 1 rfl) ?_
    refine lv_icmp_ge (tgt := 35) hx hb dX1_markFieldsOf_13 (by decide) (fun c_13 => ?_) (fun c_13 => absurd c_13 (by decide +kernel))
    rw [nI_leI (by omega) (by omega)] at c_13
    exact W.vret hx hb hr (fun t ht hW => ⟨⟨(mr, kp, kc, nf), rfl, pm_g1 hh_5, by rw [ht]; exact hP, va_K.moved hW.alike hK, hD⟩, hS.F ht⟩) hS.2.2 dX1_markFieldsOf_35

set_option maxHeartbeats 4000000 in
set_option maxRecDepth 100000 in
/-- Marker.hasMark(k) -/
theorem c_M_hasMark (l : Launch) (dC : Nat → ClassId) (dI : Nat → Nat → Nat) (m0 b1 b2 b3 : Nat) (g1 g2 g3 : ClassId) (mr ch kp : Nat → Int32) (lim kc nr nf nc : Nat) (h0 a1 a2 a3 : Nat) (k1 k2 k3 : ClassId) (N : Nat) (cn : Nat → Nat) (fl rt : Nat → Int32) (fa : Int32) (p0 : Int32) (sz : Nat) (hN : N ≤ 400) : Met l yX1_hasMark wsX1_hasMark ({ frames := 1, cells := 0, slots := 0, locals := 21 }) (va_Pc [.ref m0, .int p0] (fun U => U.heap.size = sz ∧ va_P (dC, dI) vwCl [(m0, .inr (1, [.ref h0, .ref b1, .ref b2, .ref b3, .int (nI lim), .int (nI kc), .int (nI nr), .int (nI nf), .int (nI nc)])), (b1, .inl (g1, 400, .inl mr)), (b2, .inl (g2, 400, .inl ch)), (b3, .inl (g3, 64, .inl kp)), (h0, .inr (0, [.ref a1, .ref a2, .ref a3, .int (nI N), .int fa])), (a1, .inl (k1, 400, .inl (pm_nf9 cn))), (a2, .inl (k2, 8000, .inl fl)), (a3, .inl (k3, 16, .inl rt))] U.heap ∧ va_K (dC, dI) vwCl [(g1, .boolean), (g2, .boolean), (g3, .int), (k1, .int), (k2, .int), (k3, .int)] U ∧ va_D (fun _ => True) [(m0, .inr (1, [.ref h0, .ref b1, .ref b2, .ref b3, .int (nI lim), .int (nI kc), .int (nI nr), .int (nI nf), .int (nI nc)])), (b1, .inl (g1, 400, .inl mr)), (b2, .inl (g2, 400, .inl ch)), (b3, .inl (g3, 64, .inl kp)), (h0, .inr (0, [.ref a1, .ref a2, .ref a3, .int (nI N), .int fa])), (a1, .inl (k1, 400, .inl (pm_nf9 cn))), (a2, .inl (k2, 8000, .inl fl)), (a3, .inl (k3, 16, .inl rt))])) (va_Qi (fun (r : Int32) (_ : Unit) => r = pm_b (pm_hm N mr p0)) (fun (_ : Unit) (t : State) => va_P (dC, dI) vwCl [(m0, .inr (1, [.ref h0, .ref b1, .ref b2, .ref b3, .int (nI lim), .int (nI kc), .int (nI nr), .int (nI nf), .int (nI nc)])), (b1, .inl (g1, 400, .inl mr)), (b2, .inl (g2, 400, .inl ch)), (b3, .inl (g3, 64, .inl kp)), (h0, .inr (0, [.ref a1, .ref a2, .ref a3, .int (nI N), .int fa])), (a1, .inl (k1, 400, .inl (pm_nf9 cn))), (a2, .inl (k2, 8000, .inl fl)), (a3, .inl (k3, 16, .inl rt))] t.heap ∧ va_K (dC, dI) vwCl [(g1, .boolean), (g2, .boolean), (g3, .int), (k1, .int), (k2, .int), (k3, .int)] t ∧ va_D (va_A [(m0, .inr (1, [.ref h0, .ref b1, .ref b2, .ref b3, .int (nI lim), .int (nI kc), .int (nI nr), .int (nI nf), .int (nI nc)])), (b1, .inl (g1, 400, .inl mr)), (b2, .inl (g2, 400, .inl ch)), (b3, .inl (g3, 64, .inl kp)), (h0, .inr (0, [.ref a1, .ref a2, .ref a3, .int (nI N), .int fa])), (a1, .inl (k1, 400, .inl (pm_nf9 cn))), (a2, .inl (k2, 8000, .inl fl)), (a3, .inl (k3, 16, .inl rt))] sz) [(m0, .inr (1, [.ref h0, .ref b1, .ref b2, .ref b3, .int (nI lim), .int (nI kc), .int (nI nr), .int (nI nf), .int (nI nc)])), (b1, .inl (g1, 400, .inl mr)), (b2, .inl (g2, 400, .inl ch)), (b3, .inl (g3, 64, .inl kp)), (h0, .inr (0, [.ref a1, .ref a2, .ref a3, .int (nI N), .int fa])), (a1, .inl (k1, 400, .inl (pm_nf9 cn))), (a2, .inl (k2, 8000, .inl fl)), (a3, .inl (k3, 16, .inl rt))]) (va_A [(m0, .inr (1, [.ref h0, .ref b1, .ref b2, .ref b3, .int (nI lim), .int (nI kc), .int (nI nr), .int (nI nf), .int (nI nc)])), (b1, .inl (g1, 400, .inl mr)), (b2, .inl (g2, 400, .inl ch)), (b3, .inl (g3, 64, .inl kp)), (h0, .inr (0, [.ref a1, .ref a2, .ref a3, .int (nI N), .int fa])), (a1, .inl (k1, 400, .inl (pm_nf9 cn))), (a2, .inl (k2, 8000, .inl fl)), (a3, .inl (k3, 16, .inl rt))] sz)) 0 0 (va_A [(m0, .inr (1, [.ref h0, .ref b1, .ref b2, .ref b3, .int (nI lim), .int (nI kc), .int (nI nr), .int (nI nf), .int (nI nc)])), (b1, .inl (g1, 400, .inl mr)), (b2, .inl (g2, 400, .inl ch)), (b3, .inl (g3, 64, .inl kp)), (h0, .inr (0, [.ref a1, .ref a2, .ref a3, .int (nI N), .int fa])), (a1, .inl (k1, 400, .inl (pm_nf9 cn))), (a2, .inl (k2, 8000, .inl fl)), (a3, .inl (k3, 16, .inl rt))] sz) := by
  refine Met.ofW (cc := cX1_hasMark) (maxL := 2) (ret := (some .boolean)) (by decide) rfl ?_
  intro p e s m args below meth c s₁ B hml hv
  obtain ⟨rfl, hsz, hP, hK, hD0⟩ := hv
  have hx := B.exec
  have hb := B.bytes
  have hr := B.returns
  have hts : ∀ w ∈ gw, w.before _ s = true := fun w h => atoms_spec (ws := wsX1_hasMark) B.pre w (List.mem_cons_of_mem _ h)
  have hown : s.vm.findClass RX1 = some m.cls := findClass_of_methodNamed B.named
  have hlocks := B.notSynchronized
  subst hsz
  have hD := hD0.self (sz := s.heap.size)
  generalize hAe : va_A [(m0, .inr (1, [.ref h0, .ref b1, .ref b2, .ref b3, .int (nI lim), .int (nI kc), .int (nI nr), .int (nI nf), .int (nI nc)])), (b1, .inl (g1, 400, .inl mr)), (b2, .inl (g2, 400, .inl ch)), (b3, .inl (g3, 64, .inl kp)), (h0, .inr (0, [.ref a1, .ref a2, .ref a3, .int (nI N), .int fa])), (a1, .inl (k1, 400, .inl (pm_nf9 cn))), (a2, .inl (k2, 8000, .inl fl)), (a3, .inl (k3, 16, .inl rt))] s.heap.size = A at hD ⊢
  have hA : ∀ q : Nat, s.heap.size ≤ q → A q := fun q h => by rw [← hAe]; exact Or.inr h
  have hP : va_P (dC, dI) vwCl [(m0, .inr (1, [.ref h0, .ref b1, .ref b2, .ref b3, .int (nI lim), .int (nI kc), .int (nI nr), .int (nI nf), .int (nI nc)])), (b1, .inl (g1, 400, .inl mr)), (b2, .inl (g2, 400, .inl ch)), (b3, .inl (g3, 64, .inl kp)), (h0, .inr (0, [.ref a1, .ref a2, .ref a3, .int (nI N), .int fa])), (a1, .inl (k1, 400, .inl (pm_nf9 cn))), (a2, .inl (k2, 8000, .inl fl)), (a3, .inl (k3, 16, .inl rt))] s.heap := hP
  have hl := lv_entry ([.ref m0, .int p0]) (n := 2) (Nat.le_of_ble_eq_true rfl)
  rw [lg_entry_eq]
  generalize (lg_sl ([.ref m0, .int p0]) ++ List.replicate (2 - (lg_sl ([.ref m0, .int p0])).length) Slot.unset).toArray = ls at hl ⊢
  have hl : lv_has ls 2 [(0, .ref m0), (1, .int p0)] := hl
  obtain ⟨H, hH⟩ : ∃ H : Heap, H = s.heap := ⟨_, rfl⟩
  rw [← hH]
  rw [← hH] at hP
  have hS : va_S A s.heap H [] := by rw [hH]; exact va_S.rf
  clear hH
  refine lv_aload_n hx hb dX1_hasMark_0 rfl (lv_at hl 0 rfl) ?_
  refine va_get (D := (dC, dI)) (ci := 1) (v := .ref h0) (C := RX1) (T := TX1) (N := 9) hx hb hts iw_X1 hown hK hP 0 rfl rfl 0 (by decide) (hts _ mf_X1_9) (fun _ h9 => h9) rfl dX1_hasMark_1 ?_
  refine lv_iload_n hx hb dX1_hasMark_4 rfl (lv_at hl 1 rfl) ?_
  have hPc := hP.sub (ws' := [(h0, .inr (0, [.ref a1, .ref a2, .ref a3, .int (nI N), .int fa])), (a1, .inl (k1, 400, .inl (pm_nf9 cn))), (a2, .inl (k2, 8000, .inl fl)), (a3, .inl (k3, 16, .inl rt))]) [4, 5, 6, 7] rfl
  have hDc := hD.sub (ws' := [(h0, .inr (0, [.ref a1, .ref a2, .ref a3, .int (nI N), .int fa])), (a1, .inl (k1, 400, .inl (pm_nf9 cn))), (a2, .inl (k2, 8000, .inl fl)), (a3, .inl (k3, 16, .inl rt))]) [4, 5, 6, 7] (by decide) rfl
  have hKc := hK.sub (tys' := [(k1, .int), (k2, .int), (k3, .int)]) [3, 4, 5] rfl
  have hFc := va_free (wc := [(h0, .inr (0, [.ref a1, .ref a2, .ref a3, .int (nI N), .int fa])), (a1, .inl (k1, 400, .inl (pm_nf9 cn))), (a2, .inl (k2, 8000, .inl fl)), (a3, .inl (k3, 16, .inl rt))]) hD hS hA [4, 5, 6, 7] rfl
  refine va_calli (va_runV (As := [.int p0]) (rest := []) ⟨hx, hb, hml, hown, hts⟩ (c_H_has l dC dI h0 a1 a2 a3 k1 k2 k3 N cn fl rt fa p0 H.size) (cwV 1 hts (gw_V ml_X1_42 mi_X0_has ms_X0_has mn_X0 mc_X0_has) rfl rfl rfl (by decide +kernel) ⟨Nat.le_of_ble_eq_true rfl, Nat.le_of_ble_eq_true rfl⟩) ⟨fun a U g mk q => by obtain ⟨q0, q1, qP, qK, qD⟩ := q; exact ⟨q0, q1, qP, va_K.moved (u := U) (U := U.calling g mk a) (Vm.Alike.refl U.vm) qK, qD⟩, va_recv hKc hPc (ci := 0) (q0 := 0) rfl rfl, fun U hU hW => ⟨rfl, by rw [hU], by rw [hU]; exact hPc, va_K.moved hW.alike hKc, hDc.weaken (fun _ _ _ _ => trivial)⟩⟩ rfl rfl hl.1 rfl (lv_room (Nat.le_of_ble_eq_true rfl)) dX1_hasMark_5 ⟨Nat.le_of_ble_eq_true rfl, Nat.le_of_ble_eq_true rfl⟩) hS (fun q _ h => hFc q h) hFc (fun r_1 u t H1 locs ht hvm hw hB hz1 hk1 hS => ?_)
  obtain ⟨hP1, hK1, hD1⟩ := hB
  rw [ht] at hP1
  have hK1 := va_K.moved hvm.symm hK1
  obtain ⟨hP, hD⟩ := va_join (wr := [(m0, .inr (1, [.ref h0, .ref b1, .ref b2, .ref b3, .int (nI lim), .int (nI kc), .int (nI nr), .int (nI nf), .int (nI nc)])), (b1, .inl (g1, 400, .inl mr)), (b2, .inl (g2, 400, .inl ch)), (b3, .inl (g3, 64, .inl kp))]) (w1 := [(h0, .inr (0, [.ref a1, .ref a2, .ref a3, .int (nI N), .int fa])), (a1, .inl (k1, 400, .inl (pm_nf9 cn))), (a2, .inl (k2, 8000, .inl fl)), (a3, .inl (k3, 16, .inl rt))]) hP hD [4, 5, 6, 7] [0, 1, 2, 3] rfl rfl (by decide) (by decide) hk1 hFc hP1 hD1
  clear hPc hDc hKc hFc hP1 hK1 hD1
  generalize H1 = H at hP hS ⊢
  have hP : va_P (dC, dI) vwCl [(m0, .inr (1, [.ref h0, .ref b1, .ref b2, .ref b3, .int (nI lim), .int (nI kc), .int (nI nr), .int (nI nf), .int (nI nc)])), (b1, .inl (g1, 400, .inl mr)), (b2, .inl (g2, 400, .inl ch)), (b3, .inl (g3, 64, .inl kp)), (h0, .inr (0, [.ref a1, .ref a2, .ref a3, .int (nI N), .int fa])), (a1, .inl (k1, 400, .inl (pm_nf9 cn))), (a2, .inl (k2, 8000, .inl fl)), (a3, .inl (k3, 16, .inl rt))] H := hP.sub [0, 1, 2, 3, 4, 5, 6, 7] rfl
  have hD : va_D A [(m0, .inr (1, [.ref h0, .ref b1, .ref b2, .ref b3, .int (nI lim), .int (nI kc), .int (nI nr), .int (nI nf), .int (nI nc)])), (b1, .inl (g1, 400, .inl mr)), (b2, .inl (g2, 400, .inl ch)), (b3, .inl (g3, 64, .inl kp)), (h0, .inr (0, [.ref a1, .ref a2, .ref a3, .int (nI N), .int fa])), (a1, .inl (k1, 400, .inl (pm_nf9 cn))), (a2, .inl (k2, 8000, .inl fl)), (a3, .inl (k3, 16, .inl rt))] := hD.sub [0, 1, 2, 3, 4, 5, 6, 7] (by decide) rfl
  rcases pm_tf (pm_has N p0) with hh_5 | hh_5
  · obtain rfl : r_1 = nI 1 := hw.trans (by rw [hh_5]; rfl)
    refine lv_if_eq (tgt := 24) hx hb dX1_hasMark_8 (by decide) (fun c_8 => absurd c_8 (by decide +kernel)) (fun c_8 => ?_)
    refine lv_aload_n hx hb dX1_hasMark_11 rfl (lv_at hl 0 rfl) ?_
    refine va_get (D := (dC, dI)) (ci := 1) (v := .ref b1) (C := RX1) (T := TX1) (N := 9) hx hb hts iw_X1 hown hK hP 0 rfl rfl 1 (by decide) (hts _ mf_X1_15) (fun _ h9 => h9) rfl dX1_hasMark_12 ?_
    refine lv_iload_n hx hb dX1_hasMark_15 rfl (lv_at hl 1 rfl) ?_
    refine va_zald hx hb hK hP 1 0 rfl rfl (pm_has_in hN (by omega) hh_5) dX1_hasMark_16 ?_
    refine lv_topi (fun x_2 ex_2 => ?_)
    subst ex_2
    refine lv_if_eq (tgt := 24) hx hb dX1_hasMark_17 (by decide) (fun c_17 => ?_) (fun c_17 => ?_)
    · refine lv_iconst (v := nI 0) hx hb dX1_hasMark_24 (by decide +kernel) ?_
      exact W.zret (v := nI 0) hx hb hr (by decide +kernel) (fun t ht hW => ⟨⟨nI 0, (), rfl, pm_hm2 hh_5 c_17, by rw [ht]; exact hP, va_K.moved hW.alike hK, hD⟩, hS.F ht⟩) hS.2.2 dX1_hasMark_25
    · refine lv_iconst (v := nI 1) hx hb dX1_hasMark_20 (by decide +kernel) ?_
      refine lv_goto (tgt := 25) hx hb dX1_hasMark_21 (by decide) ?_
      exact W.zret (v := nI 1) hx hb hr (by decide +kernel) (fun t ht hW => ⟨⟨nI 1, (), rfl, pm_hm3 hh_5 c_17, by rw [ht]; exact hP, va_K.moved hW.alike hK, hD⟩, hS.F ht⟩) hS.2.2 dX1_hasMark_25
  · obtain rfl : r_1 = nI 0 := hw.trans (by rw [hh_5]; rfl)
    refine lv_if_eq (tgt := 24) hx hb dX1_hasMark_8 (by decide) (fun c_8 => ?_) (fun c_8 => absurd c_8 (by decide +kernel))
    refine lv_iconst (v := nI 0) hx hb dX1_hasMark_24 (by decide +kernel) ?_
    exact W.zret (v := nI 0) hx hb hr (by decide +kernel) (fun t ht hW => ⟨⟨nI 0, (), rfl, pm_hm1 hh_5, by rw [ht]; exact hP, va_K.moved hW.alike hK, hD⟩, hS.F ht⟩) hS.2.2 dX1_hasMark_25
