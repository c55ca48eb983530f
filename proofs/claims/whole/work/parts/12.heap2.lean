set_option maxHeartbeats 4000000 in
set_option maxRecDepth 100000 in
/-- Heap.addObject(fields) -/
theorem c_H_addObject (l : Launch) (dC : Nat → ClassId) (dI : Nat → Nat → Nat) (h0 a1 a2 a3 : Nat) (k1 k2 k3 : ClassId) (N : Nat) (cn : Nat → Nat) (fl rt : Nat → Int32) (fa : Int32) (F : Nat) (sz : Nat) (hN : N < 400) (hF : F ≤ 20) : Met l yX0_addObject wsX0_addObject ({ frames := 1, cells := 0, slots := 0, locals := 20 }) (va_Pc [.ref h0, .int (nI F)] (fun U => U.heap.size = sz ∧ va_P (dC, dI) vwCl [(h0, .inr (0, [.ref a1, .ref a2, .ref a3, .int (nI N), .int fa])), (a1, .inl (k1, 400, .inl (pm_nf9 cn))), (a2, .inl (k2, 8000, .inl fl)), (a3, .inl (k3, 16, .inl rt))] U.heap ∧ va_K (dC, dI) vwCl [(k1, .int), (k2, .int), (k3, .int)] U ∧ va_D (fun _ => True) [(h0, .inr (0, [.ref a1, .ref a2, .ref a3, .int (nI N), .int fa])), (a1, .inl (k1, 400, .inl (pm_nf9 cn))), (a2, .inl (k2, 8000, .inl fl)), (a3, .inl (k3, 16, .inl rt))])) (va_Qi (fun (r : Int32) (_ : Unit) => r = nI N) (fun (_ : Unit) (t : State) => va_P (dC, dI) vwCl [(h0, .inr (0, [.ref a1, .ref a2, .ref a3, .int (nI ((N + 1))), .int (fa + nI F)])), (a1, .inl (k1, 400, .inl (pm_nf9 ((pm_un cn N F))))), (a2, .inl (k2, 8000, .inl (pm_fill fl (N * 20) F))), (a3, .inl (k3, 16, .inl rt))] t.heap ∧ va_K (dC, dI) vwCl [(k1, .int), (k2, .int), (k3, .int)] t ∧ va_D (va_A [(h0, .inr (0, [.ref a1, .ref a2, .ref a3, .int (nI N), .int fa])), (a1, .inl (k1, 400, .inl (pm_nf9 cn))), (a2, .inl (k2, 8000, .inl fl)), (a3, .inl (k3, 16, .inl rt))] sz) [(h0, .inr (0, [.ref a1, .ref a2, .ref a3, .int (nI ((N + 1))), .int (fa + nI F)])), (a1, .inl (k1, 400, .inl (pm_nf9 ((pm_un cn N F))))), (a2, .inl (k2, 8000, .inl (pm_fill fl (N * 20) F))), (a3, .inl (k3, 16, .inl rt))]) (va_A [(h0, .inr (0, [.ref a1, .ref a2, .ref a3, .int (nI N), .int fa])), (a1, .inl (k1, 400, .inl (pm_nf9 cn))), (a2, .inl (k2, 8000, .inl fl)), (a3, .inl (k3, 16, .inl rt))] sz)) 0 0 (va_A [(h0, .inr (0, [.ref a1, .ref a2, .ref a3, .int (nI N), .int fa])), (a1, .inl (k1, 400, .inl (pm_nf9 cn))), (a2, .inl (k2, 8000, .inl fl)), (a3, .inl (k3, 16, .inl rt))] sz) := by
  refine Met.ofW (cc := cX0_addObject) (maxL := 4) (ret := (some .int)) (by decide) rfl ?_
  intro p e s m args below meth c s₁ B hml hv
  obtain ⟨rfl, hsz, hP, hK, hD0⟩ := hv
  have hx := B.exec
  have hb := B.bytes
  have hr := B.returns
  have hts : ∀ w ∈ gw, w.before _ s = true := fun w h => atoms_spec (ws := wsX0_addObject) B.pre w (List.mem_cons_of_mem _ h)
  have hown : s.vm.findClass RX0 = some m.cls := findClass_of_methodNamed B.named
  have hlocks := B.notSynchronized
  subst hsz
  have hD := hD0.self (sz := s.heap.size)
  generalize hAe : va_A [(h0, .inr (0, [.ref a1, .ref a2, .ref a3, .int (nI N), .int fa])), (a1, .inl (k1, 400, .inl (pm_nf9 cn))), (a2, .inl (k2, 8000, .inl fl)), (a3, .inl (k3, 16, .inl rt))] s.heap.size = A at hD ⊢
  have hA : ∀ q : Nat, s.heap.size ≤ q → A q := fun q h => by rw [← hAe]; exact Or.inr h
  have hP : va_P (dC, dI) vwCl [(h0, .inr (0, [.ref a1, .ref a2, .ref a3, .int (nI N), .int fa])), (a1, .inl (k1, 400, .inl (pm_nf9 cn))), (a2, .inl (k2, 8000, .inl fl)), (a3, .inl (k3, 16, .inl rt))] s.heap := hP
  have hl := lv_entry ([.ref h0, .int (nI F)]) (n := 4) (Nat.le_of_ble_eq_true rfl)
  rw [lg_entry_eq]
  generalize (lg_sl ([.ref h0, .int (nI F)]) ++ List.replicate (4 - (lg_sl ([.ref h0, .int (nI F)])).length) Slot.unset).toArray = ls at hl ⊢
  have hl : lv_has ls 4 [(0, .ref h0), (1, .int (nI F))] := hl
  obtain ⟨H, hH⟩ : ∃ H : Heap, H = s.heap := ⟨_, rfl⟩
  rw [← hH]
  rw [← hH] at hP
  have hS : va_S A s.heap H [] := by rw [hH]; exact va_S.rf
  clear hH
  refine lv_aload_n hx hb dX0_addObject_0 rfl (lv_at hl 0 rfl) ?_
  have hPc := hP.sub (ws' := [(h0, .inr (0, [.ref a1, .ref a2, .ref a3, .int (nI N), .int fa])), (a1, .inl (k1, 400, .inl (pm_nf9 cn))), (a2, .inl (k2, 8000, .inl fl)), (a3, .inl (k3, 16, .inl rt))]) [0, 1, 2, 3] rfl
  have hDc := hD.sub (ws' := [(h0, .inr (0, [.ref a1, .ref a2, .ref a3, .int (nI N), .int fa])), (a1, .inl (k1, 400, .inl (pm_nf9 cn))), (a2, .inl (k2, 8000, .inl fl)), (a3, .inl (k3, 16, .inl rt))]) [0, 1, 2, 3] (by decide) rfl
  have hKc := hK.sub (tys' := [(k1, .int), (k2, .int), (k3, .int)]) [0, 1, 2] rfl
  have hFc := va_free (wc := [(h0, .inr (0, [.ref a1, .ref a2, .ref a3, .int (nI N), .int fa])), (a1, .inl (k1, 400, .inl (pm_nf9 cn))), (a2, .inl (k2, 8000, .inl fl)), (a3, .inl (k3, 16, .inl rt))]) hD hS hA [0, 1, 2, 3] rfl
  refine va_calli (va_runV (As := []) (rest := []) ⟨hx, hb, hml, hown, hts⟩ (c_H_isFull l dC dI h0 a1 a2 a3 k1 k2 k3 N cn fl rt fa H.size (by omega)) (cwV 0 hts (gw_V ml_X0_32 mi_X0_isFull ms_X0_isFull mn_X0 mc_X0_isFull) rfl rfl rfl (by decide +kernel) ⟨Nat.le_of_ble_eq_true rfl, Nat.le_of_ble_eq_true rfl⟩) ⟨fun a U g mk q => by obtain ⟨q0, q1, qP, qK, qD⟩ := q; exact ⟨q0, q1, qP, va_K.moved (u := U) (U := U.calling g mk a) (Vm.Alike.refl U.vm) qK, qD⟩, va_recv hKc hPc (ci := 0) (q0 := 0) rfl rfl, fun U hU hW => ⟨rfl, by rw [hU], by rw [hU]; exact hPc, va_K.moved hW.alike hKc, hDc.weaken (fun _ _ _ _ => trivial)⟩⟩ rfl rfl hl.1 rfl (lv_room (Nat.le_of_ble_eq_true rfl)) dX0_addObject_1 ⟨Nat.le_of_ble_eq_true rfl, Nat.le_of_ble_eq_true rfl⟩) hS (fun q _ h => hFc q h) hFc (fun r_1 u t H1 locs ht hvm hw hB hz1 hk1 hS => ?_)
  obtain ⟨hP1, hK1, hD1⟩ := hB
  rw [ht] at hP1
  have hK1 := va_K.moved hvm.symm hK1
  obtain ⟨hP, hD⟩ := va_join (wr := []) (w1 := [(h0, .inr (0, [.ref a1, .ref a2, .ref a3, .int (nI N), .int fa])), (a1, .inl (k1, 400, .inl (pm_nf9 cn))), (a2, .inl (k2, 8000, .inl fl)), (a3, .inl (k3, 16, .inl rt))]) hP hD [0, 1, 2, 3] [] rfl rfl (by decide) (by decide) hk1 hFc hP1 hD1
  clear hPc hDc hKc hFc hP1 hK1 hD1
  generalize H1 = H at hP hS ⊢
  have hP : va_P (dC, dI) vwCl [(h0, .inr (0, [.ref a1, .ref a2, .ref a3, .int (nI N), .int fa])), (a1, .inl (k1, 400, .inl (pm_nf9 cn))), (a2, .inl (k2, 8000, .inl fl)), (a3, .inl (k3, 16, .inl rt))] H := hP.sub [0, 1, 2, 3] rfl
  have hD : va_D A [(h0, .inr (0, [.ref a1, .ref a2, .ref a3, .int (nI N), .int fa])), (a1, .inl (k1, 400, .inl (pm_nf9 cn))), (a2, .inl (k2, 8000, .inl fl)), (a3, .inl (k3, 16, .inl rt))] := hD.sub [0, 1, 2, 3] (by decide) rfl
  obtain rfl : r_1 = nI 0 := hw.trans (by rw [decide_eq_false (by omega)]; rfl)
  refine lv_if_ne (tgt := 17) hx hb dX0_addObject_4 (by decide) (fun c_4 => absurd c_4 (by decide +kernel)) (fun c_4 => ?_)
  refine lv_iload_n hx hb dX0_addObject_7 rfl (lv_at hl 1 rfl) ?_
  refine lv_if_lt (tgt := 17) hx hb dX0_addObject_8 (by decide) (fun c_8 => absurd c_8 (nI_pos (by omega))) (fun c_8 => ?_)
  refine lv_iload_n hx hb dX0_addObject_11 rfl (lv_at hl 1 rfl) ?_
  refine lv_bipush (v := nI 20) hx hb dX0_addObject_12 (by decide +kernel) ?_
  refine lv_icmp_le (tgt := 19) hx hb dX0_addObject_14 (by decide) (fun c_14 => ?_) (fun c_14 => absurd (nI_le (by omega) (by omega)) c_14)
  refine lv_aload_n hx hb dX0_addObject_19 rfl (lv_at hl 0 rfl) ?_
  refine va_get (D := (dC, dI)) (ci := 0) (v := .int (nI N)) (C := RX0) (T := TX0) (N := 5) hx hb hts iw_X0 hown hK hP 0 rfl rfl 3 (by decide) (hts _ mf_X0_21) (fun _ h9 => h9) rfl dX0_addObject_20 ?_
  refine lv_istore_n (lv' := [(2, .int (nI N)), (0, .ref h0), (1, .int (nI F))]) hx hb dX0_addObject_23 rfl hl (by decide) rfl (fun ls hl => ?_)
  refine lv_aload_n hx hb dX0_addObject_24 rfl (lv_at hl 1 rfl) ?_
  refine va_get (D := (dC, dI)) (ci := 0) (v := .ref a1) (C := RX0) (T := TX0) (N := 5) hx hb hts iw_X0 hown hK hP 0 rfl rfl 0 (by decide) (hts _ mf_X0_9) (fun _ h9 => h9) rfl dX0_addObject_25 ?_
  refine lv_iload_n hx hb dX0_addObject_28 rfl (lv_at hl 0 rfl) ?_
  refine lv_iload_n hx hb dX0_addObject_29 rfl (lv_at hl 2 rfl) ?_
  refine va_iast hx hb hK hP hD hS 1 0 rfl rfl (vp_in_nI (by omega) (by omega)) dX0_addObject_30 (fun H locs hP hD hS => ?_)
  rw [nI_clamp (by omega)] at hP hD
  have hP : va_P (dC, dI) vwCl [(h0, .inr (0, [.ref a1, .ref a2, .ref a3, .int (nI N), .int fa])), (a1, .inl (k1, 400, .inl (upd (pm_nf9 cn) N (nI F)))), (a2, .inl (k2, 8000, .inl fl)), (a3, .inl (k3, 16, .inl rt))] H := hP
  have hD : va_D A [(h0, .inr (0, [.ref a1, .ref a2, .ref a3, .int (nI N), .int fa])), (a1, .inl (k1, 400, .inl (upd (pm_nf9 cn) N (nI F)))), (a2, .inl (k2, 8000, .inl fl)), (a3, .inl (k3, 16, .inl rt))] := hD
  rw [show upd (pm_nf9 cn) N (nI F) = pm_nf9 (pm_un cn N F) from pm_nf9_up cn N F] at hP hD
  refine lv_iconst (v := nI 0) hx hb dX0_addObject_31 (by decide +kernel) ?_
  refine lv_istore_n (lv' := [(3, .int (nI 0)), (2, .int (nI N)), (0, .ref h0), (1, .int (nI F))]) hx hb dX0_addObject_32 rfl hl (by decide) rfl (fun ls hl => ?_)
  have hP : va_P (dC, dI) vwCl [(h0, .inr (0, [.ref a1, .ref a2, .ref a3, .int (nI N), .int fa])), (a1, .inl (k1, 400, .inl (pm_nf9 ((pm_un cn N F))))), (a2, .inl (k2, 8000, .inl (pm_fill fl (N * 20) 0))), (a3, .inl (k3, 16, .inl rt))] H := by rw [pm_fill_0]; exact hP
  have hD : va_D A [(h0, .inr (0, [.ref a1, .ref a2, .ref a3, .int (nI N), .int fa])), (a1, .inl (k1, 400, .inl (pm_nf9 ((pm_un cn N F))))), (a2, .inl (k2, 8000, .inl (pm_fill fl (N * 20) 0))), (a3, .inl (k3, 16, .inl rt))] := by rw [pm_fill_0]; exact hD
  refine lp_loop (σ := Nat) (head := 33) (fun j H locs ls => j ≤ F ∧ va_P (dC, dI) vwCl [(h0, .inr (0, [.ref a1, .ref a2, .ref a3, .int (nI N), .int fa])), (a1, .inl (k1, 400, .inl (pm_nf9 ((pm_un cn N F))))), (a2, .inl (k2, 8000, .inl (pm_fill fl (N * 20) j))), (a3, .inl (k3, 16, .inl rt))] H ∧ va_D A [(h0, .inr (0, [.ref a1, .ref a2, .ref a3, .int (nI N), .int fa])), (a1, .inl (k1, 400, .inl (pm_nf9 ((pm_un cn N F))))), (a2, .inl (k2, 8000, .inl (pm_fill fl (N * 20) j))), (a3, .inl (k3, 16, .inl rt))] ∧ va_S A s.heap H locs ∧ lv_has ls 4 [(3, .int (nI j)), (2, .int (nI N)), (1, .int (nI F)), (0, .ref h0)]) (fun j => F - j) ?_ 0 _ _ _ ⟨Nat.zero_le _, hP, hD, hS, lv_sub hl [0, 1, 3, 2] rfl⟩
  intro x H locs ls hI ih
  obtain ⟨j, rfl⟩ : ∃ y, y = x := ⟨x, rfl⟩
  obtain ⟨hj, hP, hD, hS, hl⟩ := hI
  refine lv_iload_n hx hb dX0_addObject_33 rfl (lv_at hl 0 rfl) ?_
  refine lv_iload_n hx hb dX0_addObject_34 rfl (lv_at hl 2 rfl) ?_
  refine lv_icmp_ge (tgt := 56) hx hb dX0_addObject_35 (by decide) (fun c_35 => ?_) (fun c_35 => ?_)
  · rw [nI_leI (by omega) (by omega)] at c_35
    rw [show j = F by omega] at hP hD
    refine lv_aload_n hx hb dX0_addObject_56 rfl (lv_at hl 3 rfl) ?_
    refine lv_dup hx hb dX0_addObject_57 rfl ?_
    refine va_get (D := (dC, dI)) (ci := 0) (v := .int (nI N)) (C := RX0) (T := TX0) (N := 5) hx hb hts iw_X0 hown hK hP 0 rfl rfl 3 (by decide) (hts _ mf_X0_21) (fun _ h9 => h9) rfl dX0_addObject_58 ?_
    refine lv_iconst (v := nI 1) hx hb dX0_addObject_61 (by decide +kernel) ?_
    refine lv_iadd hx hb dX0_addObject_62 ?_
    refine lv_topi (fun x_2 ex_2 => ?_)
    obtain rfl : x_2 = nI (N + 1) := ex_2.trans (nI_add _ _)
    refine va_put (D := (dC, dI)) (ci := 0) (v := .int (nI (N + 1))) (ty := .int) (C := RX0) (T := TX0) (N := 5) hx hb hts iw_X0 tyX0 tyX0_ok nmX0 hown hK hP hD hS 0 rfl rfl 3 (by decide) (hts _ mf_X0_21) (fun _ h9 => h9) rfl (by decide +kernel) (rfl) (rfl) (Nat.le_of_ble_eq_true rfl) dX0_addObject_63 (fun H locs hP hD hS => ?_)
    have hP : va_P (dC, dI) vwCl [(h0, .inr (0, [.ref a1, .ref a2, .ref a3, .int (nI (N + 1)), .int fa])), (a1, .inl (k1, 400, .inl (pm_nf9 ((pm_un cn N F))))), (a2, .inl (k2, 8000, .inl (pm_fill fl (N * 20) F))), (a3, .inl (k3, 16, .inl rt))] H := hP
    have hD : va_D A [(h0, .inr (0, [.ref a1, .ref a2, .ref a3, .int (nI (N + 1)), .int fa])), (a1, .inl (k1, 400, .inl (pm_nf9 ((pm_un cn N F))))), (a2, .inl (k2, 8000, .inl (pm_fill fl (N * 20) F))), (a3, .inl (k3, 16, .inl rt))] := hD
    refine lv_aload_n hx hb dX0_addObject_66 rfl (lv_at hl 3 rfl) ?_
    refine lv_dup hx hb dX0_addObject_67 rfl ?_
    refine va_get (D := (dC, dI)) (ci := 0) (v := .int fa) (C := RX0) (T := TX0) (N := 5) hx hb hts iw_X0 hown hK hP 0 rfl rfl 4 (by decide) (hts _ mf_X0_25) (fun _ h9 => h9) rfl dX0_addObject_68 ?_
    refine lv_iload_n hx hb dX0_addObject_71 rfl (lv_at hl 2 rfl) ?_
    refine lv_iadd hx hb dX0_addObject_72 ?_
    refine va_put (D := (dC, dI)) (ci := 0) (v := .int (fa + nI F)) (ty := .int) (C := RX0) (T := TX0) (N := 5) hx hb hts iw_X0 tyX0 tyX0_ok nmX0 hown hK hP hD hS 0 rfl rfl 4 (by decide) (hts _ mf_X0_25) (fun _ h9 => h9) rfl (by decide +kernel) (rfl) (rfl) (Nat.le_of_ble_eq_true rfl) dX0_addObject_73 (fun H locs hP hD hS => ?_)
    have hP : va_P (dC, dI) vwCl [(h0, .inr (0, [.ref a1, .ref a2, .ref a3, .int (nI (N + 1)), .int (fa + nI F)])), (a1, .inl (k1, 400, .inl (pm_nf9 ((pm_un cn N F))))), (a2, .inl (k2, 8000, .inl (pm_fill fl (N * 20) F))), (a3, .inl (k3, 16, .inl rt))] H := hP
    have hD : va_D A [(h0, .inr (0, [.ref a1, .ref a2, .ref a3, .int (nI (N + 1)), .int (fa + nI F)])), (a1, .inl (k1, 400, .inl (pm_nf9 ((pm_un cn N F))))), (a2, .inl (k2, 8000, .inl (pm_fill fl (N * 20) F))), (a3, .inl (k3, 16, .inl rt))] := hD
    refine lv_iload_n hx hb dX0_addObject_76 rfl (lv_at hl 1 rfl) ?_
    exact W.iret (v := nI N) hx hb hr (fun t ht hW => ⟨⟨nI N, (), rfl, rfl, by rw [ht]; exact hP, va_K.moved hW.alike hK, hD⟩, hS.F ht⟩) hS.2.2 dX0_addObject_77
  · rw [nI_leI (by omega) (by omega)] at c_35
    refine lv_aload_n hx hb dX0_addObject_38 rfl (lv_at hl 3 rfl) ?_
    refine va_get (D := (dC, dI)) (ci := 0) (v := .ref a2) (C := RX0) (T := TX0) (N := 5) hx hb hts iw_X0 hown hK hP 0 rfl rfl 1 (by decide) (hts _ mf_X0_15) (fun _ h9 => h9) rfl dX0_addObject_39 ?_
    refine lv_iload_n hx hb dX0_addObject_42 rfl (lv_at hl 1 rfl) ?_
    refine lv_bipush (v := nI 20) hx hb dX0_addObject_43 (by decide +kernel) ?_
    refine lv_imul hx hb dX0_addObject_45 ?_
    refine lv_topi (fun x_3 ex_3 => ?_)
    obtain rfl : x_3 = nI (N * 20) := ex_3.trans (pk_mul _ _)
    refine lv_iload_n hx hb dX0_addObject_46 rfl (lv_at hl 0 rfl) ?_
    refine lv_iadd hx hb dX0_addObject_47 ?_
    refine lv_topi (fun x_4 ex_4 => ?_)
    obtain rfl : x_4 = nI ((N * 20) + j) := ex_4.trans (nI_add _ _)
    refine lv_iconst (v := -1) hx hb dX0_addObject_48 (by decide +kernel) ?_
    refine va_iast hx hb hK hP hD hS 2 1 rfl rfl (vp_in_nI (by omega) (by omega)) dX0_addObject_49 (fun H locs hP hD hS => ?_)
    rw [nI_clamp (by omega)] at hP hD
    have hP : va_P (dC, dI) vwCl [(h0, .inr (0, [.ref a1, .ref a2, .ref a3, .int (nI N), .int fa])), (a1, .inl (k1, 400, .inl (pm_nf9 ((pm_un cn N F))))), (a2, .inl (k2, 8000, .inl (upd (pm_fill fl (N * 20) j) (((N * 20) + j)) (-1)))), (a3, .inl (k3, 16, .inl rt))] H := hP
    have hD : va_D A [(h0, .inr (0, [.ref a1, .ref a2, .ref a3, .int (nI N), .int fa])), (a1, .inl (k1, 400, .inl (pm_nf9 ((pm_un cn N F))))), (a2, .inl (k2, 8000, .inl (upd (pm_fill fl (N * 20) j) (((N * 20) + j)) (-1)))), (a3, .inl (k3, 16, .inl rt))] := hD
    rw [show upd (pm_fill fl (N * 20) j) (((N * 20) + j)) (-1) = pm_fill fl (N * 20) (j + 1) from pm_fill_s fl (N * 20) j] at hP hD
    refine lv_iinc (v := nI (j + 1)) (lv' := [(3, .int (nI (j + 1))), (2, .int (nI N)), (1, .int (nI F)), (0, .ref h0)]) hx hb dX0_addObject_50 hl (k := 0) rfl (nI_1 _) (by decide) rfl (fun ls hl => ?_)
    refine lv_goto (tgt := 33) hx hb dX0_addObject_53 (by decide) ?_
    exact ih (j + 1) _ _ _ ⟨by omega, hP, hD, hS, lv_sub hl [0, 1, 2, 3] rfl⟩ (by omega)

set_option maxHeartbeats 4000000 in
set_option maxRecDepth 100000 in
/-- Heap.putField(k, field, other) -/
theorem c_H_putField (l : Launch) (dC : Nat → ClassId) (dI : Nat → Nat → Nat) (h0 a1 a2 a3 : Nat) (k1 k2 k3 : ClassId) (N : Nat) (cn : Nat → Nat) (fl rt : Nat → Int32) (fa : Int32) (a j : Nat) (p2 : Int32) (sz : Nat) (hN : N ≤ 400) (hc : ∀ k, k < N → cn k ≤ 20) (ha : a < N) (hj : j < cn a) : Met l yX0_putField wsX0_putField ({ frames := 3, cells := 0, slots := 0, locals := 65 }) (va_Pc [.ref h0, .int (nI a), .int (nI j), .int p2] (fun U => U.heap.size = sz ∧ va_P (dC, dI) vwCl [(h0, .inr (0, [.ref a1, .ref a2, .ref a3, .int (nI N), .int fa])), (a1, .inl (k1, 400, .inl (pm_nf9 cn))), (a2, .inl (k2, 8000, .inl fl)), (a3, .inl (k3, 16, .inl rt))] U.heap ∧ va_K (dC, dI) vwCl [(k1, .int), (k2, .int), (k3, .int)] U ∧ va_D (fun _ => True) [(h0, .inr (0, [.ref a1, .ref a2, .ref a3, .int (nI N), .int fa])), (a1, .inl (k1, 400, .inl (pm_nf9 cn))), (a2, .inl (k2, 8000, .inl fl)), (a3, .inl (k3, 16, .inl rt))])) (va_Qi (fun (r : Int32) (_ : Unit) => r = fl (a * 20 + j)) (fun (_ : Unit) (t : State) => va_P (dC, dI) vwCl [(h0, .inr (0, [.ref a1, .ref a2, .ref a3, .int (nI N), .int fa])), (a1, .inl (k1, 400, .inl (pm_nf9 cn))), (a2, .inl (k2, 8000, .inl (upd fl (a * 20 + j) p2))), (a3, .inl (k3, 16, .inl rt))] t.heap ∧ va_K (dC, dI) vwCl [(k1, .int), (k2, .int), (k3, .int)] t ∧ va_D (va_A [(h0, .inr (0, [.ref a1, .ref a2, .ref a3, .int (nI N), .int fa])), (a1, .inl (k1, 400, .inl (pm_nf9 cn))), (a2, .inl (k2, 8000, .inl fl)), (a3, .inl (k3, 16, .inl rt))] sz) [(h0, .inr (0, [.ref a1, .ref a2, .ref a3, .int (nI N), .int fa])), (a1, .inl (k1, 400, .inl (pm_nf9 cn))), (a2, .inl (k2, 8000, .inl (upd fl (a * 20 + j) p2))), (a3, .inl (k3, 16, .inl rt))]) (va_A [(h0, .inr (0, [.ref a1, .ref a2, .ref a3, .int (nI N), .int fa])), (a1, .inl (k1, 400, .inl (pm_nf9 cn))), (a2, .inl (k2, 8000, .inl fl)), (a3, .inl (k3, 16, .inl rt))] sz)) 0 0 (va_A [(h0, .inr (0, [.ref a1, .ref a2, .ref a3, .int (nI N), .int fa])), (a1, .inl (k1, 400, .inl (pm_nf9 cn))), (a2, .inl (k2, 8000, .inl fl)), (a3, .inl (k3, 16, .inl rt))] sz) := by
  refine Met.ofW (cc := cX0_putField) (maxL := 5) (ret := (some .int)) (by decide) rfl ?_
  intro p e s m args below meth c s₁ B hml hv
  obtain ⟨rfl, hsz, hP, hK, hD0⟩ := hv
  have hx := B.exec
  have hb := B.bytes
  have hr := B.returns
  have hts : ∀ w ∈ gw, w.before _ s = true := fun w h => atoms_spec (ws := wsX0_putField) B.pre w (List.mem_cons_of_mem _ h)
  have hown : s.vm.findClass RX0 = some m.cls := findClass_of_methodNamed B.named
  have hlocks := B.notSynchronized
  subst hsz
  have hD := hD0.self (sz := s.heap.size)
  generalize hAe : va_A [(h0, .inr (0, [.ref a1, .ref a2, .ref a3, .int (nI N), .int fa])), (a1, .inl (k1, 400, .inl (pm_nf9 cn))), (a2, .inl (k2, 8000, .inl fl)), (a3, .inl (k3, 16, .inl rt))] s.heap.size = A at hD ⊢
  have hA : ∀ q : Nat, s.heap.size ≤ q → A q := fun q h => by rw [← hAe]; exact Or.inr h
  have hP : va_P (dC, dI) vwCl [(h0, .inr (0, [.ref a1, .ref a2, .ref a3, .int (nI N), .int fa])), (a1, .inl (k1, 400, .inl (pm_nf9 cn))), (a2, .inl (k2, 8000, .inl fl)), (a3, .inl (k3, 16, .inl rt))] s.heap := hP
  have hl := lv_entry ([.ref h0, .int (nI a), .int (nI j), .int p2]) (n := 5) (Nat.le_of_ble_eq_true rfl)
  rw [lg_entry_eq]
  generalize (lg_sl ([.ref h0, .int (nI a), .int (nI j), .int p2]) ++ List.replicate (5 - (lg_sl ([.ref h0, .int (nI a), .int (nI j), .int p2])).length) Slot.unset).toArray = ls at hl ⊢
  have hl : lv_has ls 5 [(0, .ref h0), (1, .int (nI a)), (2, .int (nI j)), (3, .int p2)] := hl
  obtain ⟨H, hH⟩ : ∃ H : Heap, H = s.heap := ⟨_, rfl⟩
  rw [← hH]
  rw [← hH] at hP
  have hS : va_S A s.heap H [] := by rw [hH]; exact va_S.rf
  clear hH
  have hca := hc a ha
  refine lv_aload_n hx hb dX0_putField_0 rfl (lv_at hl 0 rfl) ?_
  refine lv_iload_n hx hb dX0_putField_1 rfl (lv_at hl 1 rfl) ?_
  refine lv_iload_n hx hb dX0_putField_2 rfl (lv_at hl 2 rfl) ?_
  have hPc := hP.sub (ws' := [(h0, .inr (0, [.ref a1, .ref a2, .ref a3, .int (nI N), .int fa])), (a1, .inl (k1, 400, .inl (pm_nf9 cn))), (a2, .inl (k2, 8000, .inl fl)), (a3, .inl (k3, 16, .inl rt))]) [0, 1, 2, 3] rfl
  have hDc := hD.sub (ws' := [(h0, .inr (0, [.ref a1, .ref a2, .ref a3, .int (nI N), .int fa])), (a1, .inl (k1, 400, .inl (pm_nf9 cn))), (a2, .inl (k2, 8000, .inl fl)), (a3, .inl (k3, 16, .inl rt))]) [0, 1, 2, 3] (by decide) rfl
  have hKc := hK.sub (tys' := [(k1, .int), (k2, .int), (k3, .int)]) [0, 1, 2] rfl
  have hFc := va_free (wc := [(h0, .inr (0, [.ref a1, .ref a2, .ref a3, .int (nI N), .int fa])), (a1, .inl (k1, 400, .inl (pm_nf9 cn))), (a2, .inl (k2, 8000, .inl fl)), (a3, .inl (k3, 16, .inl rt))]) hD hS hA [0, 1, 2, 3] rfl
  refine va_calli (va_runV (As := [.int (nI a), .int (nI j)]) (rest := []) ⟨hx, hb, hml, hown, hts⟩ (c_H_fieldOf l dC dI h0 a1 a2 a3 k1 k2 k3 N cn fl rt fa (nI a) (nI j) H.size (hN) (hc)) (cwV 2 hts (gw_V ml_X0_40 mi_X0_fieldOf ms_X0_fieldOf mn_X0 mc_X0_fieldOf) rfl rfl rfl (by decide +kernel) ⟨Nat.le_of_ble_eq_true rfl, Nat.le_of_ble_eq_true rfl⟩) ⟨fun a U g mk q => by obtain ⟨q0, q1, qP, qK, qD⟩ := q; exact ⟨q0, q1, qP, va_K.moved (u := U) (U := U.calling g mk a) (Vm.Alike.refl U.vm) qK, qD⟩, va_recv hKc hPc (ci := 0) (q0 := 0) rfl rfl, fun U hU hW => ⟨rfl, by rw [hU], by rw [hU]; exact hPc, va_K.moved hW.alike hKc, hDc.weaken (fun _ _ _ _ => trivial)⟩⟩ rfl rfl hl.1 rfl (lv_room (Nat.le_of_ble_eq_true rfl)) dX0_putField_3 ⟨Nat.le_of_ble_eq_true rfl, Nat.le_of_ble_eq_true rfl⟩) hS (fun q _ h => hFc q h) hFc (fun r_1 u t H1 locs ht hvm hw hB hz1 hk1 hS => ?_)
  obtain ⟨hP1, hK1, hD1⟩ := hB
  rw [ht] at hP1
  have hK1 := va_K.moved hvm.symm hK1
  obtain ⟨hP, hD⟩ := va_join (wr := []) (w1 := [(h0, .inr (0, [.ref a1, .ref a2, .ref a3, .int (nI N), .int fa])), (a1, .inl (k1, 400, .inl (pm_nf9 cn))), (a2, .inl (k2, 8000, .inl fl)), (a3, .inl (k3, 16, .inl rt))]) hP hD [0, 1, 2, 3] [] rfl rfl (by decide) (by decide) hk1 hFc hP1 hD1
  clear hPc hDc hKc hFc hP1 hK1 hD1
  generalize H1 = H at hP hS ⊢
  have hP : va_P (dC, dI) vwCl [(h0, .inr (0, [.ref a1, .ref a2, .ref a3, .int (nI N), .int fa])), (a1, .inl (k1, 400, .inl (pm_nf9 cn))), (a2, .inl (k2, 8000, .inl fl)), (a3, .inl (k3, 16, .inl rt))] H := hP.sub [0, 1, 2, 3] rfl
  have hD : va_D A [(h0, .inr (0, [.ref a1, .ref a2, .ref a3, .int (nI N), .int fa])), (a1, .inl (k1, 400, .inl (pm_nf9 cn))), (a2, .inl (k2, 8000, .inl fl)), (a3, .inl (k3, 16, .inl rt))] := hD.sub [0, 1, 2, 3] (by decide) rfl
  obtain rfl : r_1 = fl (a * 20 + j) := hw.trans ((pm_fo_t (pm_hf_nI (by omega) (by omega) ha hj) (by omega) (by omega)).symm)
  refine lv_istore (lv' := [(4, .int (fl (a * 20 + j))), (0, .ref h0), (1, .int (nI a)), (2, .int (nI j)), (3, .int p2)]) hx hb dX0_putField_6 hl (by decide) rfl (fun ls hl => ?_)
  refine lv_aload_n hx hb dX0_putField_8 rfl (lv_at hl 1 rfl) ?_
  refine lv_iload_n hx hb dX0_putField_9 rfl (lv_at hl 2 rfl) ?_
  refine lv_iload_n hx hb dX0_putField_10 rfl (lv_at hl 3 rfl) ?_
  have hPc := hP.sub (ws' := [(h0, .inr (0, [.ref a1, .ref a2, .ref a3, .int (nI N), .int fa])), (a1, .inl (k1, 400, .inl (pm_nf9 cn))), (a2, .inl (k2, 8000, .inl fl)), (a3, .inl (k3, 16, .inl rt))]) [0, 1, 2, 3] rfl
  have hDc := hD.sub (ws' := [(h0, .inr (0, [.ref a1, .ref a2, .ref a3, .int (nI N), .int fa])), (a1, .inl (k1, 400, .inl (pm_nf9 cn))), (a2, .inl (k2, 8000, .inl fl)), (a3, .inl (k3, 16, .inl rt))]) [0, 1, 2, 3] (by decide) rfl
  have hKc := hK.sub (tys' := [(k1, .int), (k2, .int), (k3, .int)]) [0, 1, 2] rfl
  have hFc := va_free (wc := [(h0, .inr (0, [.ref a1, .ref a2, .ref a3, .int (nI N), .int fa])), (a1, .inl (k1, 400, .inl (pm_nf9 cn))), (a2, .inl (k2, 8000, .inl fl)), (a3, .inl (k3, 16, .inl rt))]) hD hS hA [0, 1, 2, 3] rfl
  refine va_calli (va_runV (As := [.int (nI a), .int (nI j)]) (rest := []) ⟨hx, hb, hml, hown, hts⟩ (c_H_hasField l dC dI h0 a1 a2 a3 k1 k2 k3 N cn fl rt fa (nI a) (nI j) H.size (hN)) (cwV 2 hts (gw_V ml_X0_36 mi_X0_hasField ms_X0_hasField mn_X0 mc_X0_hasField) rfl rfl rfl (by decide +kernel) ⟨Nat.le_of_ble_eq_true rfl, Nat.le_of_ble_eq_true rfl⟩) ⟨fun a U g mk q => by obtain ⟨q0, q1, qP, qK, qD⟩ := q; exact ⟨q0, q1, qP, va_K.moved (u := U) (U := U.calling g mk a) (Vm.Alike.refl U.vm) qK, qD⟩, va_recv hKc hPc (ci := 0) (q0 := 0) rfl rfl, fun U hU hW => ⟨rfl, by rw [hU], by rw [hU]; exact hPc, va_K.moved hW.alike hKc, hDc.weaken (fun _ _ _ _ => trivial)⟩⟩ rfl rfl hl.1 rfl (lv_room (Nat.le_of_ble_eq_true rfl)) dX0_putField_11 ⟨Nat.le_of_ble_eq_true rfl, Nat.le_of_ble_eq_true rfl⟩) hS (fun q _ h => hFc q h) hFc (fun r_2 u t H1 locs ht hvm hw hB hz1 hk1 hS => ?_)
  obtain ⟨hP1, hK1, hD1⟩ := hB
  rw [ht] at hP1
  have hK1 := va_K.moved hvm.symm hK1
  obtain ⟨hP, hD⟩ := va_join (wr := []) (w1 := [(h0, .inr (0, [.ref a1, .ref a2, .ref a3, .int (nI N), .int fa])), (a1, .inl (k1, 400, .inl (pm_nf9 cn))), (a2, .inl (k2, 8000, .inl fl)), (a3, .inl (k3, 16, .inl rt))]) hP hD [0, 1, 2, 3] [] rfl rfl (by decide) (by decide) hk1 hFc hP1 hD1
  clear hPc hDc hKc hFc hP1 hK1 hD1
  generalize H1 = H at hP hS ⊢
  have hP : va_P (dC, dI) vwCl [(h0, .inr (0, [.ref a1, .ref a2, .ref a3, .int (nI N), .int fa])), (a1, .inl (k1, 400, .inl (pm_nf9 cn))), (a2, .inl (k2, 8000, .inl fl)), (a3, .inl (k3, 16, .inl rt))] H := hP.sub [0, 1, 2, 3] rfl
  have hD : va_D A [(h0, .inr (0, [.ref a1, .ref a2, .ref a3, .int (nI N), .int fa])), (a1, .inl (k1, 400, .inl (pm_nf9 cn))), (a2, .inl (k2, 8000, .inl fl)), (a3, .inl (k3, 16, .inl rt))] := hD.sub [0, 1, 2, 3] (by decide) rfl
  obtain rfl : r_2 = nI 1 := hw.trans (by rw [pm_hf_nI (by omega) (by omega) ha hj]; rfl)
  refine lv_if_eq (tgt := 29) hx hb dX0_putField_14 (by decide) (fun c_14 => absurd c_14 (by decide +kernel)) (fun c_14 => ?_)
  refine lv_aload_n hx hb dX0_putField_17 rfl (lv_at hl 1 rfl) ?_
  refine va_get (D := (dC, dI)) (ci := 0) (v := .ref a2) (C := RX0) (T := TX0) (N := 5) hx hb hts iw_X0 hown hK hP 0 rfl rfl 1 (by decide) (hts _ mf_X0_15) (fun _ h9 => h9) rfl dX0_putField_18 ?_
  refine lv_iload_n hx hb dX0_putField_21 rfl (lv_at hl 2 rfl) ?_
  refine lv_bipush (v := nI 20) hx hb dX0_putField_22 (by decide +kernel) ?_
  refine lv_imul hx hb dX0_putField_24 ?_
  refine lv_topi (fun x_3 ex_3 => ?_)
  obtain rfl : x_3 = nI (a * 20) := ex_3.trans (pk_mul _ _)
  refine lv_iload_n hx hb dX0_putField_25 rfl (lv_at hl 3 rfl) ?_
  refine lv_iadd hx hb dX0_putField_26 ?_
  refine lv_topi (fun x_4 ex_4 => ?_)
  obtain rfl : x_4 = nI ((a * 20) + j) := ex_4.trans (nI_add _ _)
  refine lv_iload_n hx hb dX0_putField_27 rfl (lv_at hl 4 rfl) ?_
  refine va_iast hx hb hK hP hD hS 2 1 rfl rfl (vp_in_nI (by omega) (by omega)) dX0_putField_28 (fun H locs hP hD hS => ?_)
  rw [nI_clamp (by omega)] at hP hD
  have hP : va_P (dC, dI) vwCl [(h0, .inr (0, [.ref a1, .ref a2, .ref a3, .int (nI N), .int fa])), (a1, .inl (k1, 400, .inl (pm_nf9 cn))), (a2, .inl (k2, 8000, .inl (upd fl (((a * 20) + j)) p2))), (a3, .inl (k3, 16, .inl rt))] H := hP
  have hD : va_D A [(h0, .inr (0, [.ref a1, .ref a2, .ref a3, .int (nI N), .int fa])), (a1, .inl (k1, 400, .inl (pm_nf9 cn))), (a2, .inl (k2, 8000, .inl (upd fl (((a * 20) + j)) p2))), (a3, .inl (k3, 16, .inl rt))] := hD
  refine lv_iload hx hb dX0_putField_29 (lv_at hl 0 rfl) ?_
  exact W.iret (v := fl (a * 20 + j)) hx hb hr (fun t ht hW => ⟨⟨fl (a * 20 + j), (), rfl, rfl, by rw [ht]; exact hP, va_K.moved hW.alike hK, hD⟩, hS.F ht⟩) hS.2.2 dX0_putField_31

set_option maxHeartbeats 4000000 in
set_option maxRecDepth 100000 in
/-- Heap.putRoot(i, k) -/
theorem c_H_putRoot (l : Launch) (dC : Nat → ClassId) (dI : Nat → Nat → Nat) (h0 a1 a2 a3 : Nat) (k1 k2 k3 : ClassId) (N : Nat) (cn : Nat → Nat) (fl rt : Nat → Int32) (fa : Int32) (i : Nat) (p1 : Int32) (sz : Nat) (hi : i < 16) : Met l yX0_putRoot wsX0_putRoot ({ frames := 2, cells := 0, slots := 0, locals := 43 }) (va_Pc [.ref h0, .int (nI i), .int p1] (fun U => U.heap.size = sz ∧ va_P (dC, dI) vwCl [(h0, .inr (0, [.ref a1, .ref a2, .ref a3, .int (nI N), .int fa])), (a1, .inl (k1, 400, .inl (pm_nf9 cn))), (a2, .inl (k2, 8000, .inl fl)), (a3, .inl (k3, 16, .inl rt))] U.heap ∧ va_K (dC, dI) vwCl [(k1, .int), (k2, .int), (k3, .int)] U ∧ va_D (fun _ => True) [(h0, .inr (0, [.ref a1, .ref a2, .ref a3, .int (nI N), .int fa])), (a1, .inl (k1, 400, .inl (pm_nf9 cn))), (a2, .inl (k2, 8000, .inl fl)), (a3, .inl (k3, 16, .inl rt))])) (va_Qi (fun (r : Int32) (_ : Unit) => r = rt i) (fun (_ : Unit) (t : State) => va_P (dC, dI) vwCl [(h0, .inr (0, [.ref a1, .ref a2, .ref a3, .int (nI N), .int fa])), (a1, .inl (k1, 400, .inl (pm_nf9 cn))), (a2, .inl (k2, 8000, .inl fl)), (a3, .inl (k3, 16, .inl (upd rt i p1)))] t.heap ∧ va_K (dC, dI) vwCl [(k1, .int), (k2, .int), (k3, .int)] t ∧ va_D (va_A [(h0, .inr (0, [.ref a1, .ref a2, .ref a3, .int (nI N), .int fa])), (a1, .inl (k1, 400, .inl (pm_nf9 cn))), (a2, .inl (k2, 8000, .inl fl)), (a3, .inl (k3, 16, .inl rt))] sz) [(h0, .inr (0, [.ref a1, .ref a2, .ref a3, .int (nI N), .int fa])), (a1, .inl (k1, 400, .inl (pm_nf9 cn))), (a2, .inl (k2, 8000, .inl fl)), (a3, .inl (k3, 16, .inl (upd rt i p1)))]) (va_A [(h0, .inr (0, [.ref a1, .ref a2, .ref a3, .int (nI N), .int fa])), (a1, .inl (k1, 400, .inl (pm_nf9 cn))), (a2, .inl (k2, 8000, .inl fl)), (a3, .inl (k3, 16, .inl rt))] sz)) 0 0 (va_A [(h0, .inr (0, [.ref a1, .ref a2, .ref a3, .int (nI N), .int fa])), (a1, .inl (k1, 400, .inl (pm_nf9 cn))), (a2, .inl (k2, 8000, .inl fl)), (a3, .inl (k3, 16, .inl rt))] sz) := by
  refine Met.ofW (cc := cX0_putRoot) (maxL := 4) (ret := (some .int)) (by decide) rfl ?_
  intro p e s m args below meth c s₁ B hml hv
  obtain ⟨rfl, hsz, hP, hK, hD0⟩ := hv
  have hx := B.exec
  have hb := B.bytes
  have hr := B.returns
  have hts : ∀ w ∈ gw, w.before _ s = true := fun w h => atoms_spec (ws := wsX0_putRoot) B.pre w (List.mem_cons_of_mem _ h)
  have hown : s.vm.findClass RX0 = some m.cls := findClass_of_methodNamed B.named
  have hlocks := B.notSynchronized
  subst hsz
  have hD := hD0.self (sz := s.heap.size)
  generalize hAe : va_A [(h0, .inr (0, [.ref a1, .ref a2, .ref a3, .int (nI N), .int fa])), (a1, .inl (k1, 400, .inl (pm_nf9 cn))), (a2, .inl (k2, 8000, .inl fl)), (a3, .inl (k3, 16, .inl rt))] s.heap.size = A at hD ⊢
  have hA : ∀ q : Nat, s.heap.size ≤ q → A q := fun q h => by rw [← hAe]; exact Or.inr h
  have hP : va_P (dC, dI) vwCl [(h0, .inr (0, [.ref a1, .ref a2, .ref a3, .int (nI N), .int fa])), (a1, .inl (k1, 400, .inl (pm_nf9 cn))), (a2, .inl (k2, 8000, .inl fl)), (a3, .inl (k3, 16, .inl rt))] s.heap := hP
  have hl := lv_entry ([.ref h0, .int (nI i), .int p1]) (n := 4) (Nat.le_of_ble_eq_true rfl)
  rw [lg_entry_eq]
  generalize (lg_sl ([.ref h0, .int (nI i), .int p1]) ++ List.replicate (4 - (lg_sl ([.ref h0, .int (nI i), .int p1])).length) Slot.unset).toArray = ls at hl ⊢
  have hl : lv_has ls 4 [(0, .ref h0), (1, .int (nI i)), (2, .int p1)] := hl
  obtain ⟨H, hH⟩ : ∃ H : Heap, H = s.heap := ⟨_, rfl⟩
  rw [← hH]
  rw [← hH] at hP
  have hS : va_S A s.heap H [] := by rw [hH]; exact va_S.rf
  clear hH
  refine lv_aload_n hx hb dX0_putRoot_0 rfl (lv_at hl 0 rfl) ?_
  refine lv_iload_n hx hb dX0_putRoot_1 rfl (lv_at hl 1 rfl) ?_
  have hPc := hP.sub (ws' := [(h0, .inr (0, [.ref a1, .ref a2, .ref a3, .int (nI N), .int fa])), (a1, .inl (k1, 400, .inl (pm_nf9 cn))), (a2, .inl (k2, 8000, .inl fl)), (a3, .inl (k3, 16, .inl rt))]) [0, 1, 2, 3] rfl
  have hDc := hD.sub (ws' := [(h0, .inr (0, [.ref a1, .ref a2, .ref a3, .int (nI N), .int fa])), (a1, .inl (k1, 400, .inl (pm_nf9 cn))), (a2, .inl (k2, 8000, .inl fl)), (a3, .inl (k3, 16, .inl rt))]) [0, 1, 2, 3] (by decide) rfl
  have hKc := hK.sub (tys' := [(k1, .int), (k2, .int), (k3, .int)]) [0, 1, 2] rfl
  have hFc := va_free (wc := [(h0, .inr (0, [.ref a1, .ref a2, .ref a3, .int (nI N), .int fa])), (a1, .inl (k1, 400, .inl (pm_nf9 cn))), (a2, .inl (k2, 8000, .inl fl)), (a3, .inl (k3, 16, .inl rt))]) hD hS hA [0, 1, 2, 3] rfl
  refine va_calli (va_runV (As := [.int (nI i)]) (rest := []) ⟨hx, hb, hml, hown, hts⟩ (c_H_rootAt l dC dI h0 a1 a2 a3 k1 k2 k3 N cn fl rt fa (nI i) H.size) (cwV 1 hts (gw_V ml_X0_47 mi_X0_rootAt ms_X0_rootAt mn_X0 mc_X0_rootAt) rfl rfl rfl (by decide +kernel) ⟨Nat.le_of_ble_eq_true rfl, Nat.le_of_ble_eq_true rfl⟩) ⟨fun a U g mk q => by obtain ⟨q0, q1, qP, qK, qD⟩ := q; exact ⟨q0, q1, qP, va_K.moved (u := U) (U := U.calling g mk a) (Vm.Alike.refl U.vm) qK, qD⟩, va_recv hKc hPc (ci := 0) (q0 := 0) rfl rfl, fun U hU hW => ⟨rfl, by rw [hU], by rw [hU]; exact hPc, va_K.moved hW.alike hKc, hDc.weaken (fun _ _ _ _ => trivial)⟩⟩ rfl rfl hl.1 rfl (lv_room (Nat.le_of_ble_eq_true rfl)) dX0_putRoot_2 ⟨Nat.le_of_ble_eq_true rfl, Nat.le_of_ble_eq_true rfl⟩) hS (fun q _ h => hFc q h) hFc (fun r_1 u t H1 locs ht hvm hw hB hz1 hk1 hS => ?_)
  obtain ⟨hP1, hK1, hD1⟩ := hB
  rw [ht] at hP1
  have hK1 := va_K.moved hvm.symm hK1
  obtain ⟨hP, hD⟩ := va_join (wr := []) (w1 := [(h0, .inr (0, [.ref a1, .ref a2, .ref a3, .int (nI N), .int fa])), (a1, .inl (k1, 400, .inl (pm_nf9 cn))), (a2, .inl (k2, 8000, .inl fl)), (a3, .inl (k3, 16, .inl rt))]) hP hD [0, 1, 2, 3] [] rfl rfl (by decide) (by decide) hk1 hFc hP1 hD1
  clear hPc hDc hKc hFc hP1 hK1 hD1
  generalize H1 = H at hP hS ⊢
  have hP : va_P (dC, dI) vwCl [(h0, .inr (0, [.ref a1, .ref a2, .ref a3, .int (nI N), .int fa])), (a1, .inl (k1, 400, .inl (pm_nf9 cn))), (a2, .inl (k2, 8000, .inl fl)), (a3, .inl (k3, 16, .inl rt))] H := hP.sub [0, 1, 2, 3] rfl
  have hD : va_D A [(h0, .inr (0, [.ref a1, .ref a2, .ref a3, .int (nI N), .int fa])), (a1, .inl (k1, 400, .inl (pm_nf9 cn))), (a2, .inl (k2, 8000, .inl fl)), (a3, .inl (k3, 16, .inl rt))] := hD.sub [0, 1, 2, 3] (by decide) rfl
  obtain rfl : r_1 = rt i := hw.trans (by rw [if_pos (pm_has_nI (by omega) hi), nI_clamp (by omega)])
  refine lv_istore_n (lv' := [(3, .int (rt i)), (0, .ref h0), (1, .int (nI i)), (2, .int p1)]) hx hb dX0_putRoot_5 rfl hl (by decide) rfl (fun ls hl => ?_)
  refine lv_aload_n hx hb dX0_putRoot_6 rfl (lv_at hl 1 rfl) ?_
  refine lv_iload_n hx hb dX0_putRoot_7 rfl (lv_at hl 2 rfl) ?_
  have hPc := hP.sub (ws' := [(h0, .inr (0, [.ref a1, .ref a2, .ref a3, .int (nI N), .int fa])), (a1, .inl (k1, 400, .inl (pm_nf9 cn))), (a2, .inl (k2, 8000, .inl fl)), (a3, .inl (k3, 16, .inl rt))]) [0, 1, 2, 3] rfl
  have hDc := hD.sub (ws' := [(h0, .inr (0, [.ref a1, .ref a2, .ref a3, .int (nI N), .int fa])), (a1, .inl (k1, 400, .inl (pm_nf9 cn))), (a2, .inl (k2, 8000, .inl fl)), (a3, .inl (k3, 16, .inl rt))]) [0, 1, 2, 3] (by decide) rfl
  have hKc := hK.sub (tys' := [(k1, .int), (k2, .int), (k3, .int)]) [0, 1, 2] rfl
  have hFc := va_free (wc := [(h0, .inr (0, [.ref a1, .ref a2, .ref a3, .int (nI N), .int fa])), (a1, .inl (k1, 400, .inl (pm_nf9 cn))), (a2, .inl (k2, 8000, .inl fl)), (a3, .inl (k3, 16, .inl rt))]) hD hS hA [0, 1, 2, 3] rfl
  refine va_calli (va_runV (As := [.int (nI i)]) (rest := []) ⟨hx, hb, hml, hown, hts⟩ (c_H_hasRoot l dC dI h0 a1 a2 a3 k1 k2 k3 N cn fl rt fa (nI i) H.size) (cwV 1 hts (gw_V ml_X0_44 mi_X0_hasRoot ms_X0_hasRoot mn_X0 mc_X0_hasRoot) rfl rfl rfl (by decide +kernel) ⟨Nat.le_of_ble_eq_true rfl, Nat.le_of_ble_eq_true rfl⟩) ⟨fun a U g mk q => by obtain ⟨q0, q1, qP, qK, qD⟩ := q; exact ⟨q0, q1, qP, va_K.moved (u := U) (U := U.calling g mk a) (Vm.Alike.refl U.vm) qK, qD⟩, va_recv hKc hPc (ci := 0) (q0 := 0) rfl rfl, fun U hU hW => ⟨rfl, by rw [hU], by rw [hU]; exact hPc, va_K.moved hW.alike hKc, hDc.weaken (fun _ _ _ _ => trivial)⟩⟩ rfl rfl hl.1 rfl (lv_room (Nat.le_of_ble_eq_true rfl)) dX0_putRoot_8 ⟨Nat.le_of_ble_eq_true rfl, Nat.le_of_ble_eq_true rfl⟩) hS (fun q _ h => hFc q h) hFc (fun r_2 u t H1 locs ht hvm hw hB hz1 hk1 hS => ?_)
  obtain ⟨hP1, hK1, hD1⟩ := hB
  rw [ht] at hP1
  have hK1 := va_K.moved hvm.symm hK1
  obtain ⟨hP, hD⟩ := va_join (wr := []) (w1 := [(h0, .inr (0, [.ref a1, .ref a2, .ref a3, .int (nI N), .int fa])), (a1, .inl (k1, 400, .inl (pm_nf9 cn))), (a2, .inl (k2, 8000, .inl fl)), (a3, .inl (k3, 16, .inl rt))]) hP hD [0, 1, 2, 3] [] rfl rfl (by decide) (by decide) hk1 hFc hP1 hD1
  clear hPc hDc hKc hFc hP1 hK1 hD1
  generalize H1 = H at hP hS ⊢
  have hP : va_P (dC, dI) vwCl [(h0, .inr (0, [.ref a1, .ref a2, .ref a3, .int (nI N), .int fa])), (a1, .inl (k1, 400, .inl (pm_nf9 cn))), (a2, .inl (k2, 8000, .inl fl)), (a3, .inl (k3, 16, .inl rt))] H := hP.sub [0, 1, 2, 3] rfl
  have hD : va_D A [(h0, .inr (0, [.ref a1, .ref a2, .ref a3, .int (nI N), .int fa])), (a1, .inl (k1, 400, .inl (pm_nf9 cn))), (a2, .inl (k2, 8000, .inl fl)), (a3, .inl (k3, 16, .inl rt))] := hD.sub [0, 1, 2, 3] (by decide) rfl
  obtain rfl : r_2 = nI 1 := hw.trans (by rw [pm_has_nI (by omega) hi]; rfl)
  refine lv_if_eq (tgt := 21) hx hb dX0_putRoot_11 (by decide) (fun c_11 => absurd c_11 (by decide +kernel)) (fun c_11 => ?_)
  refine lv_aload_n hx hb dX0_putRoot_14 rfl (lv_at hl 1 rfl) ?_
  refine va_get (D := (dC, dI)) (ci := 0) (v := .ref a3) (C := RX0) (T := TX0) (N := 5) hx hb hts iw_X0 hown hK hP 0 rfl rfl 2 (by decide) (hts _ mf_X0_18) (fun _ h9 => h9) rfl dX0_putRoot_15 ?_
  refine lv_iload_n hx hb dX0_putRoot_18 rfl (lv_at hl 2 rfl) ?_
  refine lv_iload_n hx hb dX0_putRoot_19 rfl (lv_at hl 3 rfl) ?_
  refine va_iast hx hb hK hP hD hS 3 2 rfl rfl (vp_in_nI (by omega) (by omega)) dX0_putRoot_20 (fun H locs hP hD hS => ?_)
  rw [nI_clamp (by omega)] at hP hD
  have hP : va_P (dC, dI) vwCl [(h0, .inr (0, [.ref a1, .ref a2, .ref a3, .int (nI N), .int fa])), (a1, .inl (k1, 400, .inl (pm_nf9 cn))), (a2, .inl (k2, 8000, .inl fl)), (a3, .inl (k3, 16, .inl (upd rt i p1)))] H := hP
  have hD : va_D A [(h0, .inr (0, [.ref a1, .ref a2, .ref a3, .int (nI N), .int fa])), (a1, .inl (k1, 400, .inl (pm_nf9 cn))), (a2, .inl (k2, 8000, .inl fl)), (a3, .inl (k3, 16, .inl (upd rt i p1)))] := hD
  refine lv_iload_n hx hb dX0_putRoot_21 rfl (lv_at hl 0 rfl) ?_
  exact W.iret (v := rt i) hx hb hr (fun t ht hW => ⟨⟨rt i, (), rfl, rfl, by rw [ht]; exact hP, va_K.moved hW.alike hK, hD⟩, hS.F ht⟩) hS.2.2 dX0_putRoot_22
