set_option maxHeartbeats 4000000 in
set_option maxRecDepth 100000 in
/-- Reach.enter(k) -/
theorem c_R_enter (l : Launch) (dC : Nat → ClassId) (dI : Nat → Nat → Nat) (r0 d1 d2 : Nat) (e1 e2 : ClassId) (fd od : Nat → Int32) (fc : Nat) (h0 a1 a2 a3 : Nat) (k1 k2 k3 : ClassId) (N : Nat) (cn : Nat → Nat) (fl rt : Nat → Int32) (fa : Int32) (p0 : Int32) (sz : Nat) (hN : N ≤ 400) (hq : fc ≤ 400) : Met l yX2_enter wsX2_enter ({ frames := 1, cells := 0, slots := 0, locals := 21 }) (va_Pc [.ref r0, .int p0] (fun U => U.heap.size = sz ∧ va_P (dC, dI) vwCl [(r0, .inr (2, [.ref h0, .ref d1, .ref d2, .int (nI fc)])), (d1, .inl (e1, 400, .inl fd)), (d2, .inl (e2, 400, .inl od)), (h0, .inr (0, [.ref a1, .ref a2, .ref a3, .int (nI N), .int fa])), (a1, .inl (k1, 400, .inl (pm_nf9 cn))), (a2, .inl (k2, 8000, .inl fl)), (a3, .inl (k3, 16, .inl rt))] U.heap ∧ va_K (dC, dI) vwCl [(e1, .boolean), (e2, .int), (k1, .int), (k2, .int), (k3, .int)] U ∧ va_D (fun _ => True) [(r0, .inr (2, [.ref h0, .ref d1, .ref d2, .int (nI fc)])), (d1, .inl (e1, 400, .inl fd)), (d2, .inl (e2, 400, .inl od)), (h0, .inr (0, [.ref a1, .ref a2, .ref a3, .int (nI N), .int fa])), (a1, .inl (k1, 400, .inl (pm_nf9 cn))), (a2, .inl (k2, 8000, .inl fl)), (a3, .inl (k3, 16, .inl rt))])) (va_Qv (fun (u : pm_F) => u = pm_en N (fd, od, fc) p0) (fun (u : pm_F) (t : State) => va_P (dC, dI) vwCl [(r0, .inr (2, [.ref h0, .ref d1, .ref d2, .int (nI (u.2.2))])), (d1, .inl (e1, 400, .inl (u.1))), (d2, .inl (e2, 400, .inl (u.2.1))), (h0, .inr (0, [.ref a1, .ref a2, .ref a3, .int (nI N), .int fa])), (a1, .inl (k1, 400, .inl (pm_nf9 cn))), (a2, .inl (k2, 8000, .inl fl)), (a3, .inl (k3, 16, .inl rt))] t.heap ∧ va_K (dC, dI) vwCl [(e1, .boolean), (e2, .int), (k1, .int), (k2, .int), (k3, .int)] t ∧ va_D (va_A [(r0, .inr (2, [.ref h0, .ref d1, .ref d2, .int (nI fc)])), (d1, .inl (e1, 400, .inl fd)), (d2, .inl (e2, 400, .inl od)), (h0, .inr (0, [.ref a1, .ref a2, .ref a3, .int (nI N), .int fa])), (a1, .inl (k1, 400, .inl (pm_nf9 cn))), (a2, .inl (k2, 8000, .inl fl)), (a3, .inl (k3, 16, .inl rt))] sz) [(r0, .inr (2, [.ref h0, .ref d1, .ref d2, .int (nI (u.2.2))])), (d1, .inl (e1, 400, .inl (u.1))), (d2, .inl (e2, 400, .inl (u.2.1))), (h0, .inr (0, [.ref a1, .ref a2, .ref a3, .int (nI N), .int fa])), (a1, .inl (k1, 400, .inl (pm_nf9 cn))), (a2, .inl (k2, 8000, .inl fl)), (a3, .inl (k3, 16, .inl rt))]) (va_A [(r0, .inr (2, [.ref h0, .ref d1, .ref d2, .int (nI fc)])), (d1, .inl (e1, 400, .inl fd)), (d2, .inl (e2, 400, .inl od)), (h0, .inr (0, [.ref a1, .ref a2, .ref a3, .int (nI N), .int fa])), (a1, .inl (k1, 400, .inl (pm_nf9 cn))), (a2, .inl (k2, 8000, .inl fl)), (a3, .inl (k3, 16, .inl rt))] sz)) 0 0 (va_A [(r0, .inr (2, [.ref h0, .ref d1, .ref d2, .int (nI fc)])), (d1, .inl (e1, 400, .inl fd)), (d2, .inl (e2, 400, .inl od)), (h0, .inr (0, [.ref a1, .ref a2, .ref a3, .int (nI N), .int fa])), (a1, .inl (k1, 400, .inl (pm_nf9 cn))), (a2, .inl (k2, 8000, .inl fl)), (a3, .inl (k3, 16, .inl rt))] sz) := by
  refine Met.ofW (cc := cX2_enter) (maxL := 2) (ret := (none)) (by decide) rfl ?_
  intro p e s m args below meth c s₁ B hml hv
  obtain ⟨rfl, hsz, hP, hK, hD0⟩ := hv
  have hx := B.exec
  have hb := B.bytes
  have hr := B.returns
  have hts : ∀ w ∈ gw, w.before _ s = true := fun w h => atoms_spec (ws := wsX2_enter) B.pre w (List.mem_cons_of_mem _ h)
  have hown : s.vm.findClass RX2 = some m.cls := findClass_of_methodNamed B.named
  have hlocks := B.notSynchronized
  subst hsz
  have hD := hD0.self (sz := s.heap.size)
  generalize hAe : va_A [(r0, .inr (2, [.ref h0, .ref d1, .ref d2, .int (nI fc)])), (d1, .inl (e1, 400, .inl fd)), (d2, .inl (e2, 400, .inl od)), (h0, .inr (0, [.ref a1, .ref a2, .ref a3, .int (nI N), .int fa])), (a1, .inl (k1, 400, .inl (pm_nf9 cn))), (a2, .inl (k2, 8000, .inl fl)), (a3, .inl (k3, 16, .inl rt))] s.heap.size = A at hD ⊢
  have hA : ∀ q : Nat, s.heap.size ≤ q → A q := fun q h => by rw [← hAe]; exact Or.inr h
  have hP : va_P (dC, dI) vwCl [(r0, .inr (2, [.ref h0, .ref d1, .ref d2, .int (nI fc)])), (d1, .inl (e1, 400, .inl fd)), (d2, .inl (e2, 400, .inl od)), (h0, .inr (0, [.ref a1, .ref a2, .ref a3, .int (nI N), .int fa])), (a1, .inl (k1, 400, .inl (pm_nf9 cn))), (a2, .inl (k2, 8000, .inl fl)), (a3, .inl (k3, 16, .inl rt))] s.heap := hP
  have hl := lv_entry ([.ref r0, .int p0]) (n := 2) (Nat.le_of_ble_eq_true rfl)
  rw [lg_entry_eq]
  generalize (lg_sl ([.ref r0, .int p0]) ++ List.replicate (2 - (lg_sl ([.ref r0, .int p0])).length) Slot.unset).toArray = ls at hl ⊢
  have hl : lv_has ls 2 [(0, .ref r0), (1, .int p0)] := hl
  obtain ⟨H, hH⟩ : ∃ H : Heap, H = s.heap := ⟨_, rfl⟩
  rw [← hH]
  rw [← hH] at hP
  have hS : va_S A s.heap H [] := by rw [hH]; exact va_S.rf
  clear hH
  refine lv_aload_n hx hb dX2_enter_0 rfl (lv_at hl 0 rfl) ?_
  refine va_get (D := (dC, dI)) (ci := 2) (v := .ref h0) (C := RX2) (T := TX2) (N := 4) hx hb hts iw_X2 hown hK hP 0 rfl rfl 0 (by decide) (hts _ mf_X2_9) (fun _ h9 => h9) rfl dX2_enter_1 ?_
  refine lv_iload_n hx hb dX2_enter_4 rfl (lv_at hl 1 rfl) ?_
  have hPc := hP.sub (ws' := [(h0, .inr (0, [.ref a1, .ref a2, .ref a3, .int (nI N), .int fa])), (a1, .inl (k1, 400, .inl (pm_nf9 cn))), (a2, .inl (k2, 8000, .inl fl)), (a3, .inl (k3, 16, .inl rt))]) [3, 4, 5, 6] rfl
  have hDc := hD.sub (ws' := [(h0, .inr (0, [.ref a1, .ref a2, .ref a3, .int (nI N), .int fa])), (a1, .inl (k1, 400, .inl (pm_nf9 cn))), (a2, .inl (k2, 8000, .inl fl)), (a3, .inl (k3, 16, .inl rt))]) [3, 4, 5, 6] (by decide) rfl
  have hKc := hK.sub (tys' := [(k1, .int), (k2, .int), (k3, .int)]) [2, 3, 4] rfl
  have hFc := va_free (wc := [(h0, .inr (0, [.ref a1, .ref a2, .ref a3, .int (nI N), .int fa])), (a1, .inl (k1, 400, .inl (pm_nf9 cn))), (a2, .inl (k2, 8000, .inl fl)), (a3, .inl (k3, 16, .inl rt))]) hD hS hA [3, 4, 5, 6] rfl
  refine va_calli (va_runV (As := [.int p0]) (rest := []) ⟨hx, hb, hml, hown, hts⟩ (c_H_has l dC dI h0 a1 a2 a3 k1 k2 k3 N cn fl rt fa p0 H.size) (cwV 1 hts (gw_V ml_X2_40 mi_X0_has ms_X0_has mn_X0 mc_X0_has) rfl rfl rfl (by decide +kernel) ⟨Nat.le_of_ble_eq_true rfl, Nat.le_of_ble_eq_true rfl⟩) ⟨fun a U g mk q => by obtain ⟨q0, q1, qP, qK, qD⟩ := q; exact ⟨q0, q1, qP, va_K.moved (u := U) (U := U.calling g mk a) (Vm.Alike.refl U.vm) qK, qD⟩, va_recv hKc hPc (ci := 0) (q0 := 0) rfl rfl, fun U hU hW => ⟨rfl, by rw [hU], by rw [hU]; exact hPc, va_K.moved hW.alike hKc, hDc.weaken (fun _ _ _ _ => trivial)⟩⟩ rfl rfl hl.1 rfl (lv_room (Nat.le_of_ble_eq_true rfl)) dX2_enter_5 ⟨Nat.le_of_ble_eq_true rfl, Nat.le_of_ble_eq_true rfl⟩) hS (fun q _ h => hFc q h) hFc (fun r_1 u t H1 locs ht hvm hw hB hz1 hk1 hS => ?_)
  obtain ⟨hP1, hK1, hD1⟩ := hB
  rw [ht] at hP1
  have hK1 := va_K.moved hvm.symm hK1
  obtain ⟨hP, hD⟩ := va_join (wr := [(r0, .inr (2, [.ref h0, .ref d1, .ref d2, .int (nI fc)])), (d1, .inl (e1, 400, .inl fd)), (d2, .inl (e2, 400, .inl od))]) (w1 := [(h0, .inr (0, [.ref a1, .ref a2, .ref a3, .int (nI N), .int fa])), (a1, .inl (k1, 400, .inl (pm_nf9 cn))), (a2, .inl (k2, 8000, .inl fl)), (a3, .inl (k3, 16, .inl rt))]) hP hD [3, 4, 5, 6] [0, 1, 2] rfl rfl (by decide) (by decide) hk1 hFc hP1 hD1
  clear hPc hDc hKc hFc hP1 hK1 hD1
  generalize H1 = H at hP hS ⊢
  have hP : va_P (dC, dI) vwCl [(r0, .inr (2, [.ref h0, .ref d1, .ref d2, .int (nI fc)])), (d1, .inl (e1, 400, .inl fd)), (d2, .inl (e2, 400, .inl od)), (h0, .inr (0, [.ref a1, .ref a2, .ref a3, .int (nI N), .int fa])), (a1, .inl (k1, 400, .inl (pm_nf9 cn))), (a2, .inl (k2, 8000, .inl fl)), (a3, .inl (k3, 16, .inl rt))] H := hP.sub [0, 1, 2, 3, 4, 5, 6] rfl
  have hD : va_D A [(r0, .inr (2, [.ref h0, .ref d1, .ref d2, .int (nI fc)])), (d1, .inl (e1, 400, .inl fd)), (d2, .inl (e2, 400, .inl od)), (h0, .inr (0, [.ref a1, .ref a2, .ref a3, .int (nI N), .int fa])), (a1, .inl (k1, 400, .inl (pm_nf9 cn))), (a2, .inl (k2, 8000, .inl fl)), (a3, .inl (k3, 16, .inl rt))] := hD.sub [0, 1, 2, 3, 4, 5, 6] (by decide) rfl
  rcases pm_tf (pm_has N p0) with hh_5 | hh_5
  · obtain rfl : r_1 = nI 1 := hw.trans (by rw [hh_5]; rfl)
    obtain ⟨k, hk, rfl⟩ := pm_has_of (by omega) hh_5
    refine lv_if_eq (tgt := 64) hx hb dX2_enter_8 (by decide) (fun c_8 => absurd c_8 (by decide +kernel)) (fun c_8 => ?_)
    refine lv_aload_n hx hb dX2_enter_11 rfl (lv_at hl 0 rfl) ?_
    refine va_get (D := (dC, dI)) (ci := 2) (v := .ref d1) (C := RX2) (T := TX2) (N := 4) hx hb hts iw_X2 hown hK hP 0 rfl rfl 1 (by decide) (hts _ mf_X2_15) (fun _ h9 => h9) rfl dX2_enter_12 ?_
    refine lv_iload_n hx hb dX2_enter_15 rfl (lv_at hl 1 rfl) ?_
    refine va_zald hx hb hK hP 1 0 rfl rfl (vp_in_nI (by omega) (by omega)) dX2_enter_16 ?_
    refine lv_topi (fun x_2 ex_2 => ?_)
    rw [nI_clamp (by omega)] at ex_2
    subst ex_2
    refine lv_if_ne (tgt := 64) hx hb dX2_enter_17 (by decide) (fun c_17 => ?_) (fun c_17 => ?_)
    · exact W.vret hx hb hr (fun t ht hW => ⟨⟨(fd, od, fc), rfl, pm_e2 hh_5 (by omega) c_17, by rw [ht]; exact hP, va_K.moved hW.alike hK, hD⟩, hS.F ht⟩) hS.2.2 dX2_enter_64
    · refine lv_aload_n hx hb dX2_enter_20 rfl (lv_at hl 0 rfl) ?_
      refine va_get (D := (dC, dI)) (ci := 2) (v := .int (nI fc)) (C := RX2) (T := TX2) (N := 4) hx hb hts iw_X2 hown hK hP 0 rfl rfl 3 (by decide) (hts _ mf_X2_23) (fun _ h9 => h9) rfl dX2_enter_21 ?_
      refine lv_if_lt (tgt := 64) hx hb dX2_enter_24 (by decide) (fun c_24 => absurd c_24 (nI_pos (by omega))) (fun c_24 => ?_)
      refine lv_aload_n hx hb dX2_enter_27 rfl (lv_at hl 0 rfl) ?_
      refine va_get (D := (dC, dI)) (ci := 2) (v := .int (nI fc)) (C := RX2) (T := TX2) (N := 4) hx hb hts iw_X2 hown hK hP 0 rfl rfl 3 (by decide) (hts _ mf_X2_23) (fun _ h9 => h9) rfl dX2_enter_28 ?_
      refine lv_sipush (v := nI 400) hx hb dX2_enter_31 (by decide +kernel) ?_
      refine lv_icmp_ge (tgt := 64) hx hb dX2_enter_34 (by decide) (fun c_34 => ?_) (fun c_34 => ?_)
      · rw [nI_leI (by omega) (by omega)] at c_34
        exact W.vret hx hb hr (fun t ht hW => ⟨⟨(fd, od, fc), rfl, pm_e3 hh_5 (by omega) c_17 (by omega), by rw [ht]; exact hP, va_K.moved hW.alike hK, hD⟩, hS.F ht⟩) hS.2.2 dX2_enter_64
      · rw [nI_leI (by omega) (by omega)] at c_34
        refine lv_aload_n hx hb dX2_enter_37 rfl (lv_at hl 0 rfl) ?_
        refine va_get (D := (dC, dI)) (ci := 2) (v := .ref d1) (C := RX2) (T := TX2) (N := 4) hx hb hts iw_X2 hown hK hP 0 rfl rfl 1 (by decide) (hts _ mf_X2_15) (fun _ h9 => h9) rfl dX2_enter_38 ?_
        refine lv_iload_n hx hb dX2_enter_41 rfl (lv_at hl 1 rfl) ?_
        refine lv_iconst (v := nI 1) hx hb dX2_enter_42 (by decide +kernel) ?_
        refine va_zast hx hb hK hP hD hS 1 0 rfl rfl (vp_in_nI (by omega) (by omega)) dX2_enter_43 (fun H locs hP hD hS => ?_)
        rw [nI_clamp (by omega)] at hP hD
        rw [pm_z1] at hP hD
        have hP : va_P (dC, dI) vwCl [(r0, .inr (2, [.ref h0, .ref d1, .ref d2, .int (nI fc)])), (d1, .inl (e1, 400, .inl (upd fd k 1))), (d2, .inl (e2, 400, .inl od)), (h0, .inr (0, [.ref a1, .ref a2, .ref a3, .int (nI N), .int fa])), (a1, .inl (k1, 400, .inl (pm_nf9 cn))), (a2, .inl (k2, 8000, .inl fl)), (a3, .inl (k3, 16, .inl rt))] H := hP
        have hD : va_D A [(r0, .inr (2, [.ref h0, .ref d1, .ref d2, .int (nI fc)])), (d1, .inl (e1, 400, .inl (upd fd k 1))), (d2, .inl (e2, 400, .inl od)), (h0, .inr (0, [.ref a1, .ref a2, .ref a3, .int (nI N), .int fa])), (a1, .inl (k1, 400, .inl (pm_nf9 cn))), (a2, .inl (k2, 8000, .inl fl)), (a3, .inl (k3, 16, .inl rt))] := hD
        refine lv_aload_n hx hb dX2_enter_44 rfl (lv_at hl 0 rfl) ?_
        refine va_get (D := (dC, dI)) (ci := 2) (v := .ref d2) (C := RX2) (T := TX2) (N := 4) hx hb hts iw_X2 hown hK hP 0 rfl rfl 2 (by decide) (hts _ mf_X2_19) (fun _ h9 => h9) rfl dX2_enter_45 ?_
        refine lv_aload_n hx hb dX2_enter_48 rfl (lv_at hl 0 rfl) ?_
        refine va_get (D := (dC, dI)) (ci := 2) (v := .int (nI fc)) (C := RX2) (T := TX2) (N := 4) hx hb hts iw_X2 hown hK hP 0 rfl rfl 3 (by decide) (hts _ mf_X2_23) (fun _ h9 => h9) rfl dX2_enter_49 ?_
        refine lv_iload_n hx hb dX2_enter_52 rfl (lv_at hl 1 rfl) ?_
        refine va_iast hx hb hK hP hD hS 2 1 rfl rfl (vp_in_nI (by omega) (by omega)) dX2_enter_53 (fun H locs hP hD hS => ?_)
        rw [nI_clamp (by omega)] at hP hD
        have hP : va_P (dC, dI) vwCl [(r0, .inr (2, [.ref h0, .ref d1, .ref d2, .int (nI fc)])), (d1, .inl (e1, 400, .inl (upd fd k 1))), (d2, .inl (e2, 400, .inl (upd od fc (nI k)))), (h0, .inr (0, [.ref a1, .ref a2, .ref a3, .int (nI N), .int fa])), (a1, .inl (k1, 400, .inl (pm_nf9 cn))), (a2, .inl (k2, 8000, .inl fl)), (a3, .inl (k3, 16, .inl rt))] H := hP
        have hD : va_D A [(r0, .inr (2, [.ref h0, .ref d1, .ref d2, .int (nI fc)])), (d1, .inl (e1, 400, .inl (upd fd k 1))), (d2, .inl (e2, 400, .inl (upd od fc (nI k)))), (h0, .inr (0, [.ref a1, .ref a2, .ref a3, .int (nI N), .int fa])), (a1, .inl (k1, 400, .inl (pm_nf9 cn))), (a2, .inl (k2, 8000, .inl fl)), (a3, .inl (k3, 16, .inl rt))] := hD
        refine lv_aload_n hx hb dX2_enter_54 rfl (lv_at hl 0 rfl) ?_
        refine lv_dup hx hb dX2_enter_55 rfl ?_
        refine va_get (D := (dC, dI)) (ci := 2) (v := .int (nI fc)) (C := RX2) (T := TX2) (N := 4) hx hb hts iw_X2 hown hK hP 0 rfl rfl 3 (by decide) (hts _ mf_X2_23) (fun _ h9 => h9) rfl dX2_enter_56 ?_
        refine lv_iconst (v := nI 1) hx hb dX2_enter_59 (by decide +kernel) ?_
        refine lv_iadd hx hb dX2_enter_60 ?_
        refine lv_topi (fun x_3 ex_3 => ?_)
        obtain rfl : x_3 = nI (fc + 1) := ex_3.trans (nI_add _ _)
        refine va_put (D := (dC, dI)) (ci := 2) (v := .int (nI (fc + 1))) (ty := .int) (C := RX2) (T := TX2) (N := 4) hx hb hts iw_X2 tyX2 tyX2_ok nmX2 hown hK hP hD hS 0 rfl rfl 3 (by decide) (hts _ mf_X2_23) (fun _ h9 => h9) rfl (by decide +kernel) (rfl) (rfl) (Nat.le_of_ble_eq_true rfl) dX2_enter_61 (fun H locs hP hD hS => ?_)
        have hP : va_P (dC, dI) vwCl [(r0, .inr (2, [.ref h0, .ref d1, .ref d2, .int (nI (fc + 1))])), (d1, .inl (e1, 400, .inl (upd fd k 1))), (d2, .inl (e2, 400, .inl (upd od fc (nI k)))), (h0, .inr (0, [.ref a1, .ref a2, .ref a3, .int (nI N), .int fa])), (a1, .inl (k1, 400, .inl (pm_nf9 cn))), (a2, .inl (k2, 8000, .inl fl)), (a3, .inl (k3, 16, .inl rt))] H := hP
        have hD : va_D A [(r0, .inr (2, [.ref h0, .ref d1, .ref d2, .int (nI (fc + 1))])), (d1, .inl (e1, 400, .inl (upd fd k 1))), (d2, .inl (e2, 400, .inl (upd od fc (nI k)))), (h0, .inr (0, [.ref a1, .ref a2, .ref a3, .int (nI N), .int fa])), (a1, .inl (k1, 400, .inl (pm_nf9 cn))), (a2, .inl (k2, 8000, .inl fl)), (a3, .inl (k3, 16, .inl rt))] := hD
        exact W.vret hx hb hr (fun t ht hW => ⟨⟨(upd fd k 1, upd od fc (nI k), fc + 1), rfl, pm_e4 hh_5 (by omega) c_17 (by omega), by rw [ht]; exact hP, va_K.moved hW.alike hK, hD⟩, hS.F ht⟩) hS.2.2 dX2_enter_64
  · obtain rfl : r_1 = nI 0 := hw.trans (by rw [hh_5]; rfl)
    refine lv_if_eq (tgt := 64) hx hb dX2_enter_8 (by decide) (fun c_8 => ?_) (fun c_8 => absurd c_8 (by decide +kernel))
    exact W.vret hx hb hr (fun t ht hW => ⟨⟨(fd, od, fc), rfl, pm_e1 hh_5, by rw [ht]; exact hP, va_K.moved hW.alike hK, hD⟩, hS.F ht⟩) hS.2.2 dX2_enter_64

set_option maxHeartbeats 4000000 in
set_option maxRecDepth 100000 in
/-- Reach.enterFieldsOf(k) -/
theorem c_R_enterFieldsOf (l : Launch) (dC : Nat → ClassId) (dI : Nat → Nat → Nat) (r0 d1 d2 : Nat) (e1 e2 : ClassId) (fd od : Nat → Int32) (fc : Nat) (h0 a1 a2 a3 : Nat) (k1 k2 k3 : ClassId) (N : Nat) (cn : Nat → Nat) (fl rt : Nat → Int32) (fa : Int32) (p0 : Int32) (sz : Nat) (hN : N ≤ 400) (hc : ∀ k, k < N → cn k ≤ 20) (hq : fc ≤ 400) : Met l yX2_enterFieldsOf wsX2_enterFieldsOf ({ frames := 3, cells := 0, slots := 0, locals := 65 }) (va_Pc [.ref r0, .int p0] (fun U => U.heap.size = sz ∧ va_P (dC, dI) vwCl [(r0, .inr (2, [.ref h0, .ref d1, .ref d2, .int (nI fc)])), (d1, .inl (e1, 400, .inl fd)), (d2, .inl (e2, 400, .inl od)), (h0, .inr (0, [.ref a1, .ref a2, .ref a3, .int (nI N), .int fa])), (a1, .inl (k1, 400, .inl (pm_nf9 cn))), (a2, .inl (k2, 8000, .inl fl)), (a3, .inl (k3, 16, .inl rt))] U.heap ∧ va_K (dC, dI) vwCl [(e1, .boolean), (e2, .int), (k1, .int), (k2, .int), (k3, .int)] U ∧ va_D (fun _ => True) [(r0, .inr (2, [.ref h0, .ref d1, .ref d2, .int (nI fc)])), (d1, .inl (e1, 400, .inl fd)), (d2, .inl (e2, 400, .inl od)), (h0, .inr (0, [.ref a1, .ref a2, .ref a3, .int (nI N), .int fa])), (a1, .inl (k1, 400, .inl (pm_nf9 cn))), (a2, .inl (k2, 8000, .inl fl)), (a3, .inl (k3, 16, .inl rt))])) (va_Qv (fun (u : pm_F) => u = pm_eo N cn fl (fd, od, fc) p0) (fun (u : pm_F) (t : State) => va_P (dC, dI) vwCl [(r0, .inr (2, [.ref h0, .ref d1, .ref d2, .int (nI (u.2.2))])), (d1, .inl (e1, 400, .inl (u.1))), (d2, .inl (e2, 400, .inl (u.2.1))), (h0, .inr (0, [.ref a1, .ref a2, .ref a3, .int (nI N), .int fa])), (a1, .inl (k1, 400, .inl (pm_nf9 cn))), (a2, .inl (k2, 8000, .inl fl)), (a3, .inl (k3, 16, .inl rt))] t.heap ∧ va_K (dC, dI) vwCl [(e1, .boolean), (e2, .int), (k1, .int), (k2, .int), (k3, .int)] t ∧ va_D (va_A [(r0, .inr (2, [.ref h0, .ref d1, .ref d2, .int (nI fc)])), (d1, .inl (e1, 400, .inl fd)), (d2, .inl (e2, 400, .inl od)), (h0, .inr (0, [.ref a1, .ref a2, .ref a3, .int (nI N), .int fa])), (a1, .inl (k1, 400, .inl (pm_nf9 cn))), (a2, .inl (k2, 8000, .inl fl)), (a3, .inl (k3, 16, .inl rt))] sz) [(r0, .inr (2, [.ref h0, .ref d1, .ref d2, .int (nI (u.2.2))])), (d1, .inl (e1, 400, .inl (u.1))), (d2, .inl (e2, 400, .inl (u.2.1))), (h0, .inr (0, [.ref a1, .ref a2, .ref a3, .int (nI N), .int fa])), (a1, .inl (k1, 400, .inl (pm_nf9 cn))), (a2, .inl (k2, 8000, .inl fl)), (a3, .inl (k3, 16, .inl rt))]) (va_A [(r0, .inr (2, [.ref h0, .ref d1, .ref d2, .int (nI fc)])), (d1, .inl (e1, 400, .inl fd)), (d2, .inl (e2, 400, .inl od)), (h0, .inr (0, [.ref a1, .ref a2, .ref a3, .int (nI N), .int fa])), (a1, .inl (k1, 400, .inl (pm_nf9 cn))), (a2, .inl (k2, 8000, .inl fl)), (a3, .inl (k3, 16, .inl rt))] sz)) 0 0 (va_A [(r0, .inr (2, [.ref h0, .ref d1, .ref d2, .int (nI fc)])), (d1, .inl (e1, 400, .inl fd)), (d2, .inl (e2, 400, .inl od)), (h0, .inr (0, [.ref a1, .ref a2, .ref a3, .int (nI N), .int fa])), (a1, .inl (k1, 400, .inl (pm_nf9 cn))), (a2, .inl (k2, 8000, .inl fl)), (a3, .inl (k3, 16, .inl rt))] sz) := by
  refine Met.ofW (cc := cX2_enterFieldsOf) (maxL := 4) (ret := (none)) (by decide) rfl ?_
  intro p e s m args below meth c s₁ B hml hv
  obtain ⟨rfl, hsz, hP, hK, hD0⟩ := hv
  have hx := B.exec
  have hb := B.bytes
  have hr := B.returns
  have hts : ∀ w ∈ gw, w.before _ s = true := fun w h => atoms_spec (ws := wsX2_enterFieldsOf) B.pre w (List.mem_cons_of_mem _ h)
  have hown : s.vm.findClass RX2 = some m.cls := findClass_of_methodNamed B.named
  have hlocks := B.notSynchronized
  subst hsz
  have hD := hD0.self (sz := s.heap.size)
  generalize hAe : va_A [(r0, .inr (2, [.ref h0, .ref d1, .ref d2, .int (nI fc)])), (d1, .inl (e1, 400, .inl fd)), (d2, .inl (e2, 400, .inl od)), (h0, .inr (0, [.ref a1, .ref a2, .ref a3, .int (nI N), .int fa])), (a1, .inl (k1, 400, .inl (pm_nf9 cn))), (a2, .inl (k2, 8000, .inl fl)), (a3, .inl (k3, 16, .inl rt))] s.heap.size = A at hD ⊢
  have hA : ∀ q : Nat, s.heap.size ≤ q → A q := fun q h => by rw [← hAe]; exact Or.inr h
  have hP : va_P (dC, dI) vwCl [(r0, .inr (2, [.ref h0, .ref d1, .ref d2, .int (nI fc)])), (d1, .inl (e1, 400, .inl fd)), (d2, .inl (e2, 400, .inl od)), (h0, .inr (0, [.ref a1, .ref a2, .ref a3, .int (nI N), .int fa])), (a1, .inl (k1, 400, .inl (pm_nf9 cn))), (a2, .inl (k2, 8000, .inl fl)), (a3, .inl (k3, 16, .inl rt))] s.heap := hP
  have hl := lv_entry ([.ref r0, .int p0]) (n := 4) (Nat.le_of_ble_eq_true rfl)
  rw [lg_entry_eq]
  generalize (lg_sl ([.ref r0, .int p0]) ++ List.replicate (4 - (lg_sl ([.ref r0, .int p0])).length) Slot.unset).toArray = ls at hl ⊢
  have hl : lv_has ls 4 [(0, .ref r0), (1, .int p0)] := hl
  obtain ⟨H, hH⟩ : ∃ H : Heap, H = s.heap := ⟨_, rfl⟩
  rw [← hH]
  rw [← hH] at hP
  have hS : va_S A s.heap H [] := by rw [hH]; exact va_S.rf
  clear hH
  refine lv_aload_n hx hb dX2_enterFieldsOf_0 rfl (lv_at hl 0 rfl) ?_
  refine va_get (D := (dC, dI)) (ci := 2) (v := .ref h0) (C := RX2) (T := TX2) (N := 4) hx hb hts iw_X2 hown hK hP 0 rfl rfl 0 (by decide) (hts _ mf_X2_9) (fun _ h9 => h9) rfl dX2_enterFieldsOf_1 ?_
  refine lv_iload_n hx hb dX2_enterFieldsOf_4 rfl (lv_at hl 1 rfl) ?_
  have hPc := hP.sub (ws' := [(h0, .inr (0, [.ref a1, .ref a2, .ref a3, .int (nI N), .int fa])), (a1, .inl (k1, 400, .inl (pm_nf9 cn))), (a2, .inl (k2, 8000, .inl fl)), (a3, .inl (k3, 16, .inl rt))]) [3, 4, 5, 6] rfl
  have hDc := hD.sub (ws' := [(h0, .inr (0, [.ref a1, .ref a2, .ref a3, .int (nI N), .int fa])), (a1, .inl (k1, 400, .inl (pm_nf9 cn))), (a2, .inl (k2, 8000, .inl fl)), (a3, .inl (k3, 16, .inl rt))]) [3, 4, 5, 6] (by decide) rfl
  have hKc := hK.sub (tys' := [(k1, .int), (k2, .int), (k3, .int)]) [2, 3, 4] rfl
  have hFc := va_free (wc := [(h0, .inr (0, [.ref a1, .ref a2, .ref a3, .int (nI N), .int fa])), (a1, .inl (k1, 400, .inl (pm_nf9 cn))), (a2, .inl (k2, 8000, .inl fl)), (a3, .inl (k3, 16, .inl rt))]) hD hS hA [3, 4, 5, 6] rfl
  refine va_calli (va_runV (As := [.int p0]) (rest := []) ⟨hx, hb, hml, hown, hts⟩ (c_H_fieldCountOf l dC dI h0 a1 a2 a3 k1 k2 k3 N cn fl rt fa p0 H.size (hN)) (cwV 1 hts (gw_V ml_X2_44 mi_X0_fieldCountOf ms_X0_fieldCountOf mn_X0 mc_X0_fieldCountOf) rfl rfl rfl (by decide +kernel) ⟨Nat.le_of_ble_eq_true rfl, Nat.le_of_ble_eq_true rfl⟩) ⟨fun a U g mk q => by obtain ⟨q0, q1, qP, qK, qD⟩ := q; exact ⟨q0, q1, qP, va_K.moved (u := U) (U := U.calling g mk a) (Vm.Alike.refl U.vm) qK, qD⟩, va_recv hKc hPc (ci := 0) (q0 := 0) rfl rfl, fun U hU hW => ⟨rfl, by rw [hU], by rw [hU]; exact hPc, va_K.moved hW.alike hKc, hDc.weaken (fun _ _ _ _ => trivial)⟩⟩ rfl rfl hl.1 rfl (lv_room (Nat.le_of_ble_eq_true rfl)) dX2_enterFieldsOf_5 ⟨Nat.le_of_ble_eq_true rfl, Nat.le_of_ble_eq_true rfl⟩) hS (fun q _ h => hFc q h) hFc (fun r_1 u t H1 locs ht hvm hw hB hz1 hk1 hS => ?_)
  obtain ⟨hP1, hK1, hD1⟩ := hB
  rw [ht] at hP1
  have hK1 := va_K.moved hvm.symm hK1
  obtain ⟨hP, hD⟩ := va_join (wr := [(r0, .inr (2, [.ref h0, .ref d1, .ref d2, .int (nI fc)])), (d1, .inl (e1, 400, .inl fd)), (d2, .inl (e2, 400, .inl od))]) (w1 := [(h0, .inr (0, [.ref a1, .ref a2, .ref a3, .int (nI N), .int fa])), (a1, .inl (k1, 400, .inl (pm_nf9 cn))), (a2, .inl (k2, 8000, .inl fl)), (a3, .inl (k3, 16, .inl rt))]) hP hD [3, 4, 5, 6] [0, 1, 2] rfl rfl (by decide) (by decide) hk1 hFc hP1 hD1
  clear hPc hDc hKc hFc hP1 hK1 hD1
  generalize H1 = H at hP hS ⊢
  have hP : va_P (dC, dI) vwCl [(r0, .inr (2, [.ref h0, .ref d1, .ref d2, .int (nI fc)])), (d1, .inl (e1, 400, .inl fd)), (d2, .inl (e2, 400, .inl od)), (h0, .inr (0, [.ref a1, .ref a2, .ref a3, .int (nI N), .int fa])), (a1, .inl (k1, 400, .inl (pm_nf9 cn))), (a2, .inl (k2, 8000, .inl fl)), (a3, .inl (k3, 16, .inl rt))] H := hP.sub [0, 1, 2, 3, 4, 5, 6] rfl
  have hD : va_D A [(r0, .inr (2, [.ref h0, .ref d1, .ref d2, .int (nI fc)])), (d1, .inl (e1, 400, .inl fd)), (d2, .inl (e2, 400, .inl od)), (h0, .inr (0, [.ref a1, .ref a2, .ref a3, .int (nI N), .int fa])), (a1, .inl (k1, 400, .inl (pm_nf9 cn))), (a2, .inl (k2, 8000, .inl fl)), (a3, .inl (k3, 16, .inl rt))] := hD.sub [0, 1, 2, 3, 4, 5, 6] (by decide) rfl
  rcases pm_tf (pm_has N p0) with hh_5 | hh_5
  · obtain ⟨a, ha, rfl⟩ := pm_has_of (by omega) hh_5
    have hca := hc a ha
    obtain rfl : r_1 = nI (cn a) := hw.trans (by rw [if_pos hh_5, nI_clamp (by omega)])
    refine lv_istore_n (lv' := [(2, .int (nI (cn a))), (0, .ref r0), (1, .int (nI a))]) hx hb dX2_enterFieldsOf_8 rfl hl (by decide) rfl (fun ls hl => ?_)
    refine lv_iconst (v := nI 0) hx hb dX2_enterFieldsOf_9 (by decide +kernel) ?_
    refine lv_istore_n (lv' := [(3, .int (nI 0)), (2, .int (nI (cn a))), (0, .ref r0), (1, .int (nI a))]) hx hb dX2_enterFieldsOf_10 rfl hl (by decide) rfl (fun ls hl => ?_)
    refine lp_loop (σ := Nat × (Nat → Int32) × (Nat → Int32) × Nat) (head := 11) (fun x H locs ls => match x with | (j, fd1, od1, c1) => j ≤ cn a ∧ (fd1, od1, c1) = pm_ef N (fun j => fl (a * 20 + j)) j (fd, od, fc) ∧ va_P (dC, dI) vwCl [(r0, .inr (2, [.ref h0, .ref d1, .ref d2, .int (nI c1)])), (d1, .inl (e1, 400, .inl fd1)), (d2, .inl (e2, 400, .inl od1)), (h0, .inr (0, [.ref a1, .ref a2, .ref a3, .int (nI N), .int fa])), (a1, .inl (k1, 400, .inl (pm_nf9 cn))), (a2, .inl (k2, 8000, .inl fl)), (a3, .inl (k3, 16, .inl rt))] H ∧ va_D A [(r0, .inr (2, [.ref h0, .ref d1, .ref d2, .int (nI c1)])), (d1, .inl (e1, 400, .inl fd1)), (d2, .inl (e2, 400, .inl od1)), (h0, .inr (0, [.ref a1, .ref a2, .ref a3, .int (nI N), .int fa])), (a1, .inl (k1, 400, .inl (pm_nf9 cn))), (a2, .inl (k2, 8000, .inl fl)), (a3, .inl (k3, 16, .inl rt))] ∧ va_S A s.heap H locs ∧ lv_has ls 4 [(3, .int (nI j)), (2, .int (nI (cn a))), (1, .int (nI a)), (0, .ref r0)]) (fun x => match x with | (j, fd1, od1, c1) => cn a - j) ?_ (0, fd, od, fc) _ _ _ ⟨Nat.zero_le _, rfl, hP, hD, hS, lv_sub hl [0, 1, 3, 2] rfl⟩
    intro x H locs ls hI ih
    obtain ⟨j, fd1, od1, c1⟩ := x
    obtain ⟨hj, hE, hP, hD, hS, hl⟩ := hI
    dsimp only at ih
    have hc1 : c1 ≤ 400 := pm_ef_c hq hE
    refine lv_iload_n hx hb dX2_enterFieldsOf_11 rfl (lv_at hl 0 rfl) ?_
    refine lv_iload_n hx hb dX2_enterFieldsOf_12 rfl (lv_at hl 1 rfl) ?_
    refine lv_icmp_ge (tgt := 35) hx hb dX2_enterFieldsOf_13 (by decide) (fun c_13 => ?_) (fun c_13 => ?_)
    · rw [nI_leI (by omega) (by omega)] at c_13
      exact W.vret hx hb hr (fun t ht hW => ⟨⟨(fd1, od1, c1), rfl, by rw [hE, show j = cn a by omega]; exact pm_o2 hh_5 (by omega), by rw [ht]; exact hP, va_K.moved hW.alike hK, hD⟩, hS.F ht⟩) hS.2.2 dX2_enterFieldsOf_35
    · rw [nI_leI (by omega) (by omega)] at c_13
      refine lv_aload_n hx hb dX2_enterFieldsOf_16 rfl (lv_at hl 3 rfl) ?_
      refine lv_aload_n hx hb dX2_enterFieldsOf_17 rfl (lv_at hl 3 rfl) ?_
      refine va_get (D := (dC, dI)) (ci := 2) (v := .ref h0) (C := RX2) (T := TX2) (N := 4) hx hb hts iw_X2 hown hK hP 0 rfl rfl 0 (by decide) (hts _ mf_X2_9) (fun _ h9 => h9) rfl dX2_enterFieldsOf_18 ?_
      refine lv_iload_n hx hb dX2_enterFieldsOf_21 rfl (lv_at hl 2 rfl) ?_
      refine lv_iload_n hx hb dX2_enterFieldsOf_22 rfl (lv_at hl 0 rfl) ?_
      have hPc := hP.sub (ws' := [(h0, .inr (0, [.ref a1, .ref a2, .ref a3, .int (nI N), .int fa])), (a1, .inl (k1, 400, .inl (pm_nf9 cn))), (a2, .inl (k2, 8000, .inl fl)), (a3, .inl (k3, 16, .inl rt))]) [3, 4, 5, 6] rfl
      have hDc := hD.sub (ws' := [(h0, .inr (0, [.ref a1, .ref a2, .ref a3, .int (nI N), .int fa])), (a1, .inl (k1, 400, .inl (pm_nf9 cn))), (a2, .inl (k2, 8000, .inl fl)), (a3, .inl (k3, 16, .inl rt))]) [3, 4, 5, 6] (by decide) rfl
      have hKc := hK.sub (tys' := [(k1, .int), (k2, .int), (k3, .int)]) [2, 3, 4] rfl
      have hFc := va_free (wc := [(h0, .inr (0, [.ref a1, .ref a2, .ref a3, .int (nI N), .int fa])), (a1, .inl (k1, 400, .inl (pm_nf9 cn))), (a2, .inl (k2, 8000, .inl fl)), (a3, .inl (k3, 16, .inl rt))]) hD hS hA [3, 4, 5, 6] rfl
      refine va_calli (va_runV (As := [.int (nI a), .int (nI j)]) (rest := [.ref r0]) ⟨hx, hb, hml, hown, hts⟩ (c_H_fieldOf l dC dI h0 a1 a2 a3 k1 k2 k3 N cn fl rt fa (nI a) (nI j) H.size (hN) (hc)) (cwV 2 hts (gw_V ml_X2_47 mi_X0_fieldOf ms_X0_fieldOf mn_X0 mc_X0_fieldOf) rfl rfl rfl (by decide +kernel) ⟨Nat.le_of_ble_eq_true rfl, Nat.le_of_ble_eq_true rfl⟩) ⟨fun a U g mk q => by obtain ⟨q0, q1, qP, qK, qD⟩ := q; exact ⟨q0, q1, qP, va_K.moved (u := U) (U := U.calling g mk a) (Vm.Alike.refl U.vm) qK, qD⟩, va_recv hKc hPc (ci := 0) (q0 := 0) rfl rfl, fun U hU hW => ⟨rfl, by rw [hU], by rw [hU]; exact hPc, va_K.moved hW.alike hKc, hDc.weaken (fun _ _ _ _ => trivial)⟩⟩ rfl rfl hl.1 rfl (lv_room (Nat.le_of_ble_eq_true rfl)) dX2_enterFieldsOf_23 ⟨Nat.le_of_ble_eq_true rfl, Nat.le_of_ble_eq_true rfl⟩) hS (fun q _ h => hFc q h) hFc (fun r_2 u t H1 locs ht hvm hw hB hz1 hk1 hS => ?_)
      obtain ⟨hP1, hK1, hD1⟩ := hB
      rw [ht] at hP1
      have hK1 := va_K.moved hvm.symm hK1
      obtain ⟨hP, hD⟩ := va_join (wr := [(r0, .inr (2, [.ref h0, .ref d1, .ref d2, .int (nI c1)])), (d1, .inl (e1, 400, .inl fd1)), (d2, .inl (e2, 400, .inl od1))]) (w1 := [(h0, .inr (0, [.ref a1, .ref a2, .ref a3, .int (nI N), .int fa])), (a1, .inl (k1, 400, .inl (pm_nf9 cn))), (a2, .inl (k2, 8000, .inl fl)), (a3, .inl (k3, 16, .inl rt))]) hP hD [3, 4, 5, 6] [0, 1, 2] rfl rfl (by decide) (by decide) hk1 hFc hP1 hD1
      clear hPc hDc hKc hFc hP1 hK1 hD1
      generalize H1 = H at hP hS ⊢
      have hP : va_P (dC, dI) vwCl [(r0, .inr (2, [.ref h0, .ref d1, .ref d2, .int (nI c1)])), (d1, .inl (e1, 400, .inl fd1)), (d2, .inl (e2, 400, .inl od1)), (h0, .inr (0, [.ref a1, .ref a2, .ref a3, .int (nI N), .int fa])), (a1, .inl (k1, 400, .inl (pm_nf9 cn))), (a2, .inl (k2, 8000, .inl fl)), (a3, .inl (k3, 16, .inl rt))] H := hP.sub [0, 1, 2, 3, 4, 5, 6] rfl
      have hD : va_D A [(r0, .inr (2, [.ref h0, .ref d1, .ref d2, .int (nI c1)])), (d1, .inl (e1, 400, .inl fd1)), (d2, .inl (e2, 400, .inl od1)), (h0, .inr (0, [.ref a1, .ref a2, .ref a3, .int (nI N), .int fa])), (a1, .inl (k1, 400, .inl (pm_nf9 cn))), (a2, .inl (k2, 8000, .inl fl)), (a3, .inl (k3, 16, .inl rt))] := hD.sub [0, 1, 2, 3, 4, 5, 6] (by decide) rfl
      obtain rfl : r_2 = fl (a * 20 + j) := hw.trans ((pm_fo_t (pm_hf_nI (by omega) (by omega) ha (by omega)) (by omega) (by omega)).symm)
      have hPc := hP.sub (ws' := [(r0, .inr (2, [.ref h0, .ref d1, .ref d2, .int (nI c1)])), (d1, .inl (e1, 400, .inl fd1)), (d2, .inl (e2, 400, .inl od1)), (h0, .inr (0, [.ref a1, .ref a2, .ref a3, .int (nI N), .int fa])), (a1, .inl (k1, 400, .inl (pm_nf9 cn))), (a2, .inl (k2, 8000, .inl fl)), (a3, .inl (k3, 16, .inl rt))]) [0, 1, 2, 3, 4, 5, 6] rfl
      have hDc := hD.sub (ws' := [(r0, .inr (2, [.ref h0, .ref d1, .ref d2, .int (nI c1)])), (d1, .inl (e1, 400, .inl fd1)), (d2, .inl (e2, 400, .inl od1)), (h0, .inr (0, [.ref a1, .ref a2, .ref a3, .int (nI N), .int fa])), (a1, .inl (k1, 400, .inl (pm_nf9 cn))), (a2, .inl (k2, 8000, .inl fl)), (a3, .inl (k3, 16, .inl rt))]) [0, 1, 2, 3, 4, 5, 6] (by decide) rfl
      have hKc := hK.sub (tys' := [(e1, .boolean), (e2, .int), (k1, .int), (k2, .int), (k3, .int)]) [0, 1, 2, 3, 4] rfl
      have hFc := va_free (wc := [(r0, .inr (2, [.ref h0, .ref d1, .ref d2, .int (nI c1)])), (d1, .inl (e1, 400, .inl fd1)), (d2, .inl (e2, 400, .inl od1)), (h0, .inr (0, [.ref a1, .ref a2, .ref a3, .int (nI N), .int fa])), (a1, .inl (k1, 400, .inl (pm_nf9 cn))), (a2, .inl (k2, 8000, .inl fl)), (a3, .inl (k3, 16, .inl rt))]) hD hS hA [0, 1, 2, 3, 4, 5, 6] rfl
      refine va_callv (va_runV (As := [.int (fl (a * 20 + j))]) (rest := []) ⟨hx, hb, hml, hown, hts⟩ (c_R_enter l dC dI r0 d1 d2 e1 e2 fd1 od1 c1 h0 a1 a2 a3 k1 k2 k3 N cn fl rt fa (fl (a * 20 + j)) H.size (hN) (by omega)) (cwV 1 hts (gw_V ml_X2_33 mi_X2_enter ms_X2_enter mn_X2 mc_X2_enter) rfl rfl rfl (by decide +kernel) ⟨Nat.le_of_ble_eq_true rfl, Nat.le_of_ble_eq_true rfl⟩) ⟨fun a U g mk q => by obtain ⟨q0, q1, qP, qK, qD⟩ := q; exact ⟨q0, q1, qP, va_K.moved (u := U) (U := U.calling g mk a) (Vm.Alike.refl U.vm) qK, qD⟩, va_recv hKc hPc (ci := 2) (q0 := 0) rfl rfl, fun U hU hW => ⟨rfl, by rw [hU], by rw [hU]; exact hPc, va_K.moved hW.alike hKc, hDc.weaken (fun _ _ _ _ => trivial)⟩⟩ rfl rfl hl.1 rfl (lv_room (Nat.le_of_ble_eq_true rfl)) dX2_enterFieldsOf_26 ⟨Nat.le_of_ble_eq_true rfl, Nat.le_of_ble_eq_true rfl⟩) hS (fun q _ h => hFc q h) hFc (fun u t H1 locs ht hvm hw hB hz1 hk1 hS => ?_)
      obtain ⟨fd2, od2, c2⟩ := u
      obtain ⟨hP1, hK1, hD1⟩ := hB
      rw [ht] at hP1
      have hK1 := va_K.moved hvm.symm hK1
      obtain ⟨hP, hD⟩ := va_join (wr := []) (w1 := [(r0, .inr (2, [.ref h0, .ref d1, .ref d2, .int (nI c2)])), (d1, .inl (e1, 400, .inl fd2)), (d2, .inl (e2, 400, .inl od2)), (h0, .inr (0, [.ref a1, .ref a2, .ref a3, .int (nI N), .int fa])), (a1, .inl (k1, 400, .inl (pm_nf9 cn))), (a2, .inl (k2, 8000, .inl fl)), (a3, .inl (k3, 16, .inl rt))]) hP hD [0, 1, 2, 3, 4, 5, 6] [] rfl rfl (by decide) (by decide) hk1 hFc hP1 hD1
      clear hPc hDc hKc hFc hP1 hK1 hD1
      generalize H1 = H at hP hS ⊢
      have hP : va_P (dC, dI) vwCl [(r0, .inr (2, [.ref h0, .ref d1, .ref d2, .int (nI c2)])), (d1, .inl (e1, 400, .inl fd2)), (d2, .inl (e2, 400, .inl od2)), (h0, .inr (0, [.ref a1, .ref a2, .ref a3, .int (nI N), .int fa])), (a1, .inl (k1, 400, .inl (pm_nf9 cn))), (a2, .inl (k2, 8000, .inl fl)), (a3, .inl (k3, 16, .inl rt))] H := hP.sub [0, 1, 2, 3, 4, 5, 6] rfl
      have hD : va_D A [(r0, .inr (2, [.ref h0, .ref d1, .ref d2, .int (nI c2)])), (d1, .inl (e1, 400, .inl fd2)), (d2, .inl (e2, 400, .inl od2)), (h0, .inr (0, [.ref a1, .ref a2, .ref a3, .int (nI N), .int fa])), (a1, .inl (k1, 400, .inl (pm_nf9 cn))), (a2, .inl (k2, 8000, .inl fl)), (a3, .inl (k3, 16, .inl rt))] := hD.sub [0, 1, 2, 3, 4, 5, 6] (by decide) rfl
      refine lv_iinc (v := nI (j + 1)) (lv' := [(3, .int (nI (j + 1))), (2, .int (nI (cn a))), (1, .int (nI a)), (0, .ref r0)]) hx hb dX2_enterFieldsOf_29 hl (k := 0) rfl (nI_1 _) (by decide) rfl (fun ls hl => ?_)
      refine lv_goto (tgt := 11) hx hb dX2_enterFieldsOf_32 (by decide) ?_
      exact ih (j + 1, fd2, od2, c2) _ _ _ ⟨by omega, by rw [hw, hE]; rfl, hP, hD, hS, lv_sub hl [0, 1, 2, 3] rfl⟩ (by omega)
  · obtain rfl : r_1 = nI 0 := hw.trans (by rw [if_neg (by rw [hh_5]; decide)])
    refine lv_istore_n (lv' := [(2, .int (nI 0)), (0, .ref r0), (1, .int p0)]) hx hb dX2_enterFieldsOf_8 rfl hl (by decide) rfl (fun ls hl => ?_)
    refine lv_iconst (v := nI 0) hx hb dX2_enterFieldsOf_9 (by decide +kernel) ?_
    refine lv_istore_n (lv' := [(3, .int (nI 0)), (2, .int (nI 0)), (0, .ref r0), (1, .int p0)]) hx hb dX2_enterFieldsOf_10 rfl hl (by decide) rfl (fun ls hl => ?_)
    refine lv_iload_n hx hb dX2_enterFieldsOf_11 rfl (lv_at hl 0 rfl) ?_
    refine lv_iload_n hx hb dX2_enterFieldsOf_12 rfl (lv_at hl 1 rfl) ?_
    refine lv_icmp_ge (tgt := 35) hx hb dX2_enterFieldsOf_13 (by decide) (fun c_13 => ?_) (fun c_13 => absurd c_13 (by decide +kernel))
    rw [nI_leI (by omega) (by omega)] at c_13
    exact W.vret hx hb hr (fun t ht hW => ⟨⟨(fd, od, fc), rfl, pm_o1 hh_5, by rw [ht]; exact hP, va_K.moved hW.alike hK, hD⟩, hS.F ht⟩) hS.2.2 dX2_enterFieldsOf_35

set_option maxHeartbeats 4000000 in
set_option maxRecDepth 100000 in
/-- Reach.search() -/
theorem c_R_search (l : Launch) (dC : Nat → ClassId) (dI : Nat → Nat → Nat) (r0 d1 d2 : Nat) (e1 e2 : ClassId) (fd od : Nat → Int32) (fc : Nat) (h0 a1 a2 a3 : Nat) (k1 k2 k3 : ClassId) (N : Nat) (cn : Nat → Nat) (fl rt : Nat → Int32) (fa : Int32) (sz : Nat) (hN : N ≤ 400) (hc : ∀ k, k < N → cn k ≤ 20) : Met l yX2_search wsX2_search ({ frames := 4, cells := 0, slots := 0, locals := 88 }) (va_Pc [.ref r0] (fun U => U.heap.size = sz ∧ va_P (dC, dI) vwCl [(r0, .inr (2, [.ref h0, .ref d1, .ref d2, .int (nI fc)])), (d1, .inl (e1, 400, .inl fd)), (d2, .inl (e2, 400, .inl od)), (h0, .inr (0, [.ref a1, .ref a2, .ref a3, .int (nI N), .int fa])), (a1, .inl (k1, 400, .inl (pm_nf9 cn))), (a2, .inl (k2, 8000, .inl fl)), (a3, .inl (k3, 16, .inl rt))] U.heap ∧ va_K (dC, dI) vwCl [(e1, .boolean), (e2, .int), (k1, .int), (k2, .int), (k3, .int)] U ∧ va_D (fun _ => True) [(r0, .inr (2, [.ref h0, .ref d1, .ref d2, .int (nI fc)])), (d1, .inl (e1, 400, .inl fd)), (d2, .inl (e2, 400, .inl od)), (h0, .inr (0, [.ref a1, .ref a2, .ref a3, .int (nI N), .int fa])), (a1, .inl (k1, 400, .inl (pm_nf9 cn))), (a2, .inl (k2, 8000, .inl fl)), (a3, .inl (k3, 16, .inl rt))])) (va_Qv (fun (u : pm_F) => u = pm_srch N cn fl rt fd od) (fun (u : pm_F) (t : State) => va_P (dC, dI) vwCl [(r0, .inr (2, [.ref h0, .ref d1, .ref d2, .int (nI (u.2.2))])), (d1, .inl (e1, 400, .inl (u.1))), (d2, .inl (e2, 400, .inl (u.2.1))), (h0, .inr (0, [.ref a1, .ref a2, .ref a3, .int (nI N), .int fa])), (a1, .inl (k1, 400, .inl (pm_nf9 cn))), (a2, .inl (k2, 8000, .inl fl)), (a3, .inl (k3, 16, .inl rt))] t.heap ∧ va_K (dC, dI) vwCl [(e1, .boolean), (e2, .int), (k1, .int), (k2, .int), (k3, .int)] t ∧ va_D (va_A [(r0, .inr (2, [.ref h0, .ref d1, .ref d2, .int (nI fc)])), (d1, .inl (e1, 400, .inl fd)), (d2, .inl (e2, 400, .inl od)), (h0, .inr (0, [.ref a1, .ref a2, .ref a3, .int (nI N), .int fa])), (a1, .inl (k1, 400, .inl (pm_nf9 cn))), (a2, .inl (k2, 8000, .inl fl)), (a3, .inl (k3, 16, .inl rt))] sz) [(r0, .inr (2, [.ref h0, .ref d1, .ref d2, .int (nI (u.2.2))])), (d1, .inl (e1, 400, .inl (u.1))), (d2, .inl (e2, 400, .inl (u.2.1))), (h0, .inr (0, [.ref a1, .ref a2, .ref a3, .int (nI N), .int fa])), (a1, .inl (k1, 400, .inl (pm_nf9 cn))), (a2, .inl (k2, 8000, .inl fl)), (a3, .inl (k3, 16, .inl rt))]) (va_A [(r0, .inr (2, [.ref h0, .ref d1, .ref d2, .int (nI fc)])), (d1, .inl (e1, 400, .inl fd)), (d2, .inl (e2, 400, .inl od)), (h0, .inr (0, [.ref a1, .ref a2, .ref a3, .int (nI N), .int fa])), (a1, .inl (k1, 400, .inl (pm_nf9 cn))), (a2, .inl (k2, 8000, .inl fl)), (a3, .inl (k3, 16, .inl rt))] sz)) 0 0 (va_A [(r0, .inr (2, [.ref h0, .ref d1, .ref d2, .int (nI fc)])), (d1, .inl (e1, 400, .inl fd)), (d2, .inl (e2, 400, .inl od)), (h0, .inr (0, [.ref a1, .ref a2, .ref a3, .int (nI N), .int fa])), (a1, .inl (k1, 400, .inl (pm_nf9 cn))), (a2, .inl (k2, 8000, .inl fl)), (a3, .inl (k3, 16, .inl rt))] sz) := by
  refine Met.ofW (cc := cX2_search) (maxL := 2) (ret := (none)) (by decide) rfl ?_
  intro p e s m args below meth c s₁ B hml hv
  obtain ⟨rfl, hsz, hP, hK, hD0⟩ := hv
  have hx := B.exec
  have hb := B.bytes
  have hr := B.returns
  have hts : ∀ w ∈ gw, w.before _ s = true := fun w h => atoms_spec (ws := wsX2_search) B.pre w (List.mem_cons_of_mem _ h)
  have hown : s.vm.findClass RX2 = some m.cls := findClass_of_methodNamed B.named
  have hlocks := B.notSynchronized
  subst hsz
  have hD := hD0.self (sz := s.heap.size)
  generalize hAe : va_A [(r0, .inr (2, [.ref h0, .ref d1, .ref d2, .int (nI fc)])), (d1, .inl (e1, 400, .inl fd)), (d2, .inl (e2, 400, .inl od)), (h0, .inr (0, [.ref a1, .ref a2, .ref a3, .int (nI N), .int fa])), (a1, .inl (k1, 400, .inl (pm_nf9 cn))), (a2, .inl (k2, 8000, .inl fl)), (a3, .inl (k3, 16, .inl rt))] s.heap.size = A at hD ⊢
  have hA : ∀ q : Nat, s.heap.size ≤ q → A q := fun q h => by rw [← hAe]; exact Or.inr h
  have hP : va_P (dC, dI) vwCl [(r0, .inr (2, [.ref h0, .ref d1, .ref d2, .int (nI fc)])), (d1, .inl (e1, 400, .inl fd)), (d2, .inl (e2, 400, .inl od)), (h0, .inr (0, [.ref a1, .ref a2, .ref a3, .int (nI N), .int fa])), (a1, .inl (k1, 400, .inl (pm_nf9 cn))), (a2, .inl (k2, 8000, .inl fl)), (a3, .inl (k3, 16, .inl rt))] s.heap := hP
  have hl := lv_entry ([.ref r0]) (n := 2) (Nat.le_of_ble_eq_true rfl)
  rw [lg_entry_eq]
  generalize (lg_sl ([.ref r0]) ++ List.replicate (2 - (lg_sl ([.ref r0])).length) Slot.unset).toArray = ls at hl ⊢
  have hl : lv_has ls 2 [(0, .ref r0)] := hl
  obtain ⟨H, hH⟩ : ∃ H : Heap, H = s.heap := ⟨_, rfl⟩
  rw [← hH]
  rw [← hH] at hP
  have hS : va_S A s.heap H [] := by rw [hH]; exact va_S.rf
  clear hH
  refine lv_iconst (v := nI 0) hx hb dX2_search_0 (by decide +kernel) ?_
  refine lv_istore_n (lv' := [(1, .int (nI 0)), (0, .ref r0)]) hx hb dX2_search_1 rfl hl (by decide) rfl (fun ls hl => ?_)
  have hP : va_P (dC, dI) vwCl [(r0, .inr (2, [.ref h0, .ref d1, .ref d2, .int (nI fc)])), (d1, .inl (e1, 400, .inl (pm_clr 0 fd))), (d2, .inl (e2, 400, .inl od)), (h0, .inr (0, [.ref a1, .ref a2, .ref a3, .int (nI N), .int fa])), (a1, .inl (k1, 400, .inl (pm_nf9 cn))), (a2, .inl (k2, 8000, .inl fl)), (a3, .inl (k3, 16, .inl rt))] H := by rw [pm_clr_0]; exact hP
  have hD : va_D A [(r0, .inr (2, [.ref h0, .ref d1, .ref d2, .int (nI fc)])), (d1, .inl (e1, 400, .inl (pm_clr 0 fd))), (d2, .inl (e2, 400, .inl od)), (h0, .inr (0, [.ref a1, .ref a2, .ref a3, .int (nI N), .int fa])), (a1, .inl (k1, 400, .inl (pm_nf9 cn))), (a2, .inl (k2, 8000, .inl fl)), (a3, .inl (k3, 16, .inl rt))] := by rw [pm_clr_0]; exact hD
  refine lp_loop (σ := Nat) (head := 2) (fun k H locs ls => k ≤ 400 ∧ va_P (dC, dI) vwCl [(r0, .inr (2, [.ref h0, .ref d1, .ref d2, .int (nI fc)])), (d1, .inl (e1, 400, .inl (pm_clr k fd))), (d2, .inl (e2, 400, .inl od)), (h0, .inr (0, [.ref a1, .ref a2, .ref a3, .int (nI N), .int fa])), (a1, .inl (k1, 400, .inl (pm_nf9 cn))), (a2, .inl (k2, 8000, .inl fl)), (a3, .inl (k3, 16, .inl rt))] H ∧ va_D A [(r0, .inr (2, [.ref h0, .ref d1, .ref d2, .int (nI fc)])), (d1, .inl (e1, 400, .inl (pm_clr k fd))), (d2, .inl (e2, 400, .inl od)), (h0, .inr (0, [.ref a1, .ref a2, .ref a3, .int (nI N), .int fa])), (a1, .inl (k1, 400, .inl (pm_nf9 cn))), (a2, .inl (k2, 8000, .inl fl)), (a3, .inl (k3, 16, .inl rt))] ∧ va_S A s.heap H locs ∧ lv_has ls 2 [(1, .int (nI k)), (0, .ref r0)]) (fun k => 400 - k) ?_ 0 _ _ _ ⟨Nat.zero_le _, hP, hD, hS, lv_sub hl [0, 1] rfl⟩
  intro x H locs ls hI ih
  obtain ⟨k, rfl⟩ : ∃ y, y = x := ⟨x, rfl⟩
  obtain ⟨hk, hP, hD, hS, hl⟩ := hI
  refine lv_iload_n hx hb dX2_search_2 rfl (lv_at hl 0 rfl) ?_
  refine lv_sipush (v := nI 400) hx hb dX2_search_3 (by decide +kernel) ?_
  refine lv_icmp_ge (tgt := 22) hx hb dX2_search_6 (by decide) (fun c_6 => ?_) (fun c_6 => ?_)
  · rw [nI_leI (by omega) (by omega)] at c_6
    obtain rfl : k = 400 := by omega
    clear ih
    refine lv_aload_n hx hb dX2_search_22 rfl (lv_at hl 1 rfl) ?_
    refine lv_iconst (v := nI 0) hx hb dX2_search_23 (by decide +kernel) ?_
    refine va_put (D := (dC, dI)) (ci := 2) (v := .int (nI 0)) (ty := .int) (C := RX2) (T := TX2) (N := 4) hx hb hts iw_X2 tyX2 tyX2_ok nmX2 hown hK hP hD hS 0 rfl rfl 3 (by decide) (hts _ mf_X2_23) (fun _ h9 => h9) rfl (by decide +kernel) (rfl) (rfl) (Nat.le_of_ble_eq_true rfl) dX2_search_24 (fun H locs hP hD hS => ?_)
    have hP : va_P (dC, dI) vwCl [(r0, .inr (2, [.ref h0, .ref d1, .ref d2, .int (nI 0)])), (d1, .inl (e1, 400, .inl (pm_clr 400 fd))), (d2, .inl (e2, 400, .inl od)), (h0, .inr (0, [.ref a1, .ref a2, .ref a3, .int (nI N), .int fa])), (a1, .inl (k1, 400, .inl (pm_nf9 cn))), (a2, .inl (k2, 8000, .inl fl)), (a3, .inl (k3, 16, .inl rt))] H := hP
    have hD : va_D A [(r0, .inr (2, [.ref h0, .ref d1, .ref d2, .int (nI 0)])), (d1, .inl (e1, 400, .inl (pm_clr 400 fd))), (d2, .inl (e2, 400, .inl od)), (h0, .inr (0, [.ref a1, .ref a2, .ref a3, .int (nI N), .int fa])), (a1, .inl (k1, 400, .inl (pm_nf9 cn))), (a2, .inl (k2, 8000, .inl fl)), (a3, .inl (k3, 16, .inl rt))] := hD
    refine lv_iconst (v := nI 0) hx hb dX2_search_27 (by decide +kernel) ?_
    refine lv_istore_n (lv' := [(1, .int (nI 0)), (0, .ref r0)]) hx hb dX2_search_28 rfl hl (by decide) rfl (fun ls hl => ?_)
    refine lp_loop (σ := Nat × (Nat → Int32) × (Nat → Int32) × Nat) (head := 29) (fun x H locs ls => match x with | (i, fd1, od1, c1) => i ≤ 16 ∧ (fd1, od1, c1) = pm_ef N rt i (pm_clr 400 fd, od, 0) ∧ va_P (dC, dI) vwCl [(r0, .inr (2, [.ref h0, .ref d1, .ref d2, .int (nI c1)])), (d1, .inl (e1, 400, .inl fd1)), (d2, .inl (e2, 400, .inl od1)), (h0, .inr (0, [.ref a1, .ref a2, .ref a3, .int (nI N), .int fa])), (a1, .inl (k1, 400, .inl (pm_nf9 cn))), (a2, .inl (k2, 8000, .inl fl)), (a3, .inl (k3, 16, .inl rt))] H ∧ va_D A [(r0, .inr (2, [.ref h0, .ref d1, .ref d2, .int (nI c1)])), (d1, .inl (e1, 400, .inl fd1)), (d2, .inl (e2, 400, .inl od1)), (h0, .inr (0, [.ref a1, .ref a2, .ref a3, .int (nI N), .int fa])), (a1, .inl (k1, 400, .inl (pm_nf9 cn))), (a2, .inl (k2, 8000, .inl fl)), (a3, .inl (k3, 16, .inl rt))] ∧ va_S A s.heap H locs ∧ lv_has ls 2 [(1, .int (nI i)), (0, .ref r0)]) (fun x => match x with | (i, fd1, od1, c1) => 16 - i) ?_ (0, pm_clr 400 fd, od, 0) _ _ _ ⟨Nat.zero_le _, rfl, hP, hD, hS, lv_sub hl [0, 1] rfl⟩
    intro x H locs ls hI ih
    obtain ⟨i, fd1, od1, c1⟩ := x
    obtain ⟨hi, hE, hP, hD, hS, hl⟩ := hI
    dsimp only at ih
    have hc1 : c1 ≤ 400 := pm_ef_c (Nat.zero_le _) hE
    refine lv_iload_n hx hb dX2_search_29 rfl (lv_at hl 0 rfl) ?_
    refine lv_bipush (v := nI 16) hx hb dX2_search_30 (by decide +kernel) ?_
    refine lv_icmp_ge (tgt := 53) hx hb dX2_search_32 (by decide) (fun c_32 => ?_) (fun c_32 => ?_)
    · rw [nI_leI (by omega) (by omega)] at c_32
      refine lv_iconst (v := nI 0) hx hb dX2_search_53 (by decide +kernel) ?_
      refine lv_istore_n (lv' := [(1, .int (nI 0)), (0, .ref r0)]) hx hb dX2_search_54 rfl hl (by decide) rfl (fun ls hl => ?_)
      have hE0 : (fd1, od1, c1) = pm_ef N rt 16 (pm_clr 400 fd, od, 0) := by rw [hE, show i = 16 by omega]
      clear ih hE
      refine lp_loop (σ := Nat × (Nat → Int32) × (Nat → Int32) × Nat) (head := 55) (fun x H locs ls => match x with | (i5, fd5, od5, c5) => i5 ≤ 400 ∧ c5 ≤ 400 ∧ pm_q N cn fl (400 - i5) i5 (fd5, od5, c5) = pm_srch N cn fl rt fd od ∧ va_P (dC, dI) vwCl [(r0, .inr (2, [.ref h0, .ref d1, .ref d2, .int (nI c5)])), (d1, .inl (e1, 400, .inl fd5)), (d2, .inl (e2, 400, .inl od5)), (h0, .inr (0, [.ref a1, .ref a2, .ref a3, .int (nI N), .int fa])), (a1, .inl (k1, 400, .inl (pm_nf9 cn))), (a2, .inl (k2, 8000, .inl fl)), (a3, .inl (k3, 16, .inl rt))] H ∧ va_D A [(r0, .inr (2, [.ref h0, .ref d1, .ref d2, .int (nI c5)])), (d1, .inl (e1, 400, .inl fd5)), (d2, .inl (e2, 400, .inl od5)), (h0, .inr (0, [.ref a1, .ref a2, .ref a3, .int (nI N), .int fa])), (a1, .inl (k1, 400, .inl (pm_nf9 cn))), (a2, .inl (k2, 8000, .inl fl)), (a3, .inl (k3, 16, .inl rt))] ∧ va_S A s.heap H locs ∧ lv_has ls 2 [(1, .int (nI i5)), (0, .ref r0)]) (fun x => match x with | (i5, fd5, od5, c5) => 400 - i5) ?_ (0, fd1, od1, c1) _ _ _ ⟨Nat.zero_le _, hc1, by rw [hE0]; rfl, hP, hD, hS, lv_sub hl [0, 1] rfl⟩
      intro x H locs ls hI ih
      obtain ⟨i5, fd5, od5, c5⟩ := x
      obtain ⟨hi5, hc5, hE5, hP, hD, hS, hl⟩ := hI
      dsimp only at ih
      refine lv_iload_n hx hb dX2_search_55 rfl (lv_at hl 0 rfl) ?_
      refine lv_sipush (v := nI 400) hx hb dX2_search_56 (by decide +kernel) ?_
      refine lv_icmp_ge (tgt := 86) hx hb dX2_search_59 (by decide) (fun c_59 => ?_) (fun c_59 => ?_)
      · rw [nI_leI (by omega) (by omega)] at c_59
        exact W.vret hx hb hr (fun t ht hW => ⟨⟨(fd5, od5, c5), rfl, by rw [← hE5, show 400 - i5 = 0 by omega]; rfl, by rw [ht]; exact hP, va_K.moved hW.alike hK, hD⟩, hS.F ht⟩) hS.2.2 dX2_search_86
      · rw [nI_leI (by omega) (by omega)] at c_59
        refine lv_iload_n hx hb dX2_search_62 rfl (lv_at hl 0 rfl) ?_
        refine lv_aload_n hx hb dX2_search_63 rfl (lv_at hl 1 rfl) ?_
        refine va_get (D := (dC, dI)) (ci := 2) (v := .int (nI c5)) (C := RX2) (T := TX2) (N := 4) hx hb hts iw_X2 hown hK hP 0 rfl rfl 3 (by decide) (hts _ mf_X2_23) (fun _ h9 => h9) rfl dX2_search_64 ?_
        refine lv_icmp_ge (tgt := 86) hx hb dX2_search_67 (by decide) (fun c_67 => ?_) (fun c_67 => ?_)
        · rw [nI_leI (by omega) (by omega)] at c_67
          exact W.vret hx hb hr (fun t ht hW => ⟨⟨(fd5, od5, c5), rfl, by rw [← hE5]; exact pm_q_e (by omega), by rw [ht]; exact hP, va_K.moved hW.alike hK, hD⟩, hS.F ht⟩) hS.2.2 dX2_search_86
        · rw [nI_leI (by omega) (by omega)] at c_67; replace c_67 : i5 < c5 := by omega
          refine lv_aload_n hx hb dX2_search_70 rfl (lv_at hl 1 rfl) ?_
          refine lv_aload_n hx hb dX2_search_71 rfl (lv_at hl 1 rfl) ?_
          refine va_get (D := (dC, dI)) (ci := 2) (v := .ref d2) (C := RX2) (T := TX2) (N := 4) hx hb hts iw_X2 hown hK hP 0 rfl rfl 2 (by decide) (hts _ mf_X2_19) (fun _ h9 => h9) rfl dX2_search_72 ?_
          refine lv_iload_n hx hb dX2_search_75 rfl (lv_at hl 0 rfl) ?_
          refine va_iald hx hb hK hP 2 1 rfl rfl (vp_in_nI (by omega) (by omega)) dX2_search_76 ?_
          refine lv_topi (fun x_1 ex_1 => ?_)
          rw [nI_clamp (by omega)] at ex_1
          subst ex_1
          have hPc := hP.sub (ws' := [(r0, .inr (2, [.ref h0, .ref d1, .ref d2, .int (nI c5)])), (d1, .inl (e1, 400, .inl fd5)), (d2, .inl (e2, 400, .inl od5)), (h0, .inr (0, [.ref a1, .ref a2, .ref a3, .int (nI N), .int fa])), (a1, .inl (k1, 400, .inl (pm_nf9 cn))), (a2, .inl (k2, 8000, .inl fl)), (a3, .inl (k3, 16, .inl rt))]) [0, 1, 2, 3, 4, 5, 6] rfl
          have hDc := hD.sub (ws' := [(r0, .inr (2, [.ref h0, .ref d1, .ref d2, .int (nI c5)])), (d1, .inl (e1, 400, .inl fd5)), (d2, .inl (e2, 400, .inl od5)), (h0, .inr (0, [.ref a1, .ref a2, .ref a3, .int (nI N), .int fa])), (a1, .inl (k1, 400, .inl (pm_nf9 cn))), (a2, .inl (k2, 8000, .inl fl)), (a3, .inl (k3, 16, .inl rt))]) [0, 1, 2, 3, 4, 5, 6] (by decide) rfl
          have hKc := hK.sub (tys' := [(e1, .boolean), (e2, .int), (k1, .int), (k2, .int), (k3, .int)]) [0, 1, 2, 3, 4] rfl
          have hFc := va_free (wc := [(r0, .inr (2, [.ref h0, .ref d1, .ref d2, .int (nI c5)])), (d1, .inl (e1, 400, .inl fd5)), (d2, .inl (e2, 400, .inl od5)), (h0, .inr (0, [.ref a1, .ref a2, .ref a3, .int (nI N), .int fa])), (a1, .inl (k1, 400, .inl (pm_nf9 cn))), (a2, .inl (k2, 8000, .inl fl)), (a3, .inl (k3, 16, .inl rt))]) hD hS hA [0, 1, 2, 3, 4, 5, 6] rfl
          refine va_callv (va_runV (As := [.int (od5 i5)]) (rest := []) ⟨hx, hb, hml, hown, hts⟩ (c_R_enterFieldsOf l dC dI r0 d1 d2 e1 e2 fd5 od5 c5 h0 a1 a2 a3 k1 k2 k3 N cn fl rt fa (od5 i5) H.size (hN) (hc) (by omega)) (cwV 1 hts (gw_V ml_X2_37 mi_X2_enterFieldsOf ms_X2_enterFieldsOf mn_X2 mc_X2_enterFieldsOf) rfl rfl rfl (by decide +kernel) ⟨Nat.le_of_ble_eq_true rfl, Nat.le_of_ble_eq_true rfl⟩) ⟨fun a U g mk q => by obtain ⟨q0, q1, qP, qK, qD⟩ := q; exact ⟨q0, q1, qP, va_K.moved (u := U) (U := U.calling g mk a) (Vm.Alike.refl U.vm) qK, qD⟩, va_recv hKc hPc (ci := 2) (q0 := 0) rfl rfl, fun U hU hW => ⟨rfl, by rw [hU], by rw [hU]; exact hPc, va_K.moved hW.alike hKc, hDc.weaken (fun _ _ _ _ => trivial)⟩⟩ rfl rfl hl.1 rfl (lv_room (Nat.le_of_ble_eq_true rfl)) dX2_search_77 ⟨Nat.le_of_ble_eq_true rfl, Nat.le_of_ble_eq_true rfl⟩) hS (fun q _ h => hFc q h) hFc (fun u t H1 locs ht hvm hw hB hz1 hk1 hS => ?_)
          obtain ⟨fd6, od6, c6⟩ := u
          obtain ⟨hP1, hK1, hD1⟩ := hB
          rw [ht] at hP1
          have hK1 := va_K.moved hvm.symm hK1
          obtain ⟨hP, hD⟩ := va_join (wr := []) (w1 := [(r0, .inr (2, [.ref h0, .ref d1, .ref d2, .int (nI c6)])), (d1, .inl (e1, 400, .inl fd6)), (d2, .inl (e2, 400, .inl od6)), (h0, .inr (0, [.ref a1, .ref a2, .ref a3, .int (nI N), .int fa])), (a1, .inl (k1, 400, .inl (pm_nf9 cn))), (a2, .inl (k2, 8000, .inl fl)), (a3, .inl (k3, 16, .inl rt))]) hP hD [0, 1, 2, 3, 4, 5, 6] [] rfl rfl (by decide) (by decide) hk1 hFc hP1 hD1
          clear hPc hDc hKc hFc hP1 hK1 hD1
          generalize H1 = H at hP hS ⊢
          have hP : va_P (dC, dI) vwCl [(r0, .inr (2, [.ref h0, .ref d1, .ref d2, .int (nI c6)])), (d1, .inl (e1, 400, .inl fd6)), (d2, .inl (e2, 400, .inl od6)), (h0, .inr (0, [.ref a1, .ref a2, .ref a3, .int (nI N), .int fa])), (a1, .inl (k1, 400, .inl (pm_nf9 cn))), (a2, .inl (k2, 8000, .inl fl)), (a3, .inl (k3, 16, .inl rt))] H := hP.sub [0, 1, 2, 3, 4, 5, 6] rfl
          have hD : va_D A [(r0, .inr (2, [.ref h0, .ref d1, .ref d2, .int (nI c6)])), (d1, .inl (e1, 400, .inl fd6)), (d2, .inl (e2, 400, .inl od6)), (h0, .inr (0, [.ref a1, .ref a2, .ref a3, .int (nI N), .int fa])), (a1, .inl (k1, 400, .inl (pm_nf9 cn))), (a2, .inl (k2, 8000, .inl fl)), (a3, .inl (k3, 16, .inl rt))] := hD.sub [0, 1, 2, 3, 4, 5, 6] (by decide) rfl
          refine lv_iinc (v := nI (i5 + 1)) (lv' := [(1, .int (nI (i5 + 1))), (0, .ref r0)]) hx hb dX2_search_80 hl (k := 0) rfl (nI_1 _) (by decide) rfl (fun ls hl => ?_)
          refine lv_goto (tgt := 55) hx hb dX2_search_83 (by decide) ?_
          exact ih (i5 + 1, fd6, od6, c6) _ _ _ ⟨by omega, pm_eo_c hc5 hw, by rw [hw]; exact (pm_q_s (by omega) c_67).trans hE5, hP, hD, hS, lv_sub hl [0, 1] rfl⟩ (by omega)
    · rw [nI_leI (by omega) (by omega)] at c_32
      refine lv_aload_n hx hb dX2_search_35 rfl (lv_at hl 1 rfl) ?_
      refine lv_aload_n hx hb dX2_search_36 rfl (lv_at hl 1 rfl) ?_
      refine va_get (D := (dC, dI)) (ci := 2) (v := .ref h0) (C := RX2) (T := TX2) (N := 4) hx hb hts iw_X2 hown hK hP 0 rfl rfl 0 (by decide) (hts _ mf_X2_9) (fun _ h9 => h9) rfl dX2_search_37 ?_
      refine lv_iload_n hx hb dX2_search_40 rfl (lv_at hl 0 rfl) ?_
      have hPc := hP.sub (ws' := [(h0, .inr (0, [.ref a1, .ref a2, .ref a3, .int (nI N), .int fa])), (a1, .inl (k1, 400, .inl (pm_nf9 cn))), (a2, .inl (k2, 8000, .inl fl)), (a3, .inl (k3, 16, .inl rt))]) [3, 4, 5, 6] rfl
      have hDc := hD.sub (ws' := [(h0, .inr (0, [.ref a1, .ref a2, .ref a3, .int (nI N), .int fa])), (a1, .inl (k1, 400, .inl (pm_nf9 cn))), (a2, .inl (k2, 8000, .inl fl)), (a3, .inl (k3, 16, .inl rt))]) [3, 4, 5, 6] (by decide) rfl
      have hKc := hK.sub (tys' := [(k1, .int), (k2, .int), (k3, .int)]) [2, 3, 4] rfl
      have hFc := va_free (wc := [(h0, .inr (0, [.ref a1, .ref a2, .ref a3, .int (nI N), .int fa])), (a1, .inl (k1, 400, .inl (pm_nf9 cn))), (a2, .inl (k2, 8000, .inl fl)), (a3, .inl (k3, 16, .inl rt))]) hD hS hA [3, 4, 5, 6] rfl
      refine va_calli (va_runV (As := [.int (nI i)]) (rest := [.ref r0]) ⟨hx, hb, hml, hown, hts⟩ (c_H_rootAt l dC dI h0 a1 a2 a3 k1 k2 k3 N cn fl rt fa (nI i) H.size) (cwV 1 hts (gw_V ml_X2_27 mi_X0_rootAt ms_X0_rootAt mn_X0 mc_X0_rootAt) rfl rfl rfl (by decide +kernel) ⟨Nat.le_of_ble_eq_true rfl, Nat.le_of_ble_eq_true rfl⟩) ⟨fun a U g mk q => by obtain ⟨q0, q1, qP, qK, qD⟩ := q; exact ⟨q0, q1, qP, va_K.moved (u := U) (U := U.calling g mk a) (Vm.Alike.refl U.vm) qK, qD⟩, va_recv hKc hPc (ci := 0) (q0 := 0) rfl rfl, fun U hU hW => ⟨rfl, by rw [hU], by rw [hU]; exact hPc, va_K.moved hW.alike hKc, hDc.weaken (fun _ _ _ _ => trivial)⟩⟩ rfl rfl hl.1 rfl (lv_room (Nat.le_of_ble_eq_true rfl)) dX2_search_41 ⟨Nat.le_of_ble_eq_true rfl, Nat.le_of_ble_eq_true rfl⟩) hS (fun q _ h => hFc q h) hFc (fun r_3 u t H1 locs ht hvm hw hB hz1 hk1 hS => ?_)
      obtain ⟨hP1, hK1, hD1⟩ := hB
      rw [ht] at hP1
      have hK1 := va_K.moved hvm.symm hK1
      obtain ⟨hP, hD⟩ := va_join (wr := [(r0, .inr (2, [.ref h0, .ref d1, .ref d2, .int (nI c1)])), (d1, .inl (e1, 400, .inl fd1)), (d2, .inl (e2, 400, .inl od1))]) (w1 := [(h0, .inr (0, [.ref a1, .ref a2, .ref a3, .int (nI N), .int fa])), (a1, .inl (k1, 400, .inl (pm_nf9 cn))), (a2, .inl (k2, 8000, .inl fl)), (a3, .inl (k3, 16, .inl rt))]) hP hD [3, 4, 5, 6] [0, 1, 2] rfl rfl (by decide) (by decide) hk1 hFc hP1 hD1
      clear hPc hDc hKc hFc hP1 hK1 hD1
      generalize H1 = H at hP hS ⊢
      have hP : va_P (dC, dI) vwCl [(r0, .inr (2, [.ref h0, .ref d1, .ref d2, .int (nI c1)])), (d1, .inl (e1, 400, .inl fd1)), (d2, .inl (e2, 400, .inl od1)), (h0, .inr (0, [.ref a1, .ref a2, .ref a3, .int (nI N), .int fa])), (a1, .inl (k1, 400, .inl (pm_nf9 cn))), (a2, .inl (k2, 8000, .inl fl)), (a3, .inl (k3, 16, .inl rt))] H := hP.sub [0, 1, 2, 3, 4, 5, 6] rfl
      have hD : va_D A [(r0, .inr (2, [.ref h0, .ref d1, .ref d2, .int (nI c1)])), (d1, .inl (e1, 400, .inl fd1)), (d2, .inl (e2, 400, .inl od1)), (h0, .inr (0, [.ref a1, .ref a2, .ref a3, .int (nI N), .int fa])), (a1, .inl (k1, 400, .inl (pm_nf9 cn))), (a2, .inl (k2, 8000, .inl fl)), (a3, .inl (k3, 16, .inl rt))] := hD.sub [0, 1, 2, 3, 4, 5, 6] (by decide) rfl
      obtain rfl : r_3 = rt i := hw.trans (by rw [if_pos (pm_has_nI (by omega) (by omega)), nI_clamp (by omega)])
      have hPc := hP.sub (ws' := [(r0, .inr (2, [.ref h0, .ref d1, .ref d2, .int (nI c1)])), (d1, .inl (e1, 400, .inl fd1)), (d2, .inl (e2, 400, .inl od1)), (h0, .inr (0, [.ref a1, .ref a2, .ref a3, .int (nI N), .int fa])), (a1, .inl (k1, 400, .inl (pm_nf9 cn))), (a2, .inl (k2, 8000, .inl fl)), (a3, .inl (k3, 16, .inl rt))]) [0, 1, 2, 3, 4, 5, 6] rfl
      have hDc := hD.sub (ws' := [(r0, .inr (2, [.ref h0, .ref d1, .ref d2, .int (nI c1)])), (d1, .inl (e1, 400, .inl fd1)), (d2, .inl (e2, 400, .inl od1)), (h0, .inr (0, [.ref a1, .ref a2, .ref a3, .int (nI N), .int fa])), (a1, .inl (k1, 400, .inl (pm_nf9 cn))), (a2, .inl (k2, 8000, .inl fl)), (a3, .inl (k3, 16, .inl rt))]) [0, 1, 2, 3, 4, 5, 6] (by decide) rfl
      have hKc := hK.sub (tys' := [(e1, .boolean), (e2, .int), (k1, .int), (k2, .int), (k3, .int)]) [0, 1, 2, 3, 4] rfl
      have hFc := va_free (wc := [(r0, .inr (2, [.ref h0, .ref d1, .ref d2, .int (nI c1)])), (d1, .inl (e1, 400, .inl fd1)), (d2, .inl (e2, 400, .inl od1)), (h0, .inr (0, [.ref a1, .ref a2, .ref a3, .int (nI N), .int fa])), (a1, .inl (k1, 400, .inl (pm_nf9 cn))), (a2, .inl (k2, 8000, .inl fl)), (a3, .inl (k3, 16, .inl rt))]) hD hS hA [0, 1, 2, 3, 4, 5, 6] rfl
      refine va_callv (va_runV (As := [.int (rt i)]) (rest := []) ⟨hx, hb, hml, hown, hts⟩ (c_R_enter l dC dI r0 d1 d2 e1 e2 fd1 od1 c1 h0 a1 a2 a3 k1 k2 k3 N cn fl rt fa (rt i) H.size (hN) (by omega)) (cwV 1 hts (gw_V ml_X2_33 mi_X2_enter ms_X2_enter mn_X2 mc_X2_enter) rfl rfl rfl (by decide +kernel) ⟨Nat.le_of_ble_eq_true rfl, Nat.le_of_ble_eq_true rfl⟩) ⟨fun a U g mk q => by obtain ⟨q0, q1, qP, qK, qD⟩ := q; exact ⟨q0, q1, qP, va_K.moved (u := U) (U := U.calling g mk a) (Vm.Alike.refl U.vm) qK, qD⟩, va_recv hKc hPc (ci := 2) (q0 := 0) rfl rfl, fun U hU hW => ⟨rfl, by rw [hU], by rw [hU]; exact hPc, va_K.moved hW.alike hKc, hDc.weaken (fun _ _ _ _ => trivial)⟩⟩ rfl rfl hl.1 rfl (lv_room (Nat.le_of_ble_eq_true rfl)) dX2_search_44 ⟨Nat.le_of_ble_eq_true rfl, Nat.le_of_ble_eq_true rfl⟩) hS (fun q _ h => hFc q h) hFc (fun u t H1 locs ht hvm hw hB hz1 hk1 hS => ?_)
      obtain ⟨fd2, od2, c2⟩ := u
      obtain ⟨hP1, hK1, hD1⟩ := hB
      rw [ht] at hP1
      have hK1 := va_K.moved hvm.symm hK1
      obtain ⟨hP, hD⟩ := va_join (wr := []) (w1 := [(r0, .inr (2, [.ref h0, .ref d1, .ref d2, .int (nI c2)])), (d1, .inl (e1, 400, .inl fd2)), (d2, .inl (e2, 400, .inl od2)), (h0, .inr (0, [.ref a1, .ref a2, .ref a3, .int (nI N), .int fa])), (a1, .inl (k1, 400, .inl (pm_nf9 cn))), (a2, .inl (k2, 8000, .inl fl)), (a3, .inl (k3, 16, .inl rt))]) hP hD [0, 1, 2, 3, 4, 5, 6] [] rfl rfl (by decide) (by decide) hk1 hFc hP1 hD1
      clear hPc hDc hKc hFc hP1 hK1 hD1
      generalize H1 = H at hP hS ⊢
      have hP : va_P (dC, dI) vwCl [(r0, .inr (2, [.ref h0, .ref d1, .ref d2, .int (nI c2)])), (d1, .inl (e1, 400, .inl fd2)), (d2, .inl (e2, 400, .inl od2)), (h0, .inr (0, [.ref a1, .ref a2, .ref a3, .int (nI N), .int fa])), (a1, .inl (k1, 400, .inl (pm_nf9 cn))), (a2, .inl (k2, 8000, .inl fl)), (a3, .inl (k3, 16, .inl rt))] H := hP.sub [0, 1, 2, 3, 4, 5, 6] rfl
      have hD : va_D A [(r0, .inr (2, [.ref h0, .ref d1, .ref d2, .int (nI c2)])), (d1, .inl (e1, 400, .inl fd2)), (d2, .inl (e2, 400, .inl od2)), (h0, .inr (0, [.ref a1, .ref a2, .ref a3, .int (nI N), .int fa])), (a1, .inl (k1, 400, .inl (pm_nf9 cn))), (a2, .inl (k2, 8000, .inl fl)), (a3, .inl (k3, 16, .inl rt))] := hD.sub [0, 1, 2, 3, 4, 5, 6] (by decide) rfl
      refine lv_iinc (v := nI (i + 1)) (lv' := [(1, .int (nI (i + 1))), (0, .ref r0)]) hx hb dX2_search_47 hl (k := 0) rfl (nI_1 _) (by decide) rfl (fun ls hl => ?_)
      refine lv_goto (tgt := 29) hx hb dX2_search_50 (by decide) ?_
      exact ih (i + 1, fd2, od2, c2) _ _ _ ⟨by omega, by rw [hw, hE]; rfl, hP, hD, hS, lv_sub hl [0, 1] rfl⟩ (by omega)
  · rw [nI_leI (by omega) (by omega)] at c_6
    refine lv_aload_n hx hb dX2_search_9 rfl (lv_at hl 1 rfl) ?_
    refine va_get (D := (dC, dI)) (ci := 2) (v := .ref d1) (C := RX2) (T := TX2) (N := 4) hx hb hts iw_X2 hown hK hP 0 rfl rfl 1 (by decide) (hts _ mf_X2_15) (fun _ h9 => h9) rfl dX2_search_10 ?_
    refine lv_iload_n hx hb dX2_search_13 rfl (lv_at hl 0 rfl) ?_
    refine lv_iconst (v := nI 0) hx hb dX2_search_14 (by decide +kernel) ?_
    refine va_zast hx hb hK hP hD hS 1 0 rfl rfl (vp_in_nI (by omega) (by omega)) dX2_search_15 (fun H locs hP hD hS => ?_)
    rw [nI_clamp (by omega)] at hP hD
    rw [pm_z0] at hP hD
    have hP : va_P (dC, dI) vwCl [(r0, .inr (2, [.ref h0, .ref d1, .ref d2, .int (nI fc)])), (d1, .inl (e1, 400, .inl (upd (pm_clr k fd) k 0))), (d2, .inl (e2, 400, .inl od)), (h0, .inr (0, [.ref a1, .ref a2, .ref a3, .int (nI N), .int fa])), (a1, .inl (k1, 400, .inl (pm_nf9 cn))), (a2, .inl (k2, 8000, .inl fl)), (a3, .inl (k3, 16, .inl rt))] H := hP
    have hD : va_D A [(r0, .inr (2, [.ref h0, .ref d1, .ref d2, .int (nI fc)])), (d1, .inl (e1, 400, .inl (upd (pm_clr k fd) k 0))), (d2, .inl (e2, 400, .inl od)), (h0, .inr (0, [.ref a1, .ref a2, .ref a3, .int (nI N), .int fa])), (a1, .inl (k1, 400, .inl (pm_nf9 cn))), (a2, .inl (k2, 8000, .inl fl)), (a3, .inl (k3, 16, .inl rt))] := hD
    rw [show upd (pm_clr k fd) k 0 = pm_clr (k + 1) fd from pm_clr_s k fd] at hP hD
    refine lv_iinc (v := nI (k + 1)) (lv' := [(1, .int (nI (k + 1))), (0, .ref r0)]) hx hb dX2_search_16 hl (k := 0) rfl (nI_1 _) (by decide) rfl (fun ls hl => ?_)
    refine lv_goto (tgt := 2) hx hb dX2_search_19 (by decide) ?_
    exact ih (k + 1) _ _ _ ⟨by omega, hP, hD, hS, lv_sub hl [0, 1] rfl⟩ (by omega)

set_option maxHeartbeats 4000000 in
set_option maxRecDepth 100000 in
/-- Reach.hasFound(k) -/
theorem c_R_hasFound (l : Launch) (dC : Nat → ClassId) (dI : Nat → Nat → Nat) (r0 d1 d2 : Nat) (e1 e2 : ClassId) (fd od : Nat → Int32) (fc : Nat) (h0 a1 a2 a3 : Nat) (k1 k2 k3 : ClassId) (N : Nat) (cn : Nat → Nat) (fl rt : Nat → Int32) (fa : Int32) (p0 : Int32) (sz : Nat) (hN : N ≤ 400) : Met l yX2_hasFound wsX2_hasFound ({ frames := 1, cells := 0, slots := 0, locals := 21 }) (va_Pc [.ref r0, .int p0] (fun U => U.heap.size = sz ∧ va_P (dC, dI) vwCl [(r0, .inr (2, [.ref h0, .ref d1, .ref d2, .int (nI fc)])), (d1, .inl (e1, 400, .inl fd)), (d2, .inl (e2, 400, .inl od)), (h0, .inr (0, [.ref a1, .ref a2, .ref a3, .int (nI N), .int fa])), (a1, .inl (k1, 400, .inl (pm_nf9 cn))), (a2, .inl (k2, 8000, .inl fl)), (a3, .inl (k3, 16, .inl rt))] U.heap ∧ va_K (dC, dI) vwCl [(e1, .boolean), (e2, .int), (k1, .int), (k2, .int), (k3, .int)] U ∧ va_D (fun _ => True) [(r0, .inr (2, [.ref h0, .ref d1, .ref d2, .int (nI fc)])), (d1, .inl (e1, 400, .inl fd)), (d2, .inl (e2, 400, .inl od)), (h0, .inr (0, [.ref a1, .ref a2, .ref a3, .int (nI N), .int fa])), (a1, .inl (k1, 400, .inl (pm_nf9 cn))), (a2, .inl (k2, 8000, .inl fl)), (a3, .inl (k3, 16, .inl rt))])) (va_Qi (fun (r : Int32) (_ : Unit) => r = pm_b (pm_hm N fd p0)) (fun (_ : Unit) (t : State) => va_P (dC, dI) vwCl [(r0, .inr (2, [.ref h0, .ref d1, .ref d2, .int (nI fc)])), (d1, .inl (e1, 400, .inl fd)), (d2, .inl (e2, 400, .inl od)), (h0, .inr (0, [.ref a1, .ref a2, .ref a3, .int (nI N), .int fa])), (a1, .inl (k1, 400, .inl (pm_nf9 cn))), (a2, .inl (k2, 8000, .inl fl)), (a3, .inl (k3, 16, .inl rt))] t.heap ∧ va_K (dC, dI) vwCl [(e1, .boolean), (e2, .int), (k1, .int), (k2, .int), (k3, .int)] t ∧ va_D (va_A [(r0, .inr (2, [.ref h0, .ref d1, .ref d2, .int (nI fc)])), (d1, .inl (e1, 400, .inl fd)), (d2, .inl (e2, 400, .inl od)), (h0, .inr (0, [.ref a1, .ref a2, .ref a3, .int (nI N), .int fa])), (a1, .inl (k1, 400, .inl (pm_nf9 cn))), (a2, .inl (k2, 8000, .inl fl)), (a3, .inl (k3, 16, .inl rt))] sz) [(r0, .inr (2, [.ref h0, .ref d1, .ref d2, .int (nI fc)])), (d1, .inl (e1, 400, .inl fd)), (d2, .inl (e2, 400, .inl od)), (h0, .inr (0, [.ref a1, .ref a2, .ref a3, .int (nI N), .int fa])), (a1, .inl (k1, 400, .inl (pm_nf9 cn))), (a2, .inl (k2, 8000, .inl fl)), (a3, .inl (k3, 16, .inl rt))]) (va_A [(r0, .inr (2, [.ref h0, .ref d1, .ref d2, .int (nI fc)])), (d1, .inl (e1, 400, .inl fd)), (d2, .inl (e2, 400, .inl od)), (h0, .inr (0, [.ref a1, .ref a2, .ref a3, .int (nI N), .int fa])), (a1, .inl (k1, 400, .inl (pm_nf9 cn))), (a2, .inl (k2, 8000, .inl fl)), (a3, .inl (k3, 16, .inl rt))] sz)) 0 0 (va_A [(r0, .inr (2, [.ref h0, .ref d1, .ref d2, .int (nI fc)])), (d1, .inl (e1, 400, .inl fd)), (d2, .inl (e2, 400, .inl od)), (h0, .inr (0, [.ref a1, .ref a2, .ref a3, .int (nI N), .int fa])), (a1, .inl (k1, 400, .inl (pm_nf9 cn))), (a2, .inl (k2, 8000, .inl fl)), (a3, .inl (k3, 16, .inl rt))] sz) := by
  refine Met.ofW (cc := cX2_hasFound) (maxL := 2) (ret := (some .boolean)) (by decide) rfl ?_
  intro p e s m args below meth c s₁ B hml hv
  obtain ⟨rfl, hsz, hP, hK, hD0⟩ := hv
  have hx := B.exec
  have hb := B.bytes
  have hr := B.returns
  have hts : ∀ w ∈ gw, w.before _ s = true := fun w h => atoms_spec (ws := wsX2_hasFound) B.pre w (List.mem_cons_of_mem _ h)
  have hown : s.vm.findClass RX2 = some m.cls := findClass_of_methodNamed B.named
  have hlocks := B.notSynchronized
  subst hsz
  have hD := hD0.self (sz := s.heap.size)
  generalize hAe : va_A [(r0, .inr (2, [.ref h0, .ref d1, .ref d2, .int (nI fc)])), (d1, .inl (e1, 400, .inl fd)), (d2, .inl (e2, 400, .inl od)), (h0, .inr (0, [.ref a1, .ref a2, .ref a3, .int (nI N), .int fa])), (a1, .inl (k1, 400, .inl (pm_nf9 cn))), (a2, .inl (k2, 8000, .inl fl)), (a3, .inl (k3, 16, .inl rt))] s.heap.size = A at hD ⊢
  have hA : ∀ q : Nat, s.heap.size ≤ q → A q := fun q h => by rw [← hAe]; exact Or.inr h
  have hP : va_P (dC, dI) vwCl [(r0, .inr (2, [.ref h0, .ref d1, .ref d2, .int (nI fc)])), (d1, .inl (e1, 400, .inl fd)), (d2, .inl (e2, 400, .inl od)), (h0, .inr (0, [.ref a1, .ref a2, .ref a3, .int (nI N), .int fa])), (a1, .inl (k1, 400, .inl (pm_nf9 cn))), (a2, .inl (k2, 8000, .inl fl)), (a3, .inl (k3, 16, .inl rt))] s.heap := hP
  have hl := lv_entry ([.ref r0, .int p0]) (n := 2) (Nat.le_of_ble_eq_true rfl)
  rw [lg_entry_eq]
  generalize (lg_sl ([.ref r0, .int p0]) ++ List.replicate (2 - (lg_sl ([.ref r0, .int p0])).length) Slot.unset).toArray = ls at hl ⊢
  have hl : lv_has ls 2 [(0, .ref r0), (1, .int p0)] := hl
  obtain ⟨H, hH⟩ : ∃ H : Heap, H = s.heap := ⟨_, rfl⟩
  rw [← hH]
  rw [← hH] at hP
  have hS : va_S A s.heap H [] := by rw [hH]; exact va_S.rf
  clear hH
  refine lv_aload_n hx hb dX2_hasFound_0 rfl (lv_at hl 0 rfl) ?_
  refine va_get (D := (dC, dI)) (ci := 2) (v := .ref h0) (C := RX2) (T := TX2) (N := 4) hx hb hts iw_X2 hown hK hP 0 rfl rfl 0 (by decide) (hts _ mf_X2_9) (fun _ h9 => h9) rfl dX2_hasFound_1 ?_
  refine lv_iload_n hx hb dX2_hasFound_4 rfl (lv_at hl 1 rfl) ?_
  have hPc := hP.sub (ws' := [(h0, .inr (0, [.ref a1, .ref a2, .ref a3, .int (nI N), .int fa])), (a1, .inl (k1, 400, .inl (pm_nf9 cn))), (a2, .inl (k2, 8000, .inl fl)), (a3, .inl (k3, 16, .inl rt))]) [3, 4, 5, 6] rfl
  have hDc := hD.sub (ws' := [(h0, .inr (0, [.ref a1, .ref a2, .ref a3, .int (nI N), .int fa])), (a1, .inl (k1, 400, .inl (pm_nf9 cn))), (a2, .inl (k2, 8000, .inl fl)), (a3, .inl (k3, 16, .inl rt))]) [3, 4, 5, 6] (by decide) rfl
  have hKc := hK.sub (tys' := [(k1, .int), (k2, .int), (k3, .int)]) [2, 3, 4] rfl
  have hFc := va_free (wc := [(h0, .inr (0, [.ref a1, .ref a2, .ref a3, .int (nI N), .int fa])), (a1, .inl (k1, 400, .inl (pm_nf9 cn))), (a2, .inl (k2, 8000, .inl fl)), (a3, .inl (k3, 16, .inl rt))]) hD hS hA [3, 4, 5, 6] rfl
  refine va_calli (va_runV (As := [.int p0]) (rest := []) ⟨hx, hb, hml, hown, hts⟩ (c_H_has l dC dI h0 a1 a2 a3 k1 k2 k3 N cn fl rt fa p0 H.size) (cwV 1 hts (gw_V ml_X2_40 mi_X0_has ms_X0_has mn_X0 mc_X0_has) rfl rfl rfl (by decide +kernel) ⟨Nat.le_of_ble_eq_true rfl, Nat.le_of_ble_eq_true rfl⟩) ⟨fun a U g mk q => by obtain ⟨q0, q1, qP, qK, qD⟩ := q; exact ⟨q0, q1, qP, va_K.moved (u := U) (U := U.calling g mk a) (Vm.Alike.refl U.vm) qK, qD⟩, va_recv hKc hPc (ci := 0) (q0 := 0) rfl rfl, fun U hU hW => ⟨rfl, by rw [hU], by rw [hU]; exact hPc, va_K.moved hW.alike hKc, hDc.weaken (fun _ _ _ _ => trivial)⟩⟩ rfl rfl hl.1 rfl (lv_room (Nat.le_of_ble_eq_true rfl)) dX2_hasFound_5 ⟨Nat.le_of_ble_eq_true rfl, Nat.le_of_ble_eq_true rfl⟩) hS (fun q _ h => hFc q h) hFc (fun r_1 u t H1 locs ht hvm hw hB hz1 hk1 hS => ?_)
  obtain ⟨hP1, hK1, hD1⟩ := hB
  rw [ht] at hP1
  have hK1 := va_K.moved hvm.symm hK1
  obtain ⟨hP, hD⟩ := va_join (wr := [(r0, .inr (2, [.ref h0, .ref d1, .ref d2, .int (nI fc)])), (d1, .inl (e1, 400, .inl fd)), (d2, .inl (e2, 400, .inl od))]) (w1 := [(h0, .inr (0, [.ref a1, .ref a2, .ref a3, .int (nI N), .int fa])), (a1, .inl (k1, 400, .inl (pm_nf9 cn))), (a2, .inl (k2, 8000, .inl fl)), (a3, .inl (k3, 16, .inl rt))]) hP hD [3, 4, 5, 6] [0, 1, 2] rfl rfl (by decide) (by decide) hk1 hFc hP1 hD1
  clear hPc hDc hKc hFc hP1 hK1 hD1
  generalize H1 = H at hP hS ⊢
  have hP : va_P (dC, dI) vwCl [(r0, .inr (2, [.ref h0, .ref d1, .ref d2, .int (nI fc)])), (d1, .inl (e1, 400, .inl fd)), (d2, .inl (e2, 400, .inl od)), (h0, .inr (0, [.ref a1, .ref a2, .ref a3, .int (nI N), .int fa])), (a1, .inl (k1, 400, .inl (pm_nf9 cn))), (a2, .inl (k2, 8000, .inl fl)), (a3, .inl (k3, 16, .inl rt))] H := hP.sub [0, 1, 2, 3, 4, 5, 6] rfl
  have hD : va_D A [(r0, .inr (2, [.ref h0, .ref d1, .ref d2, .int (nI fc)])), (d1, .inl (e1, 400, .inl fd)), (d2, .inl (e2, 400, .inl od)), (h0, .inr (0, [.ref a1, .ref a2, .ref a3, .int (nI N), .int fa])), (a1, .inl (k1, 400, .inl (pm_nf9 cn))), (a2, .inl (k2, 8000, .inl fl)), (a3, .inl (k3, 16, .inl rt))] := hD.sub [0, 1, 2, 3, 4, 5, 6] (by decide) rfl
  rcases pm_tf (pm_has N p0) with hh_5 | hh_5
  · obtain rfl : r_1 = nI 1 := hw.trans (by rw [hh_5]; rfl)
    refine lv_if_eq (tgt := 24) hx hb dX2_hasFound_8 (by decide) (fun c_8 => absurd c_8 (by decide +kernel)) (fun c_8 => ?_)
    refine lv_aload_n hx hb dX2_hasFound_11 rfl (lv_at hl 0 rfl) ?_
    refine va_get (D := (dC, dI)) (ci := 2) (v := .ref d1) (C := RX2) (T := TX2) (N := 4) hx hb hts iw_X2 hown hK hP 0 rfl rfl 1 (by decide) (hts _ mf_X2_15) (fun _ h9 => h9) rfl dX2_hasFound_12 ?_
    refine lv_iload_n hx hb dX2_hasFound_15 rfl (lv_at hl 1 rfl) ?_
    refine va_zald hx hb hK hP 1 0 rfl rfl (pm_has_in hN (by omega) hh_5) dX2_hasFound_16 ?_
    refine lv_topi (fun x_2 ex_2 => ?_)
    subst ex_2
    refine lv_if_eq (tgt := 24) hx hb dX2_hasFound_17 (by decide) (fun c_17 => ?_) (fun c_17 => ?_)
    · refine lv_iconst (v := nI 0) hx hb dX2_hasFound_24 (by decide +kernel) ?_
      exact W.zret (v := nI 0) hx hb hr (by decide +kernel) (fun t ht hW => ⟨⟨nI 0, (), rfl, pm_hm2 hh_5 c_17, by rw [ht]; exact hP, va_K.moved hW.alike hK, hD⟩, hS.F ht⟩) hS.2.2 dX2_hasFound_25
    · refine lv_iconst (v := nI 1) hx hb dX2_hasFound_20 (by decide +kernel) ?_
      refine lv_goto (tgt := 25) hx hb dX2_hasFound_21 (by decide) ?_
      exact W.zret (v := nI 1) hx hb hr (by decide +kernel) (fun t ht hW => ⟨⟨nI 1, (), rfl, pm_hm3 hh_5 c_17, by rw [ht]; exact hP, va_K.moved hW.alike hK, hD⟩, hS.F ht⟩) hS.2.2 dX2_hasFound_25
  · obtain rfl : r_1 = nI 0 := hw.trans (by rw [hh_5]; rfl)
    refine lv_if_eq (tgt := 24) hx hb dX2_hasFound_8 (by decide) (fun c_8 => ?_) (fun c_8 => absurd c_8 (by decide +kernel))
    refine lv_iconst (v := nI 0) hx hb dX2_hasFound_24 (by decide +kernel) ?_
    exact W.zret (v := nI 0) hx hb hr (by decide +kernel) (fun t ht hW => ⟨⟨nI 0, (), rfl, pm_hm1 hh_5, by rw [ht]; exact hP, va_K.moved hW.alike hK, hD⟩, hS.F ht⟩) hS.2.2 dX2_hasFound_25

set_option maxHeartbeats 4000000 in
set_option maxRecDepth 100000 in
/-- Reach.countOfFound() -/
theorem c_R_countOfFound (l : Launch) (dC : Nat → ClassId) (dI : Nat → Nat → Nat) (r0 d1 d2 : Nat) (e1 e2 : ClassId) (fd od : Nat → Int32) (fc : Nat) (h0 a1 a2 a3 : Nat) (k1 k2 k3 : ClassId) (N : Nat) (cn : Nat → Nat) (fl rt : Nat → Int32) (fa : Int32) (sz : Nat)  : Met l yX2_countOfFound wsX2_countOfFound ({ frames := 0, cells := 0, slots := 0, locals := 0 }) (va_Pc [.ref r0] (fun U => U.heap.size = sz ∧ va_P (dC, dI) vwCl [(r0, .inr (2, [.ref h0, .ref d1, .ref d2, .int (nI fc)])), (d1, .inl (e1, 400, .inl fd)), (d2, .inl (e2, 400, .inl od)), (h0, .inr (0, [.ref a1, .ref a2, .ref a3, .int (nI N), .int fa])), (a1, .inl (k1, 400, .inl (pm_nf9 cn))), (a2, .inl (k2, 8000, .inl fl)), (a3, .inl (k3, 16, .inl rt))] U.heap ∧ va_K (dC, dI) vwCl [(e1, .boolean), (e2, .int), (k1, .int), (k2, .int), (k3, .int)] U ∧ va_D (fun _ => True) [(r0, .inr (2, [.ref h0, .ref d1, .ref d2, .int (nI fc)])), (d1, .inl (e1, 400, .inl fd)), (d2, .inl (e2, 400, .inl od)), (h0, .inr (0, [.ref a1, .ref a2, .ref a3, .int (nI N), .int fa])), (a1, .inl (k1, 400, .inl (pm_nf9 cn))), (a2, .inl (k2, 8000, .inl fl)), (a3, .inl (k3, 16, .inl rt))])) (va_Qi (fun (r : Int32) (_ : Unit) => r = nI fc) (fun (_ : Unit) (t : State) => va_P (dC, dI) vwCl [(r0, .inr (2, [.ref h0, .ref d1, .ref d2, .int (nI fc)])), (d1, .inl (e1, 400, .inl fd)), (d2, .inl (e2, 400, .inl od)), (h0, .inr (0, [.ref a1, .ref a2, .ref a3, .int (nI N), .int fa])), (a1, .inl (k1, 400, .inl (pm_nf9 cn))), (a2, .inl (k2, 8000, .inl fl)), (a3, .inl (k3, 16, .inl rt))] t.heap ∧ va_K (dC, dI) vwCl [(e1, .boolean), (e2, .int), (k1, .int), (k2, .int), (k3, .int)] t ∧ va_D (va_A [(r0, .inr (2, [.ref h0, .ref d1, .ref d2, .int (nI fc)])), (d1, .inl (e1, 400, .inl fd)), (d2, .inl (e2, 400, .inl od)), (h0, .inr (0, [.ref a1, .ref a2, .ref a3, .int (nI N), .int fa])), (a1, .inl (k1, 400, .inl (pm_nf9 cn))), (a2, .inl (k2, 8000, .inl fl)), (a3, .inl (k3, 16, .inl rt))] sz) [(r0, .inr (2, [.ref h0, .ref d1, .ref d2, .int (nI fc)])), (d1, .inl (e1, 400, .inl fd)), (d2, .inl (e2, 400, .inl od)), (h0, .inr (0, [.ref a1, .ref a2, .ref a3, .int (nI N), .int fa])), (a1, .inl (k1, 400, .inl (pm_nf9 cn))), (a2, .inl (k2, 8000, .inl fl)), (a3, .inl (k3, 16, .inl rt))]) (va_A [(r0, .inr (2, [.ref h0, .ref d1, .ref d2, .int (nI fc)])), (d1, .inl (e1, 400, .inl fd)), (d2, .inl (e2, 400, .inl od)), (h0, .inr (0, [.ref a1, .ref a2, .ref a3, .int (nI N), .int fa])), (a1, .inl (k1, 400, .inl (pm_nf9 cn))), (a2, .inl (k2, 8000, .inl fl)), (a3, .inl (k3, 16, .inl rt))] sz)) 0 0 (va_A [(r0, .inr (2, [.ref h0, .ref d1, .ref d2, .int (nI fc)])), (d1, .inl (e1, 400, .inl fd)), (d2, .inl (e2, 400, .inl od)), (h0, .inr (0, [.ref a1, .ref a2, .ref a3, .int (nI N), .int fa])), (a1, .inl (k1, 400, .inl (pm_nf9 cn))), (a2, .inl (k2, 8000, .inl fl)), (a3, .inl (k3, 16, .inl rt))] sz) := by
  refine Met.ofW (cc := cX2_countOfFound) (maxL := 1) (ret := (some .int)) (by decide) rfl ?_
  intro p e s m args below meth c s₁ B hml hv
  obtain ⟨rfl, hsz, hP, hK, hD0⟩ := hv
  have hx := B.exec
  have hb := B.bytes
  have hr := B.returns
  have hts : ∀ w ∈ gw, w.before _ s = true := fun w h => atoms_spec (ws := wsX2_countOfFound) B.pre w (List.mem_cons_of_mem _ h)
  have hown : s.vm.findClass RX2 = some m.cls := findClass_of_methodNamed B.named
  have hlocks := B.notSynchronized
  subst hsz
  have hD := hD0.self (sz := s.heap.size)
  generalize hAe : va_A [(r0, .inr (2, [.ref h0, .ref d1, .ref d2, .int (nI fc)])), (d1, .inl (e1, 400, .inl fd)), (d2, .inl (e2, 400, .inl od)), (h0, .inr (0, [.ref a1, .ref a2, .ref a3, .int (nI N), .int fa])), (a1, .inl (k1, 400, .inl (pm_nf9 cn))), (a2, .inl (k2, 8000, .inl fl)), (a3, .inl (k3, 16, .inl rt))] s.heap.size = A at hD ⊢
  have hA : ∀ q : Nat, s.heap.size ≤ q → A q := fun q h => by rw [← hAe]; exact Or.inr h
  have hP : va_P (dC, dI) vwCl [(r0, .inr (2, [.ref h0, .ref d1, .ref d2, .int (nI fc)])), (d1, .inl (e1, 400, .inl fd)), (d2, .inl (e2, 400, .inl od)), (h0, .inr (0, [.ref a1, .ref a2, .ref a3, .int (nI N), .int fa])), (a1, .inl (k1, 400, .inl (pm_nf9 cn))), (a2, .inl (k2, 8000, .inl fl)), (a3, .inl (k3, 16, .inl rt))] s.heap := hP
  have hl := lv_entry ([.ref r0]) (n := 1) (Nat.le_of_ble_eq_true rfl)
  rw [lg_entry_eq]
  generalize (lg_sl ([.ref r0]) ++ List.replicate (1 - (lg_sl ([.ref r0])).length) Slot.unset).toArray = ls at hl ⊢
  have hl : lv_has ls 1 [(0, .ref r0)] := hl
  obtain ⟨H, hH⟩ : ∃ H : Heap, H = s.heap := ⟨_, rfl⟩
  rw [← hH]
  rw [← hH] at hP
  have hS : va_S A s.heap H [] := by rw [hH]; exact va_S.rf
  clear hH
  refine lv_aload_n hx hb dX2_countOfFound_0 rfl (lv_at hl 0 rfl) ?_
  refine va_get (D := (dC, dI)) (ci := 2) (v := .int (nI fc)) (C := RX2) (T := TX2) (N := 4) hx hb hts iw_X2 hown hK hP 0 rfl rfl 3 (by decide) (hts _ mf_X2_23) (fun _ h9 => h9) rfl dX2_countOfFound_1 ?_
  exact W.iret (v := nI fc) hx hb hr (fun t ht hW => ⟨⟨nI fc, (), rfl, rfl, by rw [ht]; exact hP, va_K.moved hW.alike hK, hD⟩, hS.F ht⟩) hS.2.2 dX2_countOfFound_4
