set_option maxHeartbeats 4000000 in
set_option maxRecDepth 100000 in
/-- Heap() -/
theorem c_H_init (l : Launch) (dC : Nat → ClassId) (dI : Nat → Nat → Nat) (h0 : Nat) (sz : Nat)  : Met l yX0_init wsX0_init ({ frames := 1, cells := 3, slots := 8416, locals := 12 }) (va_Pc [.ref h0] (fun U => U.heap.size = sz ∧ va_P (dC, dI) vwCl [(h0, .inr (0, [.null, .null, .null, .int 0, .int 0]))] U.heap ∧ va_K (dC, dI) vwCl [] U ∧ va_D (fun _ => True) [(h0, .inr (0, [.null, .null, .null, .int 0, .int 0]))])) (va_Qv (fun (_ : Unit) => True) (fun (_ : Unit) (t : State) => ∃ (a1 a2 a3 : Nat) (k1 k2 k3 : ClassId), va_P (dC, dI) vwCl [(h0, .inr (0, [.ref a1, .ref a2, .ref a3, .int (nI 0), .int (nI 0)])), (a1, .inl (k1, 400, .inl (pm_nf9 ((fun _ => 0))))), (a2, .inl (k2, 8000, .inl ((fun _ => 0)))), (a3, .inl (k3, 16, .inl (pm_fill (fun _ => 0) 0 16)))] t.heap ∧ va_K (dC, dI) vwCl [(k1, .int), (k2, .int), (k3, .int)] t ∧ va_D (va_A [(h0, .inr (0, [.null, .null, .null, .int 0, .int 0]))] sz) [(h0, .inr (0, [.ref a1, .ref a2, .ref a3, .int (nI 0), .int (nI 0)])), (a1, .inl (k1, 400, .inl (pm_nf9 ((fun _ => 0))))), (a2, .inl (k2, 8000, .inl ((fun _ => 0)))), (a3, .inl (k3, 16, .inl (pm_fill (fun _ => 0) 0 16)))]) (va_A [(h0, .inr (0, [.null, .null, .null, .int 0, .int 0]))] sz)) 3 8416 (va_A [(h0, .inr (0, [.null, .null, .null, .int 0, .int 0]))] sz) := by
  refine Met.ofW (cc := cX0_init) (maxL := 2) (ret := (none)) (by decide) rfl ?_
  intro p e s m args below meth c s₁ B hml hv
  obtain ⟨rfl, hsz, hP, hK, hD0⟩ := hv
  have hx := B.exec
  have hb := B.bytes
  have hr := B.returns
  have hts : ∀ w ∈ gw, w.before _ s = true := fun w h => atoms_spec (ws := wsX0_init) B.pre w (List.mem_cons_of_mem _ h)
  have hown : s.vm.findClass RX0 = some m.cls := findClass_of_methodNamed B.named
  have hlocks := B.notSynchronized
  have hin : meth.name = "<init>" := (name_of_methodNamed B.named B.method).1
  subst hsz
  have hD := hD0.self (sz := s.heap.size)
  generalize hAe : va_A [(h0, .inr (0, [.null, .null, .null, .int 0, .int 0]))] s.heap.size = A at hD ⊢
  have hA : ∀ q : Nat, s.heap.size ≤ q → A q := fun q h => by rw [← hAe]; exact Or.inr h
  have hP : va_P (dC, dI) vwCl [(h0, .inr (0, [.null, .null, .null, .int 0, .int 0]))] s.heap := hP
  have hl := lv_entry ([.ref h0]) (n := 2) (Nat.le_of_ble_eq_true rfl)
  rw [lg_entry_eq]
  generalize (lg_sl ([.ref h0]) ++ List.replicate (2 - (lg_sl ([.ref h0])).length) Slot.unset).toArray = ls at hl ⊢
  have hl : lv_has ls 2 [(0, .ref h0)] := hl
  obtain ⟨H, hH⟩ : ∃ H : Heap, H = s.heap := ⟨_, rfl⟩
  rw [← hH]
  rw [← hH] at hP
  have hS : va_S A s.heap H [] := by rw [hH]; exact va_S.rf
  clear hH
  refine lv_aload_n hx hb dX0_init_0 rfl (lv_at hl 0 rfl) ?_
  refine W.objInit hx hb hown (hts _ ml_X0_3) (hts _ mi_obj) (hts _ mc_obj) rfl (by rw [hml]; exact hl.1) rfl dX0_init_1 (Nat.le_of_ble_eq_true rfl) (Nat.le_of_ble_eq_true rfl) ?_
  refine W.eq (g2 := F0 m 4 ls []) rfl ?_
  refine lv_aload_n hx hb dX0_init_4 rfl (lv_at hl 0 rfl) ?_
  refine lv_sipush (v := nI 400) hx hb dX0_init_5 (by decide +kernel) ?_
  refine va_newa (atype := .int) (ty := .int) (N' := 400) (a0 := (400, .inl (pm_nf9 (fun _ => 0)))) hx hb (hts _ ma_int) rfl hK hP hD hS hA (fun _ => rfl) (nI_pos (by decide)) (nI_clamp (by decide)) (by decide) (Nat.le_of_ble_eq_true rfl) (Nat.le_of_ble_eq_true rfl) dX0_init_8 (fun a1 k1 H hK hP hD hS => ?_)
  have hP : va_P (dC, dI) vwCl [(h0, .inr (0, [.null, .null, .null, .int 0, .int 0])), (a1, .inl (k1, 400, .inl (pm_nf9 (fun _ => 0))))] H := hP
  have hD : va_D A [(h0, .inr (0, [.null, .null, .null, .int 0, .int 0])), (a1, .inl (k1, 400, .inl (pm_nf9 (fun _ => 0))))] := hD
  have hK : va_K (dC, dI) vwCl [(k1, .int)] s := hK
  refine W.widen (k := 1) (n := 400) (by omega) (by omega) ?_
  refine va_putF (D := (dC, dI)) (ci := 0) (v := .ref a1) (ty := .array .int) (C := RX0) (T := TX0) (N := 5) hx hb hts iw_X0 tyX0 tyX0_ok nmX0 hown hK hP hD hS 0 rfl rfl 0 (by decide) (hts _ mf_X0_9) (fun _ h9 => h9) rfl hin rfl (by decide +kernel) (rfl) (rfl) (Nat.le_of_ble_eq_true rfl) dX0_init_10 (fun H locs hP hD hS => ?_)
  have hP : va_P (dC, dI) vwCl [(h0, .inr (0, [.ref a1, .null, .null, .int 0, .int 0])), (a1, .inl (k1, 400, .inl (pm_nf9 (fun _ => 0))))] H := hP
  have hD : va_D A [(h0, .inr (0, [.ref a1, .null, .null, .int 0, .int 0])), (a1, .inl (k1, 400, .inl (pm_nf9 (fun _ => 0))))] := hD
  refine lv_aload_n hx hb dX0_init_13 rfl (lv_at hl 0 rfl) ?_
  refine lv_sipush (v := nI 8000) hx hb dX0_init_14 (by decide +kernel) ?_
  refine va_newa (atype := .int) (ty := .int) (N' := 8000) (a0 := (8000, .inl (fun _ => 0))) hx hb (hts _ ma_int) rfl hK hP hD hS hA (fun _ => rfl) (nI_pos (by decide)) (nI_clamp (by decide)) (by decide) (Nat.le_of_ble_eq_true rfl) (Nat.le_of_ble_eq_true rfl) dX0_init_17 (fun a2 k2 H hK hP hD hS => ?_)
  have hP : va_P (dC, dI) vwCl [(h0, .inr (0, [.ref a1, .null, .null, .int 0, .int 0])), (a1, .inl (k1, 400, .inl (pm_nf9 (fun _ => 0)))), (a2, .inl (k2, 8000, .inl (fun _ => 0)))] H := hP
  have hD : va_D A [(h0, .inr (0, [.ref a1, .null, .null, .int 0, .int 0])), (a1, .inl (k1, 400, .inl (pm_nf9 (fun _ => 0)))), (a2, .inl (k2, 8000, .inl (fun _ => 0)))] := hD
  have hK : va_K (dC, dI) vwCl [(k1, .int), (k2, .int)] s := hK
  refine W.widen (k := 2) (n := 8400) (by omega) (by omega) ?_
  refine va_putF (D := (dC, dI)) (ci := 0) (v := .ref a2) (ty := .array .int) (C := RX0) (T := TX0) (N := 5) hx hb hts iw_X0 tyX0 tyX0_ok nmX0 hown hK hP hD hS 0 rfl rfl 1 (by decide) (hts _ mf_X0_15) (fun _ h9 => h9) rfl hin rfl (by decide +kernel) (rfl) (rfl) (Nat.le_of_ble_eq_true rfl) dX0_init_19 (fun H locs hP hD hS => ?_)
  have hP : va_P (dC, dI) vwCl [(h0, .inr (0, [.ref a1, .ref a2, .null, .int 0, .int 0])), (a1, .inl (k1, 400, .inl (pm_nf9 (fun _ => 0)))), (a2, .inl (k2, 8000, .inl (fun _ => 0)))] H := hP
  have hD : va_D A [(h0, .inr (0, [.ref a1, .ref a2, .null, .int 0, .int 0])), (a1, .inl (k1, 400, .inl (pm_nf9 (fun _ => 0)))), (a2, .inl (k2, 8000, .inl (fun _ => 0)))] := hD
  refine lv_aload_n hx hb dX0_init_22 rfl (lv_at hl 0 rfl) ?_
  refine lv_bipush (v := nI 16) hx hb dX0_init_23 (by decide +kernel) ?_
  refine va_newa (atype := .int) (ty := .int) (N' := 16) (a0 := (16, .inl (fun _ => 0))) hx hb (hts _ ma_int) rfl hK hP hD hS hA (fun _ => rfl) (nI_pos (by decide)) (nI_clamp (by decide)) (by decide) (Nat.le_of_ble_eq_true rfl) (Nat.le_of_ble_eq_true rfl) dX0_init_25 (fun a3 k3 H hK hP hD hS => ?_)
  have hP : va_P (dC, dI) vwCl [(h0, .inr (0, [.ref a1, .ref a2, .null, .int 0, .int 0])), (a1, .inl (k1, 400, .inl (pm_nf9 (fun _ => 0)))), (a2, .inl (k2, 8000, .inl (fun _ => 0))), (a3, .inl (k3, 16, .inl (fun _ => 0)))] H := hP
  have hD : va_D A [(h0, .inr (0, [.ref a1, .ref a2, .null, .int 0, .int 0])), (a1, .inl (k1, 400, .inl (pm_nf9 (fun _ => 0)))), (a2, .inl (k2, 8000, .inl (fun _ => 0))), (a3, .inl (k3, 16, .inl (fun _ => 0)))] := hD
  have hK : va_K (dC, dI) vwCl [(k1, .int), (k2, .int), (k3, .int)] s := hK
  refine W.widen (k := 3) (n := 8416) (by omega) (by omega) ?_
  refine va_putF (D := (dC, dI)) (ci := 0) (v := .ref a3) (ty := .array .int) (C := RX0) (T := TX0) (N := 5) hx hb hts iw_X0 tyX0 tyX0_ok nmX0 hown hK hP hD hS 0 rfl rfl 2 (by decide) (hts _ mf_X0_18) (fun _ h9 => h9) rfl hin rfl (by decide +kernel) (rfl) (rfl) (Nat.le_of_ble_eq_true rfl) dX0_init_27 (fun H locs hP hD hS => ?_)
  have hP : va_P (dC, dI) vwCl [(h0, .inr (0, [.ref a1, .ref a2, .ref a3, .int 0, .int 0])), (a1, .inl (k1, 400, .inl (pm_nf9 (fun _ => 0)))), (a2, .inl (k2, 8000, .inl (fun _ => 0))), (a3, .inl (k3, 16, .inl (fun _ => 0)))] H := hP
  have hD : va_D A [(h0, .inr (0, [.ref a1, .ref a2, .ref a3, .int 0, .int 0])), (a1, .inl (k1, 400, .inl (pm_nf9 (fun _ => 0)))), (a2, .inl (k2, 8000, .inl (fun _ => 0))), (a3, .inl (k3, 16, .inl (fun _ => 0)))] := hD
  refine lv_aload_n hx hb dX0_init_30 rfl (lv_at hl 0 rfl) ?_
  refine lv_iconst (v := nI 0) hx hb dX0_init_31 (by decide +kernel) ?_
  refine va_put (D := (dC, dI)) (ci := 0) (v := .int (nI 0)) (ty := .int) (C := RX0) (T := TX0) (N := 5) hx hb hts iw_X0 tyX0 tyX0_ok nmX0 hown hK hP hD hS 0 rfl rfl 3 (by decide) (hts _ mf_X0_21) (fun _ h9 => h9) rfl (by decide +kernel) (rfl) (rfl) (Nat.le_of_ble_eq_true rfl) dX0_init_32 (fun H locs hP hD hS => ?_)
  have hP : va_P (dC, dI) vwCl [(h0, .inr (0, [.ref a1, .ref a2, .ref a3, .int (nI 0), .int 0])), (a1, .inl (k1, 400, .inl (pm_nf9 (fun _ => 0)))), (a2, .inl (k2, 8000, .inl (fun _ => 0))), (a3, .inl (k3, 16, .inl (fun _ => 0)))] H := hP
  have hD : va_D A [(h0, .inr (0, [.ref a1, .ref a2, .ref a3, .int (nI 0), .int 0])), (a1, .inl (k1, 400, .inl (pm_nf9 (fun _ => 0)))), (a2, .inl (k2, 8000, .inl (fun _ => 0))), (a3, .inl (k3, 16, .inl (fun _ => 0)))] := hD
  refine lv_aload_n hx hb dX0_init_35 rfl (lv_at hl 0 rfl) ?_
  refine lv_iconst (v := nI 0) hx hb dX0_init_36 (by decide +kernel) ?_
  refine va_put (D := (dC, dI)) (ci := 0) (v := .int (nI 0)) (ty := .int) (C := RX0) (T := TX0) (N := 5) hx hb hts iw_X0 tyX0 tyX0_ok nmX0 hown hK hP hD hS 0 rfl rfl 4 (by decide) (hts _ mf_X0_25) (fun _ h9 => h9) rfl (by decide +kernel) (rfl) (rfl) (Nat.le_of_ble_eq_true rfl) dX0_init_37 (fun H locs hP hD hS => ?_)
  have hP : va_P (dC, dI) vwCl [(h0, .inr (0, [.ref a1, .ref a2, .ref a3, .int (nI 0), .int (nI 0)])), (a1, .inl (k1, 400, .inl (pm_nf9 (fun _ => 0)))), (a2, .inl (k2, 8000, .inl (fun _ => 0))), (a3, .inl (k3, 16, .inl (fun _ => 0)))] H := hP
  have hD : va_D A [(h0, .inr (0, [.ref a1, .ref a2, .ref a3, .int (nI 0), .int (nI 0)])), (a1, .inl (k1, 400, .inl (pm_nf9 (fun _ => 0)))), (a2, .inl (k2, 8000, .inl (fun _ => 0))), (a3, .inl (k3, 16, .inl (fun _ => 0)))] := hD
  refine lv_iconst (v := nI 0) hx hb dX0_init_40 (by decide +kernel) ?_
  refine lv_istore_n (lv' := [(1, .int (nI 0)), (0, .ref h0)]) hx hb dX0_init_41 rfl hl (by decide) rfl (fun ls hl => ?_)
  have hP : va_P (dC, dI) vwCl [(h0, .inr (0, [.ref a1, .ref a2, .ref a3, .int (nI 0), .int (nI 0)])), (a1, .inl (k1, 400, .inl (pm_nf9 ((fun _ => 0))))), (a2, .inl (k2, 8000, .inl (fun _ => 0))), (a3, .inl (k3, 16, .inl (pm_fill (fun _ => 0) 0 0)))] H := by rw [pm_fill_0]; exact hP
  have hD : va_D A [(h0, .inr (0, [.ref a1, .ref a2, .ref a3, .int (nI 0), .int (nI 0)])), (a1, .inl (k1, 400, .inl (pm_nf9 ((fun _ => 0))))), (a2, .inl (k2, 8000, .inl (fun _ => 0))), (a3, .inl (k3, 16, .inl (pm_fill (fun _ => 0) 0 0)))] := by rw [pm_fill_0]; exact hD
  refine lp_loop (σ := Nat) (head := 42) (fun i H locs ls => i ≤ 16 ∧ va_P (dC, dI) vwCl [(h0, .inr (0, [.ref a1, .ref a2, .ref a3, .int (nI 0), .int (nI 0)])), (a1, .inl (k1, 400, .inl (pm_nf9 ((fun _ => 0))))), (a2, .inl (k2, 8000, .inl (fun _ => 0))), (a3, .inl (k3, 16, .inl (pm_fill (fun _ => 0) 0 i)))] H ∧ va_D A [(h0, .inr (0, [.ref a1, .ref a2, .ref a3, .int (nI 0), .int (nI 0)])), (a1, .inl (k1, 400, .inl (pm_nf9 ((fun _ => 0))))), (a2, .inl (k2, 8000, .inl (fun _ => 0))), (a3, .inl (k3, 16, .inl (pm_fill (fun _ => 0) 0 i)))] ∧ va_S A s.heap H locs ∧ lv_has ls 2 [(1, .int (nI i)), (0, .ref h0)]) (fun i => 16 - i) ?_ 0 _ _ _ ⟨Nat.zero_le _, hP, hD, hS, lv_sub hl [0, 1] rfl⟩
  intro x H locs ls hI ih
  obtain ⟨i, rfl⟩ : ∃ y, y = x := ⟨x, rfl⟩
  obtain ⟨hi, hP, hD, hS, hl⟩ := hI
  refine lv_iload_n hx hb dX0_init_42 rfl (lv_at hl 0 rfl) ?_
  refine lv_bipush (v := nI 16) hx hb dX0_init_43 (by decide +kernel) ?_
  refine lv_icmp_ge (tgt := 61) hx hb dX0_init_45 (by decide) (fun c_45 => ?_) (fun c_45 => ?_)
  · rw [nI_leI (by omega) (by omega)] at c_45
    obtain rfl : i = 16 := by omega
    exact W.vret hx hb hr (fun t ht hW => ⟨⟨(), rfl, trivial, a1, a2, a3, k1, k2, k3, by rw [ht]; exact hP, va_K.moved hW.alike hK, hD⟩, hS.F ht⟩) hS.2.2 dX0_init_61
  · rw [nI_leI (by omega) (by omega)] at c_45
    refine lv_aload_n hx hb dX0_init_48 rfl (lv_at hl 1 rfl) ?_
    refine va_get (D := (dC, dI)) (ci := 0) (v := .ref a3) (C := RX0) (T := TX0) (N := 5) hx hb hts iw_X0 hown hK hP 0 rfl rfl 2 (by decide) (hts _ mf_X0_18) (fun _ h9 => h9) rfl dX0_init_49 ?_
    refine lv_iload_n hx hb dX0_init_52 rfl (lv_at hl 0 rfl) ?_
    refine lv_iconst (v := -1) hx hb dX0_init_53 (by decide +kernel) ?_
    refine va_iast hx hb hK hP hD hS 3 2 rfl rfl (vp_in_nI (by omega) (by omega)) dX0_init_54 (fun H locs hP hD hS => ?_)
    rw [nI_clamp (by omega)] at hP hD
    have hP : va_P (dC, dI) vwCl [(h0, .inr (0, [.ref a1, .ref a2, .ref a3, .int (nI 0), .int (nI 0)])), (a1, .inl (k1, 400, .inl (pm_nf9 ((fun _ => 0))))), (a2, .inl (k2, 8000, .inl (fun _ => 0))), (a3, .inl (k3, 16, .inl (upd (pm_fill (fun _ => 0) 0 i) i (-1))))] H := hP
    have hD : va_D A [(h0, .inr (0, [.ref a1, .ref a2, .ref a3, .int (nI 0), .int (nI 0)])), (a1, .inl (k1, 400, .inl (pm_nf9 ((fun _ => 0))))), (a2, .inl (k2, 8000, .inl (fun _ => 0))), (a3, .inl (k3, 16, .inl (upd (pm_fill (fun _ => 0) 0 i) i (-1))))] := hD
    rw [show upd (pm_fill (fun _ => 0) 0 i) i (-1) = pm_fill (fun _ => 0) 0 (i + 1) from by have q := pm_fill_s (fun _ => 0) 0 i; rw [Nat.zero_add] at q; exact q] at hP hD
    refine lv_iinc (v := nI (i + 1)) (lv' := [(1, .int (nI (i + 1))), (0, .ref h0)]) hx hb dX0_init_55 hl (k := 0) rfl (nI_1 _) (by decide) rfl (fun ls hl => ?_)
    refine lv_goto (tgt := 42) hx hb dX0_init_58 (by decide) ?_
    exact ih (i + 1) _ _ _ ⟨by omega, hP, hD, hS, lv_sub hl [0, 1] rfl⟩ (by omega)

set_option maxHeartbeats 4000000 in
set_option maxRecDepth 100000 in
/-- Marker(heap) -/
theorem c_M_init (l : Launch) (dC : Nat → ClassId) (dI : Nat → Nat → Nat) (m0 h0 : Nat) (sz : Nat)  : Met l yX1_init wsX1_init ({ frames := 1, cells := 3, slots := 864, locals := 12 }) (va_Pc [.ref m0, .ref h0] (fun U => U.heap.size = sz ∧ va_P (dC, dI) vwCl [(m0, .inr (1, [.null, .null, .null, .null, .int 0, .int 0, .int 0, .int 0, .int 0]))] U.heap ∧ va_K (dC, dI) vwCl [] U ∧ va_D (fun _ => True) [(m0, .inr (1, [.null, .null, .null, .null, .int 0, .int 0, .int 0, .int 0, .int 0]))])) (va_Qv (fun (_ : Unit) => True) (fun (_ : Unit) (t : State) => ∃ (b1 b2 b3 : Nat) (g1 g2 g3 : ClassId), va_P (dC, dI) vwCl [(m0, .inr (1, [.ref h0, .ref b1, .ref b2, .ref b3, .int (nI 8), .int (nI 0), .int (nI 0), .int (nI 400), .int (nI 400)])), (b1, .inl (g1, 400, .inl (fun _ => 0))), (b2, .inl (g2, 400, .inl (fun _ => 0))), (b3, .inl (g3, 64, .inl (fun _ => 0)))] t.heap ∧ va_K (dC, dI) vwCl [(g1, .boolean), (g2, .boolean), (g3, .int)] t ∧ va_D (va_A [(m0, .inr (1, [.null, .null, .null, .null, .int 0, .int 0, .int 0, .int 0, .int 0]))] sz) [(m0, .inr (1, [.ref h0, .ref b1, .ref b2, .ref b3, .int (nI 8), .int (nI 0), .int (nI 0), .int (nI 400), .int (nI 400)])), (b1, .inl (g1, 400, .inl (fun _ => 0))), (b2, .inl (g2, 400, .inl (fun _ => 0))), (b3, .inl (g3, 64, .inl (fun _ => 0)))]) (va_A [(m0, .inr (1, [.null, .null, .null, .null, .int 0, .int 0, .int 0, .int 0, .int 0]))] sz)) 3 864 (va_A [(m0, .inr (1, [.null, .null, .null, .null, .int 0, .int 0, .int 0, .int 0, .int 0]))] sz) := by
  refine Met.ofW (cc := cX1_init) (maxL := 2) (ret := (none)) (by decide) rfl ?_
  intro p e s m args below meth c s₁ B hml hv
  obtain ⟨rfl, hsz, hP, hK, hD0⟩ := hv
  have hx := B.exec
  have hb := B.bytes
  have hr := B.returns
  have hts : ∀ w ∈ gw, w.before _ s = true := fun w h => atoms_spec (ws := wsX1_init) B.pre w (List.mem_cons_of_mem _ h)
  have hown : s.vm.findClass RX1 = some m.cls := findClass_of_methodNamed B.named
  have hlocks := B.notSynchronized
  have hin : meth.name = "<init>" := (name_of_methodNamed B.named B.method).1
  subst hsz
  have hD := hD0.self (sz := s.heap.size)
  generalize hAe : va_A [(m0, .inr (1, [.null, .null, .null, .null, .int 0, .int 0, .int 0, .int 0, .int 0]))] s.heap.size = A at hD ⊢
  have hA : ∀ q : Nat, s.heap.size ≤ q → A q := fun q h => by rw [← hAe]; exact Or.inr h
  have hP : va_P (dC, dI) vwCl [(m0, .inr (1, [.null, .null, .null, .null, .int 0, .int 0, .int 0, .int 0, .int 0]))] s.heap := hP
  have hl := lv_entry ([.ref m0, .ref h0]) (n := 2) (Nat.le_of_ble_eq_true rfl)
  rw [lg_entry_eq]
  generalize (lg_sl ([.ref m0, .ref h0]) ++ List.replicate (2 - (lg_sl ([.ref m0, .ref h0])).length) Slot.unset).toArray = ls at hl ⊢
  have hl : lv_has ls 2 [(0, .ref m0), (1, .ref h0)] := hl
  obtain ⟨H, hH⟩ : ∃ H : Heap, H = s.heap := ⟨_, rfl⟩
  rw [← hH]
  rw [← hH] at hP
  have hS : va_S A s.heap H [] := by rw [hH]; exact va_S.rf
  clear hH
  refine lv_aload_n hx hb dX1_init_0 rfl (lv_at hl 0 rfl) ?_
  refine W.objInit hx hb hown (hts _ ml_X1_3) (hts _ mi_obj) (hts _ mc_obj) rfl (by rw [hml]; exact hl.1) rfl dX1_init_1 (Nat.le_of_ble_eq_true rfl) (Nat.le_of_ble_eq_true rfl) ?_
  refine W.eq (g2 := F0 m 4 ls []) rfl ?_
  refine lv_aload_n hx hb dX1_init_4 rfl (lv_at hl 0 rfl) ?_
  refine lv_aload_n hx hb dX1_init_5 rfl (lv_at hl 1 rfl) ?_
  refine va_putF (D := (dC, dI)) (ci := 1) (v := .ref h0) (ty := .object "PileMarker$Heap") (C := RX1) (T := TX1) (N := 9) hx hb hts iw_X1 tyX1 tyX1_ok nmX1 hown hK hP hD hS 0 rfl rfl 0 (by decide) (hts _ mf_X1_9) (fun _ h9 => h9) rfl hin rfl (by decide +kernel) (rfl) (rfl) (Nat.le_of_ble_eq_true rfl) dX1_init_6 (fun H locs hP hD hS => ?_)
  have hP : va_P (dC, dI) vwCl [(m0, .inr (1, [.ref h0, .null, .null, .null, .int 0, .int 0, .int 0, .int 0, .int 0]))] H := hP
  have hD : va_D A [(m0, .inr (1, [.ref h0, .null, .null, .null, .int 0, .int 0, .int 0, .int 0, .int 0]))] := hD
  refine lv_aload_n hx hb dX1_init_9 rfl (lv_at hl 0 rfl) ?_
  refine lv_sipush (v := nI 400) hx hb dX1_init_10 (by decide +kernel) ?_
  refine va_newa (atype := .boolean) (ty := .boolean) (N' := 400) (a0 := (400, .inl (fun _ => 0))) hx hb (hts _ ma_boolean) rfl hK hP hD hS hA (fun _ => rfl) (nI_pos (by decide)) (nI_clamp (by decide)) (by decide) (Nat.le_of_ble_eq_true rfl) (Nat.le_of_ble_eq_true rfl) dX1_init_13 (fun b1 g1 H hK hP hD hS => ?_)
  have hP : va_P (dC, dI) vwCl [(m0, .inr (1, [.ref h0, .null, .null, .null, .int 0, .int 0, .int 0, .int 0, .int 0])), (b1, .inl (g1, 400, .inl (fun _ => 0)))] H := hP
  have hD : va_D A [(m0, .inr (1, [.ref h0, .null, .null, .null, .int 0, .int 0, .int 0, .int 0, .int 0])), (b1, .inl (g1, 400, .inl (fun _ => 0)))] := hD
  have hK : va_K (dC, dI) vwCl [(g1, .boolean)] s := hK
  refine W.widen (k := 1) (n := 400) (by omega) (by omega) ?_
  refine va_putF (D := (dC, dI)) (ci := 1) (v := .ref b1) (ty := .array .boolean) (C := RX1) (T := TX1) (N := 9) hx hb hts iw_X1 tyX1 tyX1_ok nmX1 hown hK hP hD hS 0 rfl rfl 1 (by decide) (hts _ mf_X1_15) (fun _ h9 => h9) rfl hin rfl (by decide +kernel) (rfl) (rfl) (Nat.le_of_ble_eq_true rfl) dX1_init_15 (fun H locs hP hD hS => ?_)
  have hP : va_P (dC, dI) vwCl [(m0, .inr (1, [.ref h0, .ref b1, .null, .null, .int 0, .int 0, .int 0, .int 0, .int 0])), (b1, .inl (g1, 400, .inl (fun _ => 0)))] H := hP
  have hD : va_D A [(m0, .inr (1, [.ref h0, .ref b1, .null, .null, .int 0, .int 0, .int 0, .int 0, .int 0])), (b1, .inl (g1, 400, .inl (fun _ => 0)))] := hD
  refine lv_aload_n hx hb dX1_init_18 rfl (lv_at hl 0 rfl) ?_
  refine lv_sipush (v := nI 400) hx hb dX1_init_19 (by decide +kernel) ?_
  refine va_newa (atype := .boolean) (ty := .boolean) (N' := 400) (a0 := (400, .inl (fun _ => 0))) hx hb (hts _ ma_boolean) rfl hK hP hD hS hA (fun _ => rfl) (nI_pos (by decide)) (nI_clamp (by decide)) (by decide) (Nat.le_of_ble_eq_true rfl) (Nat.le_of_ble_eq_true rfl) dX1_init_22 (fun b2 g2 H hK hP hD hS => ?_)
  have hP : va_P (dC, dI) vwCl [(m0, .inr (1, [.ref h0, .ref b1, .null, .null, .int 0, .int 0, .int 0, .int 0, .int 0])), (b1, .inl (g1, 400, .inl (fun _ => 0))), (b2, .inl (g2, 400, .inl (fun _ => 0)))] H := hP
  have hD : va_D A [(m0, .inr (1, [.ref h0, .ref b1, .null, .null, .int 0, .int 0, .int 0, .int 0, .int 0])), (b1, .inl (g1, 400, .inl (fun _ => 0))), (b2, .inl (g2, 400, .inl (fun _ => 0)))] := hD
  have hK : va_K (dC, dI) vwCl [(g1, .boolean), (g2, .boolean)] s := hK
  refine W.widen (k := 2) (n := 800) (by omega) (by omega) ?_
  refine va_putF (D := (dC, dI)) (ci := 1) (v := .ref b2) (ty := .array .boolean) (C := RX1) (T := TX1) (N := 9) hx hb hts iw_X1 tyX1 tyX1_ok nmX1 hown hK hP hD hS 0 rfl rfl 2 (by decide) (hts _ mf_X1_19) (fun _ h9 => h9) rfl hin rfl (by decide +kernel) (rfl) (rfl) (Nat.le_of_ble_eq_true rfl) dX1_init_24 (fun H locs hP hD hS => ?_)
  have hP : va_P (dC, dI) vwCl [(m0, .inr (1, [.ref h0, .ref b1, .ref b2, .null, .int 0, .int 0, .int 0, .int 0, .int 0])), (b1, .inl (g1, 400, .inl (fun _ => 0))), (b2, .inl (g2, 400, .inl (fun _ => 0)))] H := hP
  have hD : va_D A [(m0, .inr (1, [.ref h0, .ref b1, .ref b2, .null, .int 0, .int 0, .int 0, .int 0, .int 0])), (b1, .inl (g1, 400, .inl (fun _ => 0))), (b2, .inl (g2, 400, .inl (fun _ => 0)))] := hD
  refine lv_aload_n hx hb dX1_init_27 rfl (lv_at hl 0 rfl) ?_
  refine lv_bipush (v := nI 64) hx hb dX1_init_28 (by decide +kernel) ?_
  refine va_newa (atype := .int) (ty := .int) (N' := 64) (a0 := (64, .inl (fun _ => 0))) hx hb (hts _ ma_int) rfl hK hP hD hS hA (fun _ => rfl) (nI_pos (by decide)) (nI_clamp (by decide)) (by decide) (Nat.le_of_ble_eq_true rfl) (Nat.le_of_ble_eq_true rfl) dX1_init_30 (fun b3 g3 H hK hP hD hS => ?_)
  have hP : va_P (dC, dI) vwCl [(m0, .inr (1, [.ref h0, .ref b1, .ref b2, .null, .int 0, .int 0, .int 0, .int 0, .int 0])), (b1, .inl (g1, 400, .inl (fun _ => 0))), (b2, .inl (g2, 400, .inl (fun _ => 0))), (b3, .inl (g3, 64, .inl (fun _ => 0)))] H := hP
  have hD : va_D A [(m0, .inr (1, [.ref h0, .ref b1, .ref b2, .null, .int 0, .int 0, .int 0, .int 0, .int 0])), (b1, .inl (g1, 400, .inl (fun _ => 0))), (b2, .inl (g2, 400, .inl (fun _ => 0))), (b3, .inl (g3, 64, .inl (fun _ => 0)))] := hD
  have hK : va_K (dC, dI) vwCl [(g1, .boolean), (g2, .boolean), (g3, .int)] s := hK
  refine W.widen (k := 3) (n := 864) (by omega) (by omega) ?_
  refine va_putF (D := (dC, dI)) (ci := 1) (v := .ref b3) (ty := .array .int) (C := RX1) (T := TX1) (N := 9) hx hb hts iw_X1 tyX1 tyX1_ok nmX1 hown hK hP hD hS 0 rfl rfl 3 (by decide) (hts _ mf_X1_22) (fun _ h9 => h9) rfl hin rfl (by decide +kernel) (rfl) (rfl) (Nat.le_of_ble_eq_true rfl) dX1_init_32 (fun H locs hP hD hS => ?_)
  have hP : va_P (dC, dI) vwCl [(m0, .inr (1, [.ref h0, .ref b1, .ref b2, .ref b3, .int 0, .int 0, .int 0, .int 0, .int 0])), (b1, .inl (g1, 400, .inl (fun _ => 0))), (b2, .inl (g2, 400, .inl (fun _ => 0))), (b3, .inl (g3, 64, .inl (fun _ => 0)))] H := hP
  have hD : va_D A [(m0, .inr (1, [.ref h0, .ref b1, .ref b2, .ref b3, .int 0, .int 0, .int 0, .int 0, .int 0])), (b1, .inl (g1, 400, .inl (fun _ => 0))), (b2, .inl (g2, 400, .inl (fun _ => 0))), (b3, .inl (g3, 64, .inl (fun _ => 0)))] := hD
  refine lv_aload_n hx hb dX1_init_35 rfl (lv_at hl 0 rfl) ?_
  refine lv_bipush (v := nI 8) hx hb dX1_init_36 (by decide +kernel) ?_
  refine va_put (D := (dC, dI)) (ci := 1) (v := .int (nI 8)) (ty := .int) (C := RX1) (T := TX1) (N := 9) hx hb hts iw_X1 tyX1 tyX1_ok nmX1 hown hK hP hD hS 0 rfl rfl 4 (by decide) (hts _ mf_X1_26) (fun _ h9 => h9) rfl (by decide +kernel) (rfl) (rfl) (Nat.le_of_ble_eq_true rfl) dX1_init_38 (fun H locs hP hD hS => ?_)
  have hP : va_P (dC, dI) vwCl [(m0, .inr (1, [.ref h0, .ref b1, .ref b2, .ref b3, .int (nI 8), .int 0, .int 0, .int 0, .int 0])), (b1, .inl (g1, 400, .inl (fun _ => 0))), (b2, .inl (g2, 400, .inl (fun _ => 0))), (b3, .inl (g3, 64, .inl (fun _ => 0)))] H := hP
  have hD : va_D A [(m0, .inr (1, [.ref h0, .ref b1, .ref b2, .ref b3, .int (nI 8), .int 0, .int 0, .int 0, .int 0])), (b1, .inl (g1, 400, .inl (fun _ => 0))), (b2, .inl (g2, 400, .inl (fun _ => 0))), (b3, .inl (g3, 64, .inl (fun _ => 0)))] := hD
  refine lv_aload_n hx hb dX1_init_41 rfl (lv_at hl 0 rfl) ?_
  refine lv_iconst (v := nI 0) hx hb dX1_init_42 (by decide +kernel) ?_
  refine va_put (D := (dC, dI)) (ci := 1) (v := .int (nI 0)) (ty := .int) (C := RX1) (T := TX1) (N := 9) hx hb hts iw_X1 tyX1 tyX1_ok nmX1 hown hK hP hD hS 0 rfl rfl 5 (by decide) (hts _ mf_X1_30) (fun _ h9 => h9) rfl (by decide +kernel) (rfl) (rfl) (Nat.le_of_ble_eq_true rfl) dX1_init_43 (fun H locs hP hD hS => ?_)
  have hP : va_P (dC, dI) vwCl [(m0, .inr (1, [.ref h0, .ref b1, .ref b2, .ref b3, .int (nI 8), .int (nI 0), .int 0, .int 0, .int 0])), (b1, .inl (g1, 400, .inl (fun _ => 0))), (b2, .inl (g2, 400, .inl (fun _ => 0))), (b3, .inl (g3, 64, .inl (fun _ => 0)))] H := hP
  have hD : va_D A [(m0, .inr (1, [.ref h0, .ref b1, .ref b2, .ref b3, .int (nI 8), .int (nI 0), .int 0, .int 0, .int 0])), (b1, .inl (g1, 400, .inl (fun _ => 0))), (b2, .inl (g2, 400, .inl (fun _ => 0))), (b3, .inl (g3, 64, .inl (fun _ => 0)))] := hD
  refine lv_aload_n hx hb dX1_init_46 rfl (lv_at hl 0 rfl) ?_
  refine lv_iconst (v := nI 0) hx hb dX1_init_47 (by decide +kernel) ?_
  refine va_put (D := (dC, dI)) (ci := 1) (v := .int (nI 0)) (ty := .int) (C := RX1) (T := TX1) (N := 9) hx hb hts iw_X1 tyX1 tyX1_ok nmX1 hown hK hP hD hS 0 rfl rfl 6 (by decide) (hts _ mf_X1_33) (fun _ h9 => h9) rfl (by decide +kernel) (rfl) (rfl) (Nat.le_of_ble_eq_true rfl) dX1_init_48 (fun H locs hP hD hS => ?_)
  have hP : va_P (dC, dI) vwCl [(m0, .inr (1, [.ref h0, .ref b1, .ref b2, .ref b3, .int (nI 8), .int (nI 0), .int (nI 0), .int 0, .int 0])), (b1, .inl (g1, 400, .inl (fun _ => 0))), (b2, .inl (g2, 400, .inl (fun _ => 0))), (b3, .inl (g3, 64, .inl (fun _ => 0)))] H := hP
  have hD : va_D A [(m0, .inr (1, [.ref h0, .ref b1, .ref b2, .ref b3, .int (nI 8), .int (nI 0), .int (nI 0), .int 0, .int 0])), (b1, .inl (g1, 400, .inl (fun _ => 0))), (b2, .inl (g2, 400, .inl (fun _ => 0))), (b3, .inl (g3, 64, .inl (fun _ => 0)))] := hD
  refine lv_aload_n hx hb dX1_init_51 rfl (lv_at hl 0 rfl) ?_
  refine lv_sipush (v := nI 400) hx hb dX1_init_52 (by decide +kernel) ?_
  refine va_put (D := (dC, dI)) (ci := 1) (v := .int (nI 400)) (ty := .int) (C := RX1) (T := TX1) (N := 9) hx hb hts iw_X1 tyX1 tyX1_ok nmX1 hown hK hP hD hS 0 rfl rfl 7 (by decide) (hts _ mf_X1_36) (fun _ h9 => h9) rfl (by decide +kernel) (rfl) (rfl) (Nat.le_of_ble_eq_true rfl) dX1_init_55 (fun H locs hP hD hS => ?_)
  have hP : va_P (dC, dI) vwCl [(m0, .inr (1, [.ref h0, .ref b1, .ref b2, .ref b3, .int (nI 8), .int (nI 0), .int (nI 0), .int (nI 400), .int 0])), (b1, .inl (g1, 400, .inl (fun _ => 0))), (b2, .inl (g2, 400, .inl (fun _ => 0))), (b3, .inl (g3, 64, .inl (fun _ => 0)))] H := hP
  have hD : va_D A [(m0, .inr (1, [.ref h0, .ref b1, .ref b2, .ref b3, .int (nI 8), .int (nI 0), .int (nI 0), .int (nI 400), .int 0])), (b1, .inl (g1, 400, .inl (fun _ => 0))), (b2, .inl (g2, 400, .inl (fun _ => 0))), (b3, .inl (g3, 64, .inl (fun _ => 0)))] := hD
  refine lv_aload_n hx hb dX1_init_58 rfl (lv_at hl 0 rfl) ?_
  refine lv_sipush (v := nI 400) hx hb dX1_init_59 (by decide +kernel) ?_
  refine va_put (D := (dC, dI)) (ci := 1) (v := .int (nI 400)) (ty := .int) (C := RX1) (T := TX1) (N := 9) hx hb hts iw_X1 tyX1 tyX1_ok nmX1 hown hK hP hD hS 0 rfl rfl 8 (by decide) (hts _ mf_X1_39) (fun _ h9 => h9) rfl (by decide +kernel) (rfl) (rfl) (Nat.le_of_ble_eq_true rfl) dX1_init_62 (fun H locs hP hD hS => ?_)
  have hP : va_P (dC, dI) vwCl [(m0, .inr (1, [.ref h0, .ref b1, .ref b2, .ref b3, .int (nI 8), .int (nI 0), .int (nI 0), .int (nI 400), .int (nI 400)])), (b1, .inl (g1, 400, .inl (fun _ => 0))), (b2, .inl (g2, 400, .inl (fun _ => 0))), (b3, .inl (g3, 64, .inl (fun _ => 0)))] H := hP
  have hD : va_D A [(m0, .inr (1, [.ref h0, .ref b1, .ref b2, .ref b3, .int (nI 8), .int (nI 0), .int (nI 0), .int (nI 400), .int (nI 400)])), (b1, .inl (g1, 400, .inl (fun _ => 0))), (b2, .inl (g2, 400, .inl (fun _ => 0))), (b3, .inl (g3, 64, .inl (fun _ => 0)))] := hD
  exact W.vret hx hb hr (fun t ht hW => ⟨⟨(), rfl, trivial, b1, b2, b3, g1, g2, g3, by rw [ht]; exact hP, va_K.moved hW.alike hK, hD⟩, hS.F ht⟩) hS.2.2 dX1_init_65

set_option maxHeartbeats 4000000 in
set_option maxRecDepth 100000 in
/-- Reach(heap) -/
theorem c_R_init (l : Launch) (dC : Nat → ClassId) (dI : Nat → Nat → Nat) (r0 h0 : Nat) (sz : Nat)  : Met l yX2_init wsX2_init ({ frames := 1, cells := 2, slots := 800, locals := 12 }) (va_Pc [.ref r0, .ref h0] (fun U => U.heap.size = sz ∧ va_P (dC, dI) vwCl [(r0, .inr (2, [.null, .null, .null, .int 0]))] U.heap ∧ va_K (dC, dI) vwCl [] U ∧ va_D (fun _ => True) [(r0, .inr (2, [.null, .null, .null, .int 0]))])) (va_Qv (fun (_ : Unit) => True) (fun (_ : Unit) (t : State) => ∃ (d1 d2 : Nat) (e1 e2 : ClassId), va_P (dC, dI) vwCl [(r0, .inr (2, [.ref h0, .ref d1, .ref d2, .int (nI 0)])), (d1, .inl (e1, 400, .inl (fun _ => 0))), (d2, .inl (e2, 400, .inl (fun _ => 0)))] t.heap ∧ va_K (dC, dI) vwCl [(e1, .boolean), (e2, .int)] t ∧ va_D (va_A [(r0, .inr (2, [.null, .null, .null, .int 0]))] sz) [(r0, .inr (2, [.ref h0, .ref d1, .ref d2, .int (nI 0)])), (d1, .inl (e1, 400, .inl (fun _ => 0))), (d2, .inl (e2, 400, .inl (fun _ => 0)))]) (va_A [(r0, .inr (2, [.null, .null, .null, .int 0]))] sz)) 2 800 (va_A [(r0, .inr (2, [.null, .null, .null, .int 0]))] sz) := by
  refine Met.ofW (cc := cX2_init) (maxL := 2) (ret := (none)) (by decide) rfl ?_
  intro p e s m args below meth c s₁ B hml hv
  obtain ⟨rfl, hsz, hP, hK, hD0⟩ := hv
  have hx := B.exec
  have hb := B.bytes
  have hr := B.returns
  have hts : ∀ w ∈ gw, w.before _ s = true := fun w h => atoms_spec (ws := wsX2_init) B.pre w (List.mem_cons_of_mem _ h)
  have hown : s.vm.findClass RX2 = some m.cls := findClass_of_methodNamed B.named
  have hlocks := B.notSynchronized
  have hin : meth.name = "<init>" := (name_of_methodNamed B.named B.method).1
  subst hsz
  have hD := hD0.self (sz := s.heap.size)
  generalize hAe : va_A [(r0, .inr (2, [.null, .null, .null, .int 0]))] s.heap.size = A at hD ⊢
  have hA : ∀ q : Nat, s.heap.size ≤ q → A q := fun q h => by rw [← hAe]; exact Or.inr h
  have hP : va_P (dC, dI) vwCl [(r0, .inr (2, [.null, .null, .null, .int 0]))] s.heap := hP
  have hl := lv_entry ([.ref r0, .ref h0]) (n := 2) (Nat.le_of_ble_eq_true rfl)
  rw [lg_entry_eq]
  generalize (lg_sl ([.ref r0, .ref h0]) ++ List.replicate (2 - (lg_sl ([.ref r0, .ref h0])).length) Slot.unset).toArray = ls at hl ⊢
  have hl : lv_has ls 2 [(0, .ref r0), (1, .ref h0)] := hl
  obtain ⟨H, hH⟩ : ∃ H : Heap, H = s.heap := ⟨_, rfl⟩
  rw [← hH]
  rw [← hH] at hP
  have hS : va_S A s.heap H [] := by rw [hH]; exact va_S.rf
  clear hH
  refine lv_aload_n hx hb dX2_init_0 rfl (lv_at hl 0 rfl) ?_
  refine W.objInit hx hb hown (hts _ ml_X2_3) (hts _ mi_obj) (hts _ mc_obj) rfl (by rw [hml]; exact hl.1) rfl dX2_init_1 (Nat.le_of_ble_eq_true rfl) (Nat.le_of_ble_eq_true rfl) ?_
  refine W.eq (g2 := F0 m 4 ls []) rfl ?_
  refine lv_aload_n hx hb dX2_init_4 rfl (lv_at hl 0 rfl) ?_
  refine lv_aload_n hx hb dX2_init_5 rfl (lv_at hl 1 rfl) ?_
  refine va_putF (D := (dC, dI)) (ci := 2) (v := .ref h0) (ty := .object "PileMarker$Heap") (C := RX2) (T := TX2) (N := 4) hx hb hts iw_X2 tyX2 tyX2_ok nmX2 hown hK hP hD hS 0 rfl rfl 0 (by decide) (hts _ mf_X2_9) (fun _ h9 => h9) rfl hin rfl (by decide +kernel) (rfl) (rfl) (Nat.le_of_ble_eq_true rfl) dX2_init_6 (fun H locs hP hD hS => ?_)
  have hP : va_P (dC, dI) vwCl [(r0, .inr (2, [.ref h0, .null, .null, .int 0]))] H := hP
  have hD : va_D A [(r0, .inr (2, [.ref h0, .null, .null, .int 0]))] := hD
  refine lv_aload_n hx hb dX2_init_9 rfl (lv_at hl 0 rfl) ?_
  refine lv_sipush (v := nI 400) hx hb dX2_init_10 (by decide +kernel) ?_
  refine va_newa (atype := .boolean) (ty := .boolean) (N' := 400) (a0 := (400, .inl (fun _ => 0))) hx hb (hts _ ma_boolean) rfl hK hP hD hS hA (fun _ => rfl) (nI_pos (by decide)) (nI_clamp (by decide)) (by decide) (Nat.le_of_ble_eq_true rfl) (Nat.le_of_ble_eq_true rfl) dX2_init_13 (fun d1 e1 H hK hP hD hS => ?_)
  have hP : va_P (dC, dI) vwCl [(r0, .inr (2, [.ref h0, .null, .null, .int 0])), (d1, .inl (e1, 400, .inl (fun _ => 0)))] H := hP
  have hD : va_D A [(r0, .inr (2, [.ref h0, .null, .null, .int 0])), (d1, .inl (e1, 400, .inl (fun _ => 0)))] := hD
  have hK : va_K (dC, dI) vwCl [(e1, .boolean)] s := hK
  refine W.widen (k := 1) (n := 400) (by omega) (by omega) ?_
  refine va_putF (D := (dC, dI)) (ci := 2) (v := .ref d1) (ty := .array .boolean) (C := RX2) (T := TX2) (N := 4) hx hb hts iw_X2 tyX2 tyX2_ok nmX2 hown hK hP hD hS 0 rfl rfl 1 (by decide) (hts _ mf_X2_15) (fun _ h9 => h9) rfl hin rfl (by decide +kernel) (rfl) (rfl) (Nat.le_of_ble_eq_true rfl) dX2_init_15 (fun H locs hP hD hS => ?_)
  have hP : va_P (dC, dI) vwCl [(r0, .inr (2, [.ref h0, .ref d1, .null, .int 0])), (d1, .inl (e1, 400, .inl (fun _ => 0)))] H := hP
  have hD : va_D A [(r0, .inr (2, [.ref h0, .ref d1, .null, .int 0])), (d1, .inl (e1, 400, .inl (fun _ => 0)))] := hD
  refine lv_aload_n hx hb dX2_init_18 rfl (lv_at hl 0 rfl) ?_
  refine lv_sipush (v := nI 400) hx hb dX2_init_19 (by decide +kernel) ?_
  refine va_newa (atype := .int) (ty := .int) (N' := 400) (a0 := (400, .inl (fun _ => 0))) hx hb (hts _ ma_int) rfl hK hP hD hS hA (fun _ => rfl) (nI_pos (by decide)) (nI_clamp (by decide)) (by decide) (Nat.le_of_ble_eq_true rfl) (Nat.le_of_ble_eq_true rfl) dX2_init_22 (fun d2 e2 H hK hP hD hS => ?_)
  have hP : va_P (dC, dI) vwCl [(r0, .inr (2, [.ref h0, .ref d1, .null, .int 0])), (d1, .inl (e1, 400, .inl (fun _ => 0))), (d2, .inl (e2, 400, .inl (fun _ => 0)))] H := hP
  have hD : va_D A [(r0, .inr (2, [.ref h0, .ref d1, .null, .int 0])), (d1, .inl (e1, 400, .inl (fun _ => 0))), (d2, .inl (e2, 400, .inl (fun _ => 0)))] := hD
  have hK : va_K (dC, dI) vwCl [(e1, .boolean), (e2, .int)] s := hK
  refine W.widen (k := 2) (n := 800) (by omega) (by omega) ?_
  refine va_putF (D := (dC, dI)) (ci := 2) (v := .ref d2) (ty := .array .int) (C := RX2) (T := TX2) (N := 4) hx hb hts iw_X2 tyX2 tyX2_ok nmX2 hown hK hP hD hS 0 rfl rfl 2 (by decide) (hts _ mf_X2_19) (fun _ h9 => h9) rfl hin rfl (by decide +kernel) (rfl) (rfl) (Nat.le_of_ble_eq_true rfl) dX2_init_24 (fun H locs hP hD hS => ?_)
  have hP : va_P (dC, dI) vwCl [(r0, .inr (2, [.ref h0, .ref d1, .ref d2, .int 0])), (d1, .inl (e1, 400, .inl (fun _ => 0))), (d2, .inl (e2, 400, .inl (fun _ => 0)))] H := hP
  have hD : va_D A [(r0, .inr (2, [.ref h0, .ref d1, .ref d2, .int 0])), (d1, .inl (e1, 400, .inl (fun _ => 0))), (d2, .inl (e2, 400, .inl (fun _ => 0)))] := hD
  refine lv_aload_n hx hb dX2_init_27 rfl (lv_at hl 0 rfl) ?_
  refine lv_iconst (v := nI 0) hx hb dX2_init_28 (by decide +kernel) ?_
  refine va_put (D := (dC, dI)) (ci := 2) (v := .int (nI 0)) (ty := .int) (C := RX2) (T := TX2) (N := 4) hx hb hts iw_X2 tyX2 tyX2_ok nmX2 hown hK hP hD hS 0 rfl rfl 3 (by decide) (hts _ mf_X2_23) (fun _ h9 => h9) rfl (by decide +kernel) (rfl) (rfl) (Nat.le_of_ble_eq_true rfl) dX2_init_29 (fun H locs hP hD hS => ?_)
  have hP : va_P (dC, dI) vwCl [(r0, .inr (2, [.ref h0, .ref d1, .ref d2, .int (nI 0)])), (d1, .inl (e1, 400, .inl (fun _ => 0))), (d2, .inl (e2, 400, .inl (fun _ => 0)))] H := hP
  have hD : va_D A [(r0, .inr (2, [.ref h0, .ref d1, .ref d2, .int (nI 0)])), (d1, .inl (e1, 400, .inl (fun _ => 0))), (d2, .inl (e2, 400, .inl (fun _ => 0)))] := hD
  exact W.vret hx hb hr (fun t ht hW => ⟨⟨(), rfl, trivial, d1, d2, e1, e2, by rw [ht]; exact hP, va_K.moved hW.alike hK, hD⟩, hS.F ht⟩) hS.2.2 dX2_init_32
