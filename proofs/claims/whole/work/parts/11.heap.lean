set_option maxHeartbeats 4000000 in
set_option maxRecDepth 100000 in
/-- Heap.isFull(): are there 400 -/
theorem c_H_isFull (l : Launch) (dC : Nat → ClassId) (dI : Nat → Nat → Nat) (h0 a1 a2 a3 : Nat) (k1 k2 k3 : ClassId) (N : Nat) (cn : Nat → Nat) (fl rt : Nat → Int32) (fa : Int32) (sz : Nat) (hN : N ≤ 400) : Met l yX0_isFull wsX0_isFull ({ frames := 0, cells := 0, slots := 0, locals := 0 }) (va_Pc [.ref h0] (fun U => U.heap.size = sz ∧ va_P (dC, dI) vwCl [(h0, .inr (0, [.ref a1, .ref a2, .ref a3, .int (nI N), .int fa])), (a1, .inl (k1, 400, .inl (pm_nf9 cn))), (a2, .inl (k2, 8000, .inl fl)), (a3, .inl (k3, 16, .inl rt))] U.heap ∧ va_K (dC, dI) vwCl [(k1, .int), (k2, .int), (k3, .int)] U ∧ va_D (fun _ => True) [(h0, .inr (0, [.ref a1, .ref a2, .ref a3, .int (nI N), .int fa])), (a1, .inl (k1, 400, .inl (pm_nf9 cn))), (a2, .inl (k2, 8000, .inl fl)), (a3, .inl (k3, 16, .inl rt))])) (va_Qi (fun (r : Int32) (_ : Unit) => r = pm_b (decide (400 ≤ N))) (fun (_ : Unit) (t : State) => va_P (dC, dI) vwCl [(h0, .inr (0, [.ref a1, .ref a2, .ref a3, .int (nI N), .int fa])), (a1, .inl (k1, 400, .inl (pm_nf9 cn))), (a2, .inl (k2, 8000, .inl fl)), (a3, .inl (k3, 16, .inl rt))] t.heap ∧ va_K (dC, dI) vwCl [(k1, .int), (k2, .int), (k3, .int)] t ∧ va_D (va_A [(h0, .inr (0, [.ref a1, .ref a2, .ref a3, .int (nI N), .int fa])), (a1, .inl (k1, 400, .inl (pm_nf9 cn))), (a2, .inl (k2, 8000, .inl fl)), (a3, .inl (k3, 16, .inl rt))] sz) [(h0, .inr (0, [.ref a1, .ref a2, .ref a3, .int (nI N), .int fa])), (a1, .inl (k1, 400, .inl (pm_nf9 cn))), (a2, .inl (k2, 8000, .inl fl)), (a3, .inl (k3, 16, .inl rt))]) (va_A [(h0, .inr (0, [.ref a1, .ref a2, .ref a3, .int (nI N), .int fa])), (a1, .inl (k1, 400, .inl (pm_nf9 cn))), (a2, .inl (k2, 8000, .inl fl)), (a3, .inl (k3, 16, .inl rt))] sz)) 0 0 (va_A [(h0, .inr (0, [.ref a1, .ref a2, .ref a3, .int (nI N), .int fa])), (a1, .inl (k1, 400, .inl (pm_nf9 cn))), (a2, .inl (k2, 8000, .inl fl)), (a3, .inl (k3, 16, .inl rt))] sz) := by
  refine Met.ofW (cc := cX0_isFull) (maxL := 1) (ret := (some .boolean)) (by decide) rfl ?_
  intro p e s m args below meth c s₁ B hml hv
  obtain ⟨rfl, hsz, hP, hK, hD0⟩ := hv
  have hx := B.exec
  have hb := B.bytes
  have hr := B.returns
  have hts : ∀ w ∈ gw, w.before _ s = true := fun w h => atoms_spec (ws := wsX0_isFull) B.pre w (List.mem_cons_of_mem _ h)
  have hown : s.vm.findClass RX0 = some m.cls := findClass_of_methodNamed B.named
  have hlocks := B.notSynchronized
  subst hsz
  have hD := hD0.self (sz := s.heap.size)
  generalize hAe : va_A [(h0, .inr (0, [.ref a1, .ref a2, .ref a3, .int (nI N), .int fa])), (a1, .inl (k1, 400, .inl (pm_nf9 cn))), (a2, .inl (k2, 8000, .inl fl)), (a3, .inl (k3, 16, .inl rt))] s.heap.size = A at hD ⊢
  have hA : ∀ q : Nat, s.heap.size ≤ q → A q := fun q h => by rw [← hAe]; exact Or.inr h
  have hP : va_P (dC, dI) vwCl [(h0, .inr (0, [.ref a1, .ref a2, .ref a3, .int (nI N), .int fa])), (a1, .inl (k1, 400, .inl (pm_nf9 cn))), (a2, .inl (k2, 8000, .inl fl)), (a3, .inl (k3, 16, .inl rt))] s.heap := hP
  have hl := lv_entry ([.ref h0]) (n := 1) (Nat.le_of_ble_eq_true rfl)
  rw [lg_entry_eq]
  generalize (lg_sl ([.ref h0]) ++ List.replicate (1 - (lg_sl ([.ref h0])).length) Slot.unset).toArray = ls at hl ⊢
  have hl : lv_has ls 1 [(0, .ref h0)] := hl
  obtain ⟨H, hH⟩ : ∃ H : Heap, H = s.heap := ⟨_, rfl⟩
  rw [← hH]
  rw [← hH] at hP
  have hS : va_S A s.heap H [] := by rw [hH]; exact va_S.rf
  clear hH
  refine lv_aload_n hx hb dX0_isFull_0 rfl (lv_at hl 0 rfl) ?_
  refine va_get (D := (dC, dI)) (ci := 0) (v := .int (nI N)) (C := RX0) (T := TX0) (N := 5) hx hb hts iw_X0 hown hK hP 0 rfl rfl 3 (by decide) (hts _ mf_X0_21) (fun _ h9 => h9) rfl dX0_isFull_1 ?_
  refine lv_sipush (v := nI 400) hx hb dX0_isFull_4 (by decide +kernel) ?_
  refine lv_icmp_lt (tgt := 14) hx hb dX0_isFull_7 (by decide) (fun c_7 => ?_) (fun c_7 => ?_)
  · rw [nI_ltI (by omega) (by omega)] at c_7
    refine lv_iconst (v := nI 0) hx hb dX0_isFull_14 (by decide +kernel) ?_
    exact W.zret (v := nI 0) hx hb hr (by decide +kernel) (fun t ht hW => ⟨⟨nI 0, (), rfl, by rw [decide_eq_false (by omega)]; rfl, by rw [ht]; exact hP, va_K.moved hW.alike hK, hD⟩, hS.F ht⟩) hS.2.2 dX0_isFull_15
  · rw [nI_ltI (by omega) (by omega)] at c_7
    refine lv_iconst (v := nI 1) hx hb dX0_isFull_10 (by decide +kernel) ?_
    refine lv_goto (tgt := 15) hx hb dX0_isFull_11 (by decide) ?_
    exact W.zret (v := nI 1) hx hb hr (by decide +kernel) (fun t ht hW => ⟨⟨nI 1, (), rfl, by rw [decide_eq_true (by omega)]; rfl, by rw [ht]; exact hP, va_K.moved hW.alike hK, hD⟩, hS.F ht⟩) hS.2.2 dX0_isFull_15

set_option maxHeartbeats 4000000 in
set_option maxRecDepth 100000 in
/-- Heap.has(k) -/
theorem c_H_has (l : Launch) (dC : Nat → ClassId) (dI : Nat → Nat → Nat) (h0 a1 a2 a3 : Nat) (k1 k2 k3 : ClassId) (N : Nat) (cn : Nat → Nat) (fl rt : Nat → Int32) (fa : Int32) (p0 : Int32) (sz : Nat)  : Met l yX0_has wsX0_has ({ frames := 0, cells := 0, slots := 0, locals := 0 }) (va_Pc [.ref h0, .int p0] (fun U => U.heap.size = sz ∧ va_P (dC, dI) vwCl [(h0, .inr (0, [.ref a1, .ref a2, .ref a3, .int (nI N), .int fa])), (a1, .inl (k1, 400, .inl (pm_nf9 cn))), (a2, .inl (k2, 8000, .inl fl)), (a3, .inl (k3, 16, .inl rt))] U.heap ∧ va_K (dC, dI) vwCl [(k1, .int), (k2, .int), (k3, .int)] U ∧ va_D (fun _ => True) [(h0, .inr (0, [.ref a1, .ref a2, .ref a3, .int (nI N), .int fa])), (a1, .inl (k1, 400, .inl (pm_nf9 cn))), (a2, .inl (k2, 8000, .inl fl)), (a3, .inl (k3, 16, .inl rt))])) (va_Qi (fun (r : Int32) (_ : Unit) => r = pm_b (pm_has N p0)) (fun (_ : Unit) (t : State) => va_P (dC, dI) vwCl [(h0, .inr (0, [.ref a1, .ref a2, .ref a3, .int (nI N), .int fa])), (a1, .inl (k1, 400, .inl (pm_nf9 cn))), (a2, .inl (k2, 8000, .inl fl)), (a3, .inl (k3, 16, .inl rt))] t.heap ∧ va_K (dC, dI) vwCl [(k1, .int), (k2, .int), (k3, .int)] t ∧ va_D (va_A [(h0, .inr (0, [.ref a1, .ref a2, .ref a3, .int (nI N), .int fa])), (a1, .inl (k1, 400, .inl (pm_nf9 cn))), (a2, .inl (k2, 8000, .inl fl)), (a3, .inl (k3, 16, .inl rt))] sz) [(h0, .inr (0, [.ref a1, .ref a2, .ref a3, .int (nI N), .int fa])), (a1, .inl (k1, 400, .inl (pm_nf9 cn))), (a2, .inl (k2, 8000, .inl fl)), (a3, .inl (k3, 16, .inl rt))]) (va_A [(h0, .inr (0, [.ref a1, .ref a2, .ref a3, .int (nI N), .int fa])), (a1, .inl (k1, 400, .inl (pm_nf9 cn))), (a2, .inl (k2, 8000, .inl fl)), (a3, .inl (k3, 16, .inl rt))] sz)) 0 0 (va_A [(h0, .inr (0, [.ref a1, .ref a2, .ref a3, .int (nI N), .int fa])), (a1, .inl (k1, 400, .inl (pm_nf9 cn))), (a2, .inl (k2, 8000, .inl fl)), (a3, .inl (k3, 16, .inl rt))] sz) := by
  refine Met.ofW (cc := cX0_has) (maxL := 2) (ret := (some .boolean)) (by decide) rfl ?_
  intro p e s m args below meth c s₁ B hml hv
  obtain ⟨rfl, hsz, hP, hK, hD0⟩ := hv
  have hx := B.exec
  have hb := B.bytes
  have hr := B.returns
  have hts : ∀ w ∈ gw, w.before _ s = true := fun w h => atoms_spec (ws := wsX0_has) B.pre w (List.mem_cons_of_mem _ h)
  have hown : s.vm.findClass RX0 = some m.cls := findClass_of_methodNamed B.named
  have hlocks := B.notSynchronized
  subst hsz
  have hD := hD0.self (sz := s.heap.size)
  generalize hAe : va_A [(h0, .inr (0, [.ref a1, .ref a2, .ref a3, .int (nI N), .int fa])), (a1, .inl (k1, 400, .inl (pm_nf9 cn))), (a2, .inl (k2, 8000, .inl fl)), (a3, .inl (k3, 16, .inl rt))] s.heap.size = A at hD ⊢
  have hA : ∀ q : Nat, s.heap.size ≤ q → A q := fun q h => by rw [← hAe]; exact Or.inr h
  have hP : va_P (dC, dI) vwCl [(h0, .inr (0, [.ref a1, .ref a2, .ref a3, .int (nI N), .int fa])), (a1, .inl (k1, 400, .inl (pm_nf9 cn))), (a2, .inl (k2, 8000, .inl fl)), (a3, .inl (k3, 16, .inl rt))] s.heap := hP
  have hl := lv_entry ([.ref h0, .int p0]) (n := 2) (Nat.le_of_ble_eq_true rfl)
  rw [lg_entry_eq]
  generalize (lg_sl ([.ref h0, .int p0]) ++ List.replicate (2 - (lg_sl ([.ref h0, .int p0])).length) Slot.unset).toArray = ls at hl ⊢
  have hl : lv_has ls 2 [(0, .ref h0), (1, .int p0)] := hl
  obtain ⟨H, hH⟩ : ∃ H : Heap, H = s.heap := ⟨_, rfl⟩
  rw [← hH]
  rw [← hH] at hP
  have hS : va_S A s.heap H [] := by rw [hH]; exact va_S.rf
  clear hH
  refine lv_iload_n hx hb dX0_has_0 rfl (lv_at hl 1 rfl) ?_
  refine lv_if_lt (tgt := 16) hx hb dX0_has_1 (by decide) (fun c_1 => ?_) (fun c_1 => ?_)
  · refine lv_iconst (v := nI 0) hx hb dX0_has_16 (by decide +kernel) ?_
    exact W.zret (v := nI 0) hx hb hr (by decide +kernel) (fun t ht hW => ⟨⟨nI 0, (), rfl, pm_h1 c_1, by rw [ht]; exact hP, va_K.moved hW.alike hK, hD⟩, hS.F ht⟩) hS.2.2 dX0_has_17
  · refine lv_iload_n hx hb dX0_has_4 rfl (lv_at hl 1 rfl) ?_
    refine lv_aload_n hx hb dX0_has_5 rfl (lv_at hl 0 rfl) ?_
    refine va_get (D := (dC, dI)) (ci := 0) (v := .int (nI N)) (C := RX0) (T := TX0) (N := 5) hx hb hts iw_X0 hown hK hP 0 rfl rfl 3 (by decide) (hts _ mf_X0_21) (fun _ h9 => h9) rfl dX0_has_6 ?_
    refine lv_icmp_ge (tgt := 16) hx hb dX0_has_9 (by decide) (fun c_9 => ?_) (fun c_9 => ?_)
    · refine lv_iconst (v := nI 0) hx hb dX0_has_16 (by decide +kernel) ?_
      exact W.zret (v := nI 0) hx hb hr (by decide +kernel) (fun t ht hW => ⟨⟨nI 0, (), rfl, pm_h2 c_9, by rw [ht]; exact hP, va_K.moved hW.alike hK, hD⟩, hS.F ht⟩) hS.2.2 dX0_has_17
    · refine lv_iconst (v := nI 1) hx hb dX0_has_12 (by decide +kernel) ?_
      refine lv_goto (tgt := 17) hx hb dX0_has_13 (by decide) ?_
      exact W.zret (v := nI 1) hx hb hr (by decide +kernel) (fun t ht hW => ⟨⟨nI 1, (), rfl, pm_h3 c_1 c_9, by rw [ht]; exact hP, va_K.moved hW.alike hK, hD⟩, hS.F ht⟩) hS.2.2 dX0_has_17

set_option maxHeartbeats 4000000 in
set_option maxRecDepth 100000 in
/-- Heap.hasRoot(i) -/
theorem c_H_hasRoot (l : Launch) (dC : Nat → ClassId) (dI : Nat → Nat → Nat) (h0 a1 a2 a3 : Nat) (k1 k2 k3 : ClassId) (N : Nat) (cn : Nat → Nat) (fl rt : Nat → Int32) (fa : Int32) (p0 : Int32) (sz : Nat)  : Met l yX0_hasRoot wsX0_hasRoot ({ frames := 0, cells := 0, slots := 0, locals := 0 }) (va_Pc [.ref h0, .int p0] (fun U => U.heap.size = sz ∧ va_P (dC, dI) vwCl [(h0, .inr (0, [.ref a1, .ref a2, .ref a3, .int (nI N), .int fa])), (a1, .inl (k1, 400, .inl (pm_nf9 cn))), (a2, .inl (k2, 8000, .inl fl)), (a3, .inl (k3, 16, .inl rt))] U.heap ∧ va_K (dC, dI) vwCl [(k1, .int), (k2, .int), (k3, .int)] U ∧ va_D (fun _ => True) [(h0, .inr (0, [.ref a1, .ref a2, .ref a3, .int (nI N), .int fa])), (a1, .inl (k1, 400, .inl (pm_nf9 cn))), (a2, .inl (k2, 8000, .inl fl)), (a3, .inl (k3, 16, .inl rt))])) (va_Qi (fun (r : Int32) (_ : Unit) => r = pm_b (pm_has 16 p0)) (fun (_ : Unit) (t : State) => va_P (dC, dI) vwCl [(h0, .inr (0, [.ref a1, .ref a2, .ref a3, .int (nI N), .int fa])), (a1, .inl (k1, 400, .inl (pm_nf9 cn))), (a2, .inl (k2, 8000, .inl fl)), (a3, .inl (k3, 16, .inl rt))] t.heap ∧ va_K (dC, dI) vwCl [(k1, .int), (k2, .int), (k3, .int)] t ∧ va_D (va_A [(h0, .inr (0, [.ref a1, .ref a2, .ref a3, .int (nI N), .int fa])), (a1, .inl (k1, 400, .inl (pm_nf9 cn))), (a2, .inl (k2, 8000, .inl fl)), (a3, .inl (k3, 16, .inl rt))] sz) [(h0, .inr (0, [.ref a1, .ref a2, .ref a3, .int (nI N), .int fa])), (a1, .inl (k1, 400, .inl (pm_nf9 cn))), (a2, .inl (k2, 8000, .inl fl)), (a3, .inl (k3, 16, .inl rt))]) (va_A [(h0, .inr (0, [.ref a1, .ref a2, .ref a3, .int (nI N), .int fa])), (a1, .inl (k1, 400, .inl (pm_nf9 cn))), (a2, .inl (k2, 8000, .inl fl)), (a3, .inl (k3, 16, .inl rt))] sz)) 0 0 (va_A [(h0, .inr (0, [.ref a1, .ref a2, .ref a3, .int (nI N), .int fa])), (a1, .inl (k1, 400, .inl (pm_nf9 cn))), (a2, .inl (k2, 8000, .inl fl)), (a3, .inl (k3, 16, .inl rt))] sz) := by
  refine Met.ofW (cc := cX0_hasRoot) (maxL := 2) (ret := (some .boolean)) (by decide) rfl ?_
  intro p e s m args below meth c s₁ B hml hv
  obtain ⟨rfl, hsz, hP, hK, hD0⟩ := hv
  have hx := B.exec
  have hb := B.bytes
  have hr := B.returns
  have hts : ∀ w ∈ gw, w.before _ s = true := fun w h => atoms_spec (ws := wsX0_hasRoot) B.pre w (List.mem_cons_of_mem _ h)
  have hown : s.vm.findClass RX0 = some m.cls := findClass_of_methodNamed B.named
  have hlocks := B.notSynchronized
  subst hsz
  have hD := hD0.self (sz := s.heap.size)
  generalize hAe : va_A [(h0, .inr (0, [.ref a1, .ref a2, .ref a3, .int (nI N), .int fa])), (a1, .inl (k1, 400, .inl (pm_nf9 cn))), (a2, .inl (k2, 8000, .inl fl)), (a3, .inl (k3, 16, .inl rt))] s.heap.size = A at hD ⊢
  have hA : ∀ q : Nat, s.heap.size ≤ q → A q := fun q h => by rw [← hAe]; exact Or.inr h
  have hP : va_P (dC, dI) vwCl [(h0, .inr (0, [.ref a1, .ref a2, .ref a3, .int (nI N), .int fa])), (a1, .inl (k1, 400, .inl (pm_nf9 cn))), (a2, .inl (k2, 8000, .inl fl)), (a3, .inl (k3, 16, .inl rt))] s.heap := hP
  have hl := lv_entry ([.ref h0, .int p0]) (n := 2) (Nat.le_of_ble_eq_true rfl)
  rw [lg_entry_eq]
  generalize (lg_sl ([.ref h0, .int p0]) ++ List.replicate (2 - (lg_sl ([.ref h0, .int p0])).length) Slot.unset).toArray = ls at hl ⊢
  have hl : lv_has ls 2 [(0, .ref h0), (1, .int p0)] := hl
  obtain ⟨H, hH⟩ : ∃ H : Heap, H = s.heap := ⟨_, rfl⟩
  rw [← hH]
  rw [← hH] at hP
  have hS : va_S A s.heap H [] := by rw [hH]; exact va_S.rf
  clear hH
  refine lv_iload_n hx hb dX0_hasRoot_0 rfl (lv_at hl 1 rfl) ?_
  refine lv_if_lt (tgt := 14) hx hb dX0_hasRoot_1 (by decide) (fun c_1 => ?_) (fun c_1 => ?_)
  · refine lv_iconst (v := nI 0) hx hb dX0_hasRoot_14 (by decide +kernel) ?_
    exact W.zret (v := nI 0) hx hb hr (by decide +kernel) (fun t ht hW => ⟨⟨nI 0, (), rfl, pm_h1 c_1, by rw [ht]; exact hP, va_K.moved hW.alike hK, hD⟩, hS.F ht⟩) hS.2.2 dX0_hasRoot_15
  · refine lv_iload_n hx hb dX0_hasRoot_4 rfl (lv_at hl 1 rfl) ?_
    refine lv_bipush (v := nI 16) hx hb dX0_hasRoot_5 (by decide +kernel) ?_
    refine lv_icmp_ge (tgt := 14) hx hb dX0_hasRoot_7 (by decide) (fun c_7 => ?_) (fun c_7 => ?_)
    · refine lv_iconst (v := nI 0) hx hb dX0_hasRoot_14 (by decide +kernel) ?_
      exact W.zret (v := nI 0) hx hb hr (by decide +kernel) (fun t ht hW => ⟨⟨nI 0, (), rfl, pm_h2 c_7, by rw [ht]; exact hP, va_K.moved hW.alike hK, hD⟩, hS.F ht⟩) hS.2.2 dX0_hasRoot_15
    · refine lv_iconst (v := nI 1) hx hb dX0_hasRoot_10 (by decide +kernel) ?_
      refine lv_goto (tgt := 15) hx hb dX0_hasRoot_11 (by decide) ?_
      exact W.zret (v := nI 1) hx hb hr (by decide +kernel) (fun t ht hW => ⟨⟨nI 1, (), rfl, pm_h3 c_1 c_7, by rw [ht]; exact hP, va_K.moved hW.alike hK, hD⟩, hS.F ht⟩) hS.2.2 dX0_hasRoot_15

set_option maxHeartbeats 4000000 in
set_option maxRecDepth 100000 in
/-- Heap.hasOrIsNone(k) -/
theorem c_H_hasOrIsNone (l : Launch) (dC : Nat → ClassId) (dI : Nat → Nat → Nat) (h0 a1 a2 a3 : Nat) (k1 k2 k3 : ClassId) (N : Nat) (cn : Nat → Nat) (fl rt : Nat → Int32) (fa : Int32) (p0 : Int32) (sz : Nat)  : Met l yX0_hasOrIsNone wsX0_hasOrIsNone ({ frames := 1, cells := 0, slots := 0, locals := 21 }) (va_Pc [.ref h0, .int p0] (fun U => U.heap.size = sz ∧ va_P (dC, dI) vwCl [(h0, .inr (0, [.ref a1, .ref a2, .ref a3, .int (nI N), .int fa])), (a1, .inl (k1, 400, .inl (pm_nf9 cn))), (a2, .inl (k2, 8000, .inl fl)), (a3, .inl (k3, 16, .inl rt))] U.heap ∧ va_K (dC, dI) vwCl [(k1, .int), (k2, .int), (k3, .int)] U ∧ va_D (fun _ => True) [(h0, .inr (0, [.ref a1, .ref a2, .ref a3, .int (nI N), .int fa])), (a1, .inl (k1, 400, .inl (pm_nf9 cn))), (a2, .inl (k2, 8000, .inl fl)), (a3, .inl (k3, 16, .inl rt))])) (va_Qi (fun (r : Int32) (_ : Unit) => r = pm_b (decide (p0 = -1) || pm_has N p0)) (fun (_ : Unit) (t : State) => va_P (dC, dI) vwCl [(h0, .inr (0, [.ref a1, .ref a2, .ref a3, .int (nI N), .int fa])), (a1, .inl (k1, 400, .inl (pm_nf9 cn))), (a2, .inl (k2, 8000, .inl fl)), (a3, .inl (k3, 16, .inl rt))] t.heap ∧ va_K (dC, dI) vwCl [(k1, .int), (k2, .int), (k3, .int)] t ∧ va_D (va_A [(h0, .inr (0, [.ref a1, .ref a2, .ref a3, .int (nI N), .int fa])), (a1, .inl (k1, 400, .inl (pm_nf9 cn))), (a2, .inl (k2, 8000, .inl fl)), (a3, .inl (k3, 16, .inl rt))] sz) [(h0, .inr (0, [.ref a1, .ref a2, .ref a3, .int (nI N), .int fa])), (a1, .inl (k1, 400, .inl (pm_nf9 cn))), (a2, .inl (k2, 8000, .inl fl)), (a3, .inl (k3, 16, .inl rt))]) (va_A [(h0, .inr (0, [.ref a1, .ref a2, .ref a3, .int (nI N), .int fa])), (a1, .inl (k1, 400, .inl (pm_nf9 cn))), (a2, .inl (k2, 8000, .inl fl)), (a3, .inl (k3, 16, .inl rt))] sz)) 0 0 (va_A [(h0, .inr (0, [.ref a1, .ref a2, .ref a3, .int (nI N), .int fa])), (a1, .inl (k1, 400, .inl (pm_nf9 cn))), (a2, .inl (k2, 8000, .inl fl)), (a3, .inl (k3, 16, .inl rt))] sz) := by
  refine Met.ofW (cc := cX0_hasOrIsNone) (maxL := 2) (ret := (some .boolean)) (by decide) rfl ?_
  intro p e s m args below meth c s₁ B hml hv
  obtain ⟨rfl, hsz, hP, hK, hD0⟩ := hv
  have hx := B.exec
  have hb := B.bytes
  have hr := B.returns
  have hts : ∀ w ∈ gw, w.before _ s = true := fun w h => atoms_spec (ws := wsX0_hasOrIsNone) B.pre w (List.mem_cons_of_mem _ h)
  have hown : s.vm.findClass RX0 = some m.cls := findClass_of_methodNamed B.named
  have hlocks := B.notSynchronized
  subst hsz
  have hD := hD0.self (sz := s.heap.size)
  generalize hAe : va_A [(h0, .inr (0, [.ref a1, .ref a2, .ref a3, .int (nI N), .int fa])), (a1, .inl (k1, 400, .inl (pm_nf9 cn))), (a2, .inl (k2, 8000, .inl fl)), (a3, .inl (k3, 16, .inl rt))] s.heap.size = A at hD ⊢
  have hA : ∀ q : Nat, s.heap.size ≤ q → A q := fun q h => by rw [← hAe]; exact Or.inr h
  have hP : va_P (dC, dI) vwCl [(h0, .inr (0, [.ref a1, .ref a2, .ref a3, .int (nI N), .int fa])), (a1, .inl (k1, 400, .inl (pm_nf9 cn))), (a2, .inl (k2, 8000, .inl fl)), (a3, .inl (k3, 16, .inl rt))] s.heap := hP
  have hl := lv_entry ([.ref h0, .int p0]) (n := 2) (Nat.le_of_ble_eq_true rfl)
  rw [lg_entry_eq]
  generalize (lg_sl ([.ref h0, .int p0]) ++ List.replicate (2 - (lg_sl ([.ref h0, .int p0])).length) Slot.unset).toArray = ls at hl ⊢
  have hl : lv_has ls 2 [(0, .ref h0), (1, .int p0)] := hl
  obtain ⟨H, hH⟩ : ∃ H : Heap, H = s.heap := ⟨_, rfl⟩
  rw [← hH]
  rw [← hH] at hP
  have hS : va_S A s.heap H [] := by rw [hH]; exact va_S.rf
  clear hH
  refine lv_iload_n hx hb dX0_hasOrIsNone_0 rfl (lv_at hl 1 rfl) ?_
  refine lv_iconst (v := -1) hx hb dX0_hasOrIsNone_1 (by decide +kernel) ?_
  refine lv_icmp_eq (tgt := 13) hx hb dX0_hasOrIsNone_2 (by decide) (fun c_2 => ?_) (fun c_2 => ?_)
  · refine lv_iconst (v := nI 1) hx hb dX0_hasOrIsNone_13 (by decide +kernel) ?_
    refine lv_goto (tgt := 18) hx hb dX0_hasOrIsNone_14 (by decide) ?_
    exact W.zret (v := nI 1) hx hb hr (by decide +kernel) (fun t ht hW => ⟨⟨nI 1, (), rfl, pm_h4 c_2, by rw [ht]; exact hP, va_K.moved hW.alike hK, hD⟩, hS.F ht⟩) hS.2.2 dX0_hasOrIsNone_18
  · refine lv_aload_n hx hb dX0_hasOrIsNone_5 rfl (lv_at hl 0 rfl) ?_
    refine lv_iload_n hx hb dX0_hasOrIsNone_6 rfl (lv_at hl 1 rfl) ?_
    have hPc := hP.sub (ws' := [(h0, .inr (0, [.ref a1, .ref a2, .ref a3, .int (nI N), .int fa])), (a1, .inl (k1, 400, .inl (pm_nf9 cn))), (a2, .inl (k2, 8000, .inl fl)), (a3, .inl (k3, 16, .inl rt))]) [0, 1, 2, 3] rfl
    have hDc := hD.sub (ws' := [(h0, .inr (0, [.ref a1, .ref a2, .ref a3, .int (nI N), .int fa])), (a1, .inl (k1, 400, .inl (pm_nf9 cn))), (a2, .inl (k2, 8000, .inl fl)), (a3, .inl (k3, 16, .inl rt))]) [0, 1, 2, 3] (by decide) rfl
    have hKc := hK.sub (tys' := [(k1, .int), (k2, .int), (k3, .int)]) [0, 1, 2] rfl
    have hFc := va_free (wc := [(h0, .inr (0, [.ref a1, .ref a2, .ref a3, .int (nI N), .int fa])), (a1, .inl (k1, 400, .inl (pm_nf9 cn))), (a2, .inl (k2, 8000, .inl fl)), (a3, .inl (k3, 16, .inl rt))]) hD hS hA [0, 1, 2, 3] rfl
    refine va_calli (va_runV (As := [.int p0]) (rest := []) ⟨hx, hb, hml, hown, hts⟩ (c_H_has l dC dI h0 a1 a2 a3 k1 k2 k3 N cn fl rt fa p0 H.size) (cwV 1 hts (gw_V ml_X0_28 mi_X0_has ms_X0_has mn_X0 mc_X0_has) rfl rfl rfl (by decide +kernel) ⟨Nat.le_of_ble_eq_true rfl, Nat.le_of_ble_eq_true rfl⟩) ⟨fun a U g mk q => by obtain ⟨q0, q1, qP, qK, qD⟩ := q; exact ⟨q0, q1, qP, va_K.moved (u := U) (U := U.calling g mk a) (Vm.Alike.refl U.vm) qK, qD⟩, va_recv hKc hPc (ci := 0) (q0 := 0) rfl rfl, fun U hU hW => ⟨rfl, by rw [hU], by rw [hU]; exact hPc, va_K.moved hW.alike hKc, hDc.weaken (fun _ _ _ _ => trivial)⟩⟩ rfl rfl hl.1 rfl (lv_room (Nat.le_of_ble_eq_true rfl)) dX0_hasOrIsNone_7 ⟨Nat.le_of_ble_eq_true rfl, Nat.le_of_ble_eq_true rfl⟩) hS (fun q _ h => hFc q h) hFc (fun r_1 u t H1 locs ht hvm hw hB hz1 hk1 hS => ?_)
    obtain ⟨hP1, hK1, hD1⟩ := hB
    rw [ht] at hP1
    have hK1 := va_K.moved hvm.symm hK1
    obtain ⟨hP, hD⟩ := va_join (wr := []) (w1 := [(h0, .inr (0, [.ref a1, .ref a2, .ref a3, .int (nI N), .int fa])), (a1, .inl (k1, 400, .inl (pm_nf9 cn))), (a2, .inl (k2, 8000, .inl fl)), (a3, .inl (k3, 16, .inl rt))]) hP hD [0, 1, 2, 3] [] rfl rfl (by decide) (by decide) hk1 hFc hP1 hD1
    clear hPc hDc hKc hFc hP1 hK1 hD1
    generalize H1 = H at hP hS ⊢
    have hP : va_P (dC, dI) vwCl [(h0, .inr (0, [.ref a1, .ref a2, .ref a3, .int (nI N), .int fa])), (a1, .inl (k1, 400, .inl (pm_nf9 cn))), (a2, .inl (k2, 8000, .inl fl)), (a3, .inl (k3, 16, .inl rt))] H := hP.sub [0, 1, 2, 3] rfl
    have hD : va_D A [(h0, .inr (0, [.ref a1, .ref a2, .ref a3, .int (nI N), .int fa])), (a1, .inl (k1, 400, .inl (pm_nf9 cn))), (a2, .inl (k2, 8000, .inl fl)), (a3, .inl (k3, 16, .inl rt))] := hD.sub [0, 1, 2, 3] (by decide) rfl
    rcases pm_tf (pm_has N p0) with hh_7 | hh_7
    · obtain rfl : r_1 = nI 1 := hw.trans (by rw [hh_7]; rfl)
      refine lv_if_eq (tgt := 17) hx hb dX0_hasOrIsNone_10 (by decide) (fun c_10 => absurd c_10 (by decide +kernel)) (fun c_10 => ?_)
      refine lv_iconst (v := nI 1) hx hb dX0_hasOrIsNone_13 (by decide +kernel) ?_
      refine lv_goto (tgt := 18) hx hb dX0_hasOrIsNone_14 (by decide) ?_
      exact W.zret (v := nI 1) hx hb hr (by decide +kernel) (fun t ht hW => ⟨⟨nI 1, (), rfl, pm_h5 c_2 hh_7, by rw [ht]; exact hP, va_K.moved hW.alike hK, hD⟩, hS.F ht⟩) hS.2.2 dX0_hasOrIsNone_18
    · obtain rfl : r_1 = nI 0 := hw.trans (by rw [hh_7]; rfl)
      refine lv_if_eq (tgt := 17) hx hb dX0_hasOrIsNone_10 (by decide) (fun c_10 => ?_) (fun c_10 => absurd c_10 (by decide +kernel))
      refine lv_iconst (v := nI 0) hx hb dX0_hasOrIsNone_17 (by decide +kernel) ?_
      exact W.zret (v := nI 0) hx hb hr (by decide +kernel) (fun t ht hW => ⟨⟨nI 0, (), rfl, pm_h6 c_2 hh_7, by rw [ht]; exact hP, va_K.moved hW.alike hK, hD⟩, hS.F ht⟩) hS.2.2 dX0_hasOrIsNone_18

set_option maxHeartbeats 4000000 in
set_option maxRecDepth 100000 in
/-- Heap.hasField(k, field) -/
theorem c_H_hasField (l : Launch) (dC : Nat → ClassId) (dI : Nat → Nat → Nat) (h0 a1 a2 a3 : Nat) (k1 k2 k3 : ClassId) (N : Nat) (cn : Nat → Nat) (fl rt : Nat → Int32) (fa : Int32) (p0 p1 : Int32) (sz : Nat) (hN : N ≤ 400) : Met l yX0_hasField wsX0_hasField ({ frames := 1, cells := 0, slots := 0, locals := 21 }) (va_Pc [.ref h0, .int p0, .int p1] (fun U => U.heap.size = sz ∧ va_P (dC, dI) vwCl [(h0, .inr (0, [.ref a1, .ref a2, .ref a3, .int (nI N), .int fa])), (a1, .inl (k1, 400, .inl (pm_nf9 cn))), (a2, .inl (k2, 8000, .inl fl)), (a3, .inl (k3, 16, .inl rt))] U.heap ∧ va_K (dC, dI) vwCl [(k1, .int), (k2, .int), (k3, .int)] U ∧ va_D (fun _ => True) [(h0, .inr (0, [.ref a1, .ref a2, .ref a3, .int (nI N), .int fa])), (a1, .inl (k1, 400, .inl (pm_nf9 cn))), (a2, .inl (k2, 8000, .inl fl)), (a3, .inl (k3, 16, .inl rt))])) (va_Qi (fun (r : Int32) (_ : Unit) => r = pm_b (pm_hf N cn p0 p1)) (fun (_ : Unit) (t : State) => va_P (dC, dI) vwCl [(h0, .inr (0, [.ref a1, .ref a2, .ref a3, .int (nI N), .int fa])), (a1, .inl (k1, 400, .inl (pm_nf9 cn))), (a2, .inl (k2, 8000, .inl fl)), (a3, .inl (k3, 16, .inl rt))] t.heap ∧ va_K (dC, dI) vwCl [(k1, .int), (k2, .int), (k3, .int)] t ∧ va_D (va_A [(h0, .inr (0, [.ref a1, .ref a2, .ref a3, .int (nI N), .int fa])), (a1, .inl (k1, 400, .inl (pm_nf9 cn))), (a2, .inl (k2, 8000, .inl fl)), (a3, .inl (k3, 16, .inl rt))] sz) [(h0, .inr (0, [.ref a1, .ref a2, .ref a3, .int (nI N), .int fa])), (a1, .inl (k1, 400, .inl (pm_nf9 cn))), (a2, .inl (k2, 8000, .inl fl)), (a3, .inl (k3, 16, .inl rt))]) (va_A [(h0, .inr (0, [.ref a1, .ref a2, .ref a3, .int (nI N), .int fa])), (a1, .inl (k1, 400, .inl (pm_nf9 cn))), (a2, .inl (k2, 8000, .inl fl)), (a3, .inl (k3, 16, .inl rt))] sz)) 0 0 (va_A [(h0, .inr (0, [.ref a1, .ref a2, .ref a3, .int (nI N), .int fa])), (a1, .inl (k1, 400, .inl (pm_nf9 cn))), (a2, .inl (k2, 8000, .inl fl)), (a3, .inl (k3, 16, .inl rt))] sz) := by
  refine Met.ofW (cc := cX0_hasField) (maxL := 3) (ret := (some .boolean)) (by decide) rfl ?_
  intro p e s m args below meth c s₁ B hml hv
  obtain ⟨rfl, hsz, hP, hK, hD0⟩ := hv
  have hx := B.exec
  have hb := B.bytes
  have hr := B.returns
  have hts : ∀ w ∈ gw, w.before _ s = true := fun w h => atoms_spec (ws := wsX0_hasField) B.pre w (List.mem_cons_of_mem _ h)
  have hown : s.vm.findClass RX0 = some m.cls := findClass_of_methodNamed B.named
  have hlocks := B.notSynchronized
  subst hsz
  have hD := hD0.self (sz := s.heap.size)
  generalize hAe : va_A [(h0, .inr (0, [.ref a1, .ref a2, .ref a3, .int (nI N), .int fa])), (a1, .inl (k1, 400, .inl (pm_nf9 cn))), (a2, .inl (k2, 8000, .inl fl)), (a3, .inl (k3, 16, .inl rt))] s.heap.size = A at hD ⊢
  have hA : ∀ q : Nat, s.heap.size ≤ q → A q := fun q h => by rw [← hAe]; exact Or.inr h
  have hP : va_P (dC, dI) vwCl [(h0, .inr (0, [.ref a1, .ref a2, .ref a3, .int (nI N), .int fa])), (a1, .inl (k1, 400, .inl (pm_nf9 cn))), (a2, .inl (k2, 8000, .inl fl)), (a3, .inl (k3, 16, .inl rt))] s.heap := hP
  have hl := lv_entry ([.ref h0, .int p0, .int p1]) (n := 3) (Nat.le_of_ble_eq_true rfl)
  rw [lg_entry_eq]
  generalize (lg_sl ([.ref h0, .int p0, .int p1]) ++ List.replicate (3 - (lg_sl ([.ref h0, .int p0, .int p1])).length) Slot.unset).toArray = ls at hl ⊢
  have hl : lv_has ls 3 [(0, .ref h0), (1, .int p0), (2, .int p1)] := hl
  obtain ⟨H, hH⟩ : ∃ H : Heap, H = s.heap := ⟨_, rfl⟩
  rw [← hH]
  rw [← hH] at hP
  have hS : va_S A s.heap H [] := by rw [hH]; exact va_S.rf
  clear hH
  refine lv_aload_n hx hb dX0_hasField_0 rfl (lv_at hl 0 rfl) ?_
  refine lv_iload_n hx hb dX0_hasField_1 rfl (lv_at hl 1 rfl) ?_
  have hPc := hP.sub (ws' := [(h0, .inr (0, [.ref a1, .ref a2, .ref a3, .int (nI N), .int fa])), (a1, .inl (k1, 400, .inl (pm_nf9 cn))), (a2, .inl (k2, 8000, .inl fl)), (a3, .inl (k3, 16, .inl rt))]) [0, 1, 2, 3] rfl
  have hDc := hD.sub (ws' := [(h0, .inr (0, [.ref a1, .ref a2, .ref a3, .int (nI N), .int fa])), (a1, .inl (k1, 400, .inl (pm_nf9 cn))), (a2, .inl (k2, 8000, .inl fl)), (a3, .inl (k3, 16, .inl rt))]) [0, 1, 2, 3] (by decide) rfl
  have hKc := hK.sub (tys' := [(k1, .int), (k2, .int), (k3, .int)]) [0, 1, 2] rfl
  have hFc := va_free (wc := [(h0, .inr (0, [.ref a1, .ref a2, .ref a3, .int (nI N), .int fa])), (a1, .inl (k1, 400, .inl (pm_nf9 cn))), (a2, .inl (k2, 8000, .inl fl)), (a3, .inl (k3, 16, .inl rt))]) hD hS hA [0, 1, 2, 3] rfl
  refine va_calli (va_runV (As := [.int p0]) (rest := []) ⟨hx, hb, hml, hown, hts⟩ (c_H_has l dC dI h0 a1 a2 a3 k1 k2 k3 N cn fl rt fa p0 H.size) (cwV 1 hts (gw_V ml_X0_28 mi_X0_has ms_X0_has mn_X0 mc_X0_has) rfl rfl rfl (by decide +kernel) ⟨Nat.le_of_ble_eq_true rfl, Nat.le_of_ble_eq_true rfl⟩) ⟨fun a U g mk q => by obtain ⟨q0, q1, qP, qK, qD⟩ := q; exact ⟨q0, q1, qP, va_K.moved (u := U) (U := U.calling g mk a) (Vm.Alike.refl U.vm) qK, qD⟩, va_recv hKc hPc (ci := 0) (q0 := 0) rfl rfl, fun U hU hW => ⟨rfl, by rw [hU], by rw [hU]; exact hPc, va_K.moved hW.alike hKc, hDc.weaken (fun _ _ _ _ => trivial)⟩⟩ rfl rfl hl.1 rfl (lv_room (Nat.le_of_ble_eq_true rfl)) dX0_hasField_2 ⟨Nat.le_of_ble_eq_true rfl, Nat.le_of_ble_eq_true rfl⟩) hS (fun q _ h => hFc q h) hFc (fun r_1 u t H1 locs ht hvm hw hB hz1 hk1 hS => ?_)
  obtain ⟨hP1, hK1, hD1⟩ := hB
  rw [ht] at hP1
  have hK1 := va_K.moved hvm.symm hK1
  obtain ⟨hP, hD⟩ := va_join (wr := []) (w1 := [(h0, .inr (0, [.ref a1, .ref a2, .ref a3, .int (nI N), .int fa])), (a1, .inl (k1, 400, .inl (pm_nf9 cn))), (a2, .inl (k2, 8000, .inl fl)), (a3, .inl (k3, 16, .inl rt))]) hP hD [0, 1, 2, 3] [] rfl rfl (by decide) (by decide) hk1 hFc hP1 hD1
  clear hPc hDc hKc hFc hP1 hK1 hD1
  generalize H1 = H at hP hS ⊢
  have hP : va_P (dC, dI) vwCl [(h0, .inr (0, [.ref a1, .ref a2, .ref a3, .int (nI N), .int fa])), (a1, .inl (k1, 400, .inl (pm_nf9 cn))), (a2, .inl (k2, 8000, .inl fl)), (a3, .inl (k3, 16, .inl rt))] H := hP.sub [0, 1, 2, 3] rfl
  have hD : va_D A [(h0, .inr (0, [.ref a1, .ref a2, .ref a3, .int (nI N), .int fa])), (a1, .inl (k1, 400, .inl (pm_nf9 cn))), (a2, .inl (k2, 8000, .inl fl)), (a3, .inl (k3, 16, .inl rt))] := hD.sub [0, 1, 2, 3] (by decide) rfl
  rcases pm_tf (pm_has N p0) with hh_2 | hh_2
  · obtain rfl : r_1 = nI 1 := hw.trans (by rw [hh_2]; rfl)
    have hj := pm_has_cl (by omega) hh_2
    refine lv_if_eq (tgt := 26) hx hb dX0_hasField_5 (by decide) (fun c_5 => absurd c_5 (by decide +kernel)) (fun c_5 => ?_)
    refine lv_iload_n hx hb dX0_hasField_8 rfl (lv_at hl 2 rfl) ?_
    refine lv_if_lt (tgt := 26) hx hb dX0_hasField_9 (by decide) (fun c_9 => ?_) (fun c_9 => ?_)
    · refine lv_iconst (v := nI 0) hx hb dX0_hasField_26 (by decide +kernel) ?_
      exact W.zret (v := nI 0) hx hb hr (by decide +kernel) (fun t ht hW => ⟨⟨nI 0, (), rfl, pm_h8 hh_2 c_9, by rw [ht]; exact hP, va_K.moved hW.alike hK, hD⟩, hS.F ht⟩) hS.2.2 dX0_hasField_27
    · refine lv_iload_n hx hb dX0_hasField_12 rfl (lv_at hl 2 rfl) ?_
      refine lv_aload_n hx hb dX0_hasField_13 rfl (lv_at hl 0 rfl) ?_
      refine va_get (D := (dC, dI)) (ci := 0) (v := .ref a1) (C := RX0) (T := TX0) (N := 5) hx hb hts iw_X0 hown hK hP 0 rfl rfl 0 (by decide) (hts _ mf_X0_9) (fun _ h9 => h9) rfl dX0_hasField_14 ?_
      refine lv_iload_n hx hb dX0_hasField_17 rfl (lv_at hl 1 rfl) ?_
      refine va_iald hx hb hK hP 1 0 rfl rfl (pm_has_in hN (by omega) hh_2) dX0_hasField_18 ?_
      refine lv_topi (fun x_2 ex_2 => ?_)
      subst ex_2
      refine lv_icmp_ge (tgt := 26) hx hb dX0_hasField_19 (by decide) (fun c_19 => ?_) (fun c_19 => ?_)
      · refine lv_iconst (v := nI 0) hx hb dX0_hasField_26 (by decide +kernel) ?_
        exact W.zret (v := nI 0) hx hb hr (by decide +kernel) (fun t ht hW => ⟨⟨nI 0, (), rfl, pm_h9 hh_2 c_19, by rw [ht]; exact hP, va_K.moved hW.alike hK, hD⟩, hS.F ht⟩) hS.2.2 dX0_hasField_27
      · refine lv_iconst (v := nI 1) hx hb dX0_hasField_22 (by decide +kernel) ?_
        refine lv_goto (tgt := 27) hx hb dX0_hasField_23 (by decide) ?_
        exact W.zret (v := nI 1) hx hb hr (by decide +kernel) (fun t ht hW => ⟨⟨nI 1, (), rfl, pm_h10 hh_2 c_9 c_19, by rw [ht]; exact hP, va_K.moved hW.alike hK, hD⟩, hS.F ht⟩) hS.2.2 dX0_hasField_27
  · obtain rfl : r_1 = nI 0 := hw.trans (by rw [hh_2]; rfl)
    refine lv_if_eq (tgt := 26) hx hb dX0_hasField_5 (by decide) (fun c_5 => ?_) (fun c_5 => absurd c_5 (by decide +kernel))
    refine lv_iconst (v := nI 0) hx hb dX0_hasField_26 (by decide +kernel) ?_
    exact W.zret (v := nI 0) hx hb hr (by decide +kernel) (fun t ht hW => ⟨⟨nI 0, (), rfl, pm_h7 hh_2, by rw [ht]; exact hP, va_K.moved hW.alike hK, hD⟩, hS.F ht⟩) hS.2.2 dX0_hasField_27

set_option maxHeartbeats 4000000 in
set_option maxRecDepth 100000 in
/-- Heap.fieldOf(k, field) -/
theorem c_H_fieldOf (l : Launch) (dC : Nat → ClassId) (dI : Nat → Nat → Nat) (h0 a1 a2 a3 : Nat) (k1 k2 k3 : ClassId) (N : Nat) (cn : Nat → Nat) (fl rt : Nat → Int32) (fa : Int32) (p0 p1 : Int32) (sz : Nat) (hN : N ≤ 400) (hc : ∀ k, k < N → cn k ≤ 20) : Met l yX0_fieldOf wsX0_fieldOf ({ frames := 2, cells := 0, slots := 0, locals := 43 }) (va_Pc [.ref h0, .int p0, .int p1] (fun U => U.heap.size = sz ∧ va_P (dC, dI) vwCl [(h0, .inr (0, [.ref a1, .ref a2, .ref a3, .int (nI N), .int fa])), (a1, .inl (k1, 400, .inl (pm_nf9 cn))), (a2, .inl (k2, 8000, .inl fl)), (a3, .inl (k3, 16, .inl rt))] U.heap ∧ va_K (dC, dI) vwCl [(k1, .int), (k2, .int), (k3, .int)] U ∧ va_D (fun _ => True) [(h0, .inr (0, [.ref a1, .ref a2, .ref a3, .int (nI N), .int fa])), (a1, .inl (k1, 400, .inl (pm_nf9 cn))), (a2, .inl (k2, 8000, .inl fl)), (a3, .inl (k3, 16, .inl rt))])) (va_Qi (fun (r : Int32) (_ : Unit) => r = pm_fo N cn fl p0 p1) (fun (_ : Unit) (t : State) => va_P (dC, dI) vwCl [(h0, .inr (0, [.ref a1, .ref a2, .ref a3, .int (nI N), .int fa])), (a1, .inl (k1, 400, .inl (pm_nf9 cn))), (a2, .inl (k2, 8000, .inl fl)), (a3, .inl (k3, 16, .inl rt))] t.heap ∧ va_K (dC, dI) vwCl [(k1, .int), (k2, .int), (k3, .int)] t ∧ va_D (va_A [(h0, .inr (0, [.ref a1, .ref a2, .ref a3, .int (nI N), .int fa])), (a1, .inl (k1, 400, .inl (pm_nf9 cn))), (a2, .inl (k2, 8000, .inl fl)), (a3, .inl (k3, 16, .inl rt))] sz) [(h0, .inr (0, [.ref a1, .ref a2, .ref a3, .int (nI N), .int fa])), (a1, .inl (k1, 400, .inl (pm_nf9 cn))), (a2, .inl (k2, 8000, .inl fl)), (a3, .inl (k3, 16, .inl rt))]) (va_A [(h0, .inr (0, [.ref a1, .ref a2, .ref a3, .int (nI N), .int fa])), (a1, .inl (k1, 400, .inl (pm_nf9 cn))), (a2, .inl (k2, 8000, .inl fl)), (a3, .inl (k3, 16, .inl rt))] sz)) 0 0 (va_A [(h0, .inr (0, [.ref a1, .ref a2, .ref a3, .int (nI N), .int fa])), (a1, .inl (k1, 400, .inl (pm_nf9 cn))), (a2, .inl (k2, 8000, .inl fl)), (a3, .inl (k3, 16, .inl rt))] sz) := by
  refine Met.ofW (cc := cX0_fieldOf) (maxL := 3) (ret := (some .int)) (by decide) rfl ?_
  intro p e s m args below meth c s₁ B hml hv
  obtain ⟨rfl, hsz, hP, hK, hD0⟩ := hv
  have hx := B.exec
  have hb := B.bytes
  have hr := B.returns
  have hts : ∀ w ∈ gw, w.before _ s = true := fun w h => atoms_spec (ws := wsX0_fieldOf) B.pre w (List.mem_cons_of_mem _ h)
  have hown : s.vm.findClass RX0 = some m.cls := findClass_of_methodNamed B.named
  have hlocks := B.notSynchronized
  subst hsz
  have hD := hD0.self (sz := s.heap.size)
  generalize hAe : va_A [(h0, .inr (0, [.ref a1, .ref a2, .ref a3, .int (nI N), .int fa])), (a1, .inl (k1, 400, .inl (pm_nf9 cn))), (a2, .inl (k2, 8000, .inl fl)), (a3, .inl (k3, 16, .inl rt))] s.heap.size = A at hD ⊢
  have hA : ∀ q : Nat, s.heap.size ≤ q → A q := fun q h => by rw [← hAe]; exact Or.inr h
  have hP : va_P (dC, dI) vwCl [(h0, .inr (0, [.ref a1, .ref a2, .ref a3, .int (nI N), .int fa])), (a1, .inl (k1, 400, .inl (pm_nf9 cn))), (a2, .inl (k2, 8000, .inl fl)), (a3, .inl (k3, 16, .inl rt))] s.heap := hP
  have hl := lv_entry ([.ref h0, .int p0, .int p1]) (n := 3) (Nat.le_of_ble_eq_true rfl)
  rw [lg_entry_eq]
  generalize (lg_sl ([.ref h0, .int p0, .int p1]) ++ List.replicate (3 - (lg_sl ([.ref h0, .int p0, .int p1])).length) Slot.unset).toArray = ls at hl ⊢
  have hl : lv_has ls 3 [(0, .ref h0), (1, .int p0), (2, .int p1)] := hl
  obtain ⟨H, hH⟩ : ∃ H : Heap, H = s.heap := ⟨_, rfl⟩
  rw [← hH]
  rw [← hH] at hP
  have hS : va_S A s.heap H [] := by rw [hH]; exact va_S.rf
  clear hH
  refine lv_aload_n hx hb dX0_fieldOf_0 rfl (lv_at hl 0 rfl) ?_
  refine lv_iload_n hx hb dX0_fieldOf_1 rfl (lv_at hl 1 rfl) ?_
  refine lv_iload_n hx hb dX0_fieldOf_2 rfl (lv_at hl 2 rfl) ?_
  have hPc := hP.sub (ws' := [(h0, .inr (0, [.ref a1, .ref a2, .ref a3, .int (nI N), .int fa])), (a1, .inl (k1, 400, .inl (pm_nf9 cn))), (a2, .inl (k2, 8000, .inl fl)), (a3, .inl (k3, 16, .inl rt))]) [0, 1, 2, 3] rfl
  have hDc := hD.sub (ws' := [(h0, .inr (0, [.ref a1, .ref a2, .ref a3, .int (nI N), .int fa])), (a1, .inl (k1, 400, .inl (pm_nf9 cn))), (a2, .inl (k2, 8000, .inl fl)), (a3, .inl (k3, 16, .inl rt))]) [0, 1, 2, 3] (by decide) rfl
  have hKc := hK.sub (tys' := [(k1, .int), (k2, .int), (k3, .int)]) [0, 1, 2] rfl
  have hFc := va_free (wc := [(h0, .inr (0, [.ref a1, .ref a2, .ref a3, .int (nI N), .int fa])), (a1, .inl (k1, 400, .inl (pm_nf9 cn))), (a2, .inl (k2, 8000, .inl fl)), (a3, .inl (k3, 16, .inl rt))]) hD hS hA [0, 1, 2, 3] rfl
  refine va_calli (va_runV (As := [.int p0, .int p1]) (rest := []) ⟨hx, hb, hml, hown, hts⟩ (c_H_hasField l dC dI h0 a1 a2 a3 k1 k2 k3 N cn fl rt fa p0 p1 H.size (hN)) (cwV 2 hts (gw_V ml_X0_36 mi_X0_hasField ms_X0_hasField mn_X0 mc_X0_hasField) rfl rfl rfl (by decide +kernel) ⟨Nat.le_of_ble_eq_true rfl, Nat.le_of_ble_eq_true rfl⟩) ⟨fun a U g mk q => by obtain ⟨q0, q1, qP, qK, qD⟩ := q; exact ⟨q0, q1, qP, va_K.moved (u := U) (U := U.calling g mk a) (Vm.Alike.refl U.vm) qK, qD⟩, va_recv hKc hPc (ci := 0) (q0 := 0) rfl rfl, fun U hU hW => ⟨rfl, by rw [hU], by rw [hU]; exact hPc, va_K.moved hW.alike hKc, hDc.weaken (fun _ _ _ _ => trivial)⟩⟩ rfl rfl hl.1 rfl (lv_room (Nat.le_of_ble_eq_true rfl)) dX0_fieldOf_3 ⟨Nat.le_of_ble_eq_true rfl, Nat.le_of_ble_eq_true rfl⟩) hS (fun q _ h => hFc q h) hFc (fun r_1 u t H1 locs ht hvm hw hB hz1 hk1 hS => ?_)
  obtain ⟨hP1, hK1, hD1⟩ := hB
  rw [ht] at hP1
  have hK1 := va_K.moved hvm.symm hK1
  obtain ⟨hP, hD⟩ := va_join (wr := []) (w1 := [(h0, .inr (0, [.ref a1, .ref a2, .ref a3, .int (nI N), .int fa])), (a1, .inl (k1, 400, .inl (pm_nf9 cn))), (a2, .inl (k2, 8000, .inl fl)), (a3, .inl (k3, 16, .inl rt))]) hP hD [0, 1, 2, 3] [] rfl rfl (by decide) (by decide) hk1 hFc hP1 hD1
  clear hPc hDc hKc hFc hP1 hK1 hD1
  generalize H1 = H at hP hS ⊢
  have hP : va_P (dC, dI) vwCl [(h0, .inr (0, [.ref a1, .ref a2, .ref a3, .int (nI N), .int fa])), (a1, .inl (k1, 400, .inl (pm_nf9 cn))), (a2, .inl (k2, 8000, .inl fl)), (a3, .inl (k3, 16, .inl rt))] H := hP.sub [0, 1, 2, 3] rfl
  have hD : va_D A [(h0, .inr (0, [.ref a1, .ref a2, .ref a3, .int (nI N), .int fa])), (a1, .inl (k1, 400, .inl (pm_nf9 cn))), (a2, .inl (k2, 8000, .inl fl)), (a3, .inl (k3, 16, .inl rt))] := hD.sub [0, 1, 2, 3] (by decide) rfl
  rcases pm_tf (pm_hf N cn p0 p1) with hh_3 | hh_3
  · obtain rfl : r_1 = nI 1 := hw.trans (by rw [hh_3]; rfl)
    obtain ⟨a, j, ha, hj, rfl, rfl⟩ := pm_hf_of (by omega) hc hh_3
    have hca := hc a ha
    refine lv_if_eq (tgt := 23) hx hb dX0_fieldOf_6 (by decide) (fun c_6 => absurd c_6 (by decide +kernel)) (fun c_6 => ?_)
    refine lv_aload_n hx hb dX0_fieldOf_9 rfl (lv_at hl 0 rfl) ?_
    refine va_get (D := (dC, dI)) (ci := 0) (v := .ref a2) (C := RX0) (T := TX0) (N := 5) hx hb hts iw_X0 hown hK hP 0 rfl rfl 1 (by decide) (hts _ mf_X0_15) (fun _ h9 => h9) rfl dX0_fieldOf_10 ?_
    refine lv_iload_n hx hb dX0_fieldOf_13 rfl (lv_at hl 1 rfl) ?_
    refine lv_bipush (v := nI 20) hx hb dX0_fieldOf_14 (by decide +kernel) ?_
    refine lv_imul hx hb dX0_fieldOf_16 ?_
    refine lv_topi (fun x_2 ex_2 => ?_)
    obtain rfl : x_2 = nI (a * 20) := ex_2.trans (pk_mul _ _)
    refine lv_iload_n hx hb dX0_fieldOf_17 rfl (lv_at hl 2 rfl) ?_
    refine lv_iadd hx hb dX0_fieldOf_18 ?_
    refine lv_topi (fun x_3 ex_3 => ?_)
    obtain rfl : x_3 = nI ((a * 20) + j) := ex_3.trans (nI_add _ _)
    refine va_iald hx hb hK hP 2 1 rfl rfl (vp_in_nI (by omega) (by omega)) dX0_fieldOf_19 ?_
    refine lv_topi (fun x_4 ex_4 => ?_)
    rw [nI_clamp (by omega)] at ex_4
    subst ex_4
    refine lv_goto (tgt := 24) hx hb dX0_fieldOf_20 (by decide) ?_
    exact W.iret (v := fl (((a * 20) + j))) hx hb hr (fun t ht hW => ⟨⟨fl (((a * 20) + j)), (), rfl, pm_fo_t hh_3 (by omega) (by omega), by rw [ht]; exact hP, va_K.moved hW.alike hK, hD⟩, hS.F ht⟩) hS.2.2 dX0_fieldOf_24
  · obtain rfl : r_1 = nI 0 := hw.trans (by rw [hh_3]; rfl)
    refine lv_if_eq (tgt := 23) hx hb dX0_fieldOf_6 (by decide) (fun c_6 => ?_) (fun c_6 => absurd c_6 (by decide +kernel))
    refine lv_iconst (v := -1) hx hb dX0_fieldOf_23 (by decide +kernel) ?_
    exact W.iret (v := -1) hx hb hr (fun t ht hW => ⟨⟨-1, (), rfl, pm_fo_f hh_3, by rw [ht]; exact hP, va_K.moved hW.alike hK, hD⟩, hS.F ht⟩) hS.2.2 dX0_fieldOf_24

set_option maxHeartbeats 4000000 in
set_option maxRecDepth 100000 in
/-- Heap.rootAt(i) -/
theorem c_H_rootAt (l : Launch) (dC : Nat → ClassId) (dI : Nat → Nat → Nat) (h0 a1 a2 a3 : Nat) (k1 k2 k3 : ClassId) (N : Nat) (cn : Nat → Nat) (fl rt : Nat → Int32) (fa : Int32) (p0 : Int32) (sz : Nat)  : Met l yX0_rootAt wsX0_rootAt ({ frames := 1, cells := 0, slots := 0, locals := 21 }) (va_Pc [.ref h0, .int p0] (fun U => U.heap.size = sz ∧ va_P (dC, dI) vwCl [(h0, .inr (0, [.ref a1, .ref a2, .ref a3, .int (nI N), .int fa])), (a1, .inl (k1, 400, .inl (pm_nf9 cn))), (a2, .inl (k2, 8000, .inl fl)), (a3, .inl (k3, 16, .inl rt))] U.heap ∧ va_K (dC, dI) vwCl [(k1, .int), (k2, .int), (k3, .int)] U ∧ va_D (fun _ => True) [(h0, .inr (0, [.ref a1, .ref a2, .ref a3, .int (nI N), .int fa])), (a1, .inl (k1, 400, .inl (pm_nf9 cn))), (a2, .inl (k2, 8000, .inl fl)), (a3, .inl (k3, 16, .inl rt))])) (va_Qi (fun (r : Int32) (_ : Unit) => r = (if pm_has 16 p0 = true then rt p0.toNatClampNeg else -1)) (fun (_ : Unit) (t : State) => va_P (dC, dI) vwCl [(h0, .inr (0, [.ref a1, .ref a2, .ref a3, .int (nI N), .int fa])), (a1, .inl (k1, 400, .inl (pm_nf9 cn))), (a2, .inl (k2, 8000, .inl fl)), (a3, .inl (k3, 16, .inl rt))] t.heap ∧ va_K (dC, dI) vwCl [(k1, .int), (k2, .int), (k3, .int)] t ∧ va_D (va_A [(h0, .inr (0, [.ref a1, .ref a2, .ref a3, .int (nI N), .int fa])), (a1, .inl (k1, 400, .inl (pm_nf9 cn))), (a2, .inl (k2, 8000, .inl fl)), (a3, .inl (k3, 16, .inl rt))] sz) [(h0, .inr (0, [.ref a1, .ref a2, .ref a3, .int (nI N), .int fa])), (a1, .inl (k1, 400, .inl (pm_nf9 cn))), (a2, .inl (k2, 8000, .inl fl)), (a3, .inl (k3, 16, .inl rt))]) (va_A [(h0, .inr (0, [.ref a1, .ref a2, .ref a3, .int (nI N), .int fa])), (a1, .inl (k1, 400, .inl (pm_nf9 cn))), (a2, .inl (k2, 8000, .inl fl)), (a3, .inl (k3, 16, .inl rt))] sz)) 0 0 (va_A [(h0, .inr (0, [.ref a1, .ref a2, .ref a3, .int (nI N), .int fa])), (a1, .inl (k1, 400, .inl (pm_nf9 cn))), (a2, .inl (k2, 8000, .inl fl)), (a3, .inl (k3, 16, .inl rt))] sz) := by
  refine Met.ofW (cc := cX0_rootAt) (maxL := 2) (ret := (some .int)) (by decide) rfl ?_
  intro p e s m args below meth c s₁ B hml hv
  obtain ⟨rfl, hsz, hP, hK, hD0⟩ := hv
  have hx := B.exec
  have hb := B.bytes
  have hr := B.returns
  have hts : ∀ w ∈ gw, w.before _ s = true := fun w h => atoms_spec (ws := wsX0_rootAt) B.pre w (List.mem_cons_of_mem _ h)
  have hown : s.vm.findClass RX0 = some m.cls := findClass_of_methodNamed B.named
  have hlocks := B.notSynchronized
  subst hsz
  have hD := hD0.self (sz := s.heap.size)
  generalize hAe : va_A [(h0, .inr (0, [.ref a1, .ref a2, .ref a3, .int (nI N), .int fa])), (a1, .inl (k1, 400, .inl (pm_nf9 cn))), (a2, .inl (k2, 8000, .inl fl)), (a3, .inl (k3, 16, .inl rt))] s.heap.size = A at hD ⊢
  have hA : ∀ q : Nat, s.heap.size ≤ q → A q := fun q h => by rw [← hAe]; exact Or.inr h
  have hP : va_P (dC, dI) vwCl [(h0, .inr (0, [.ref a1, .ref a2, .ref a3, .int (nI N), .int fa])), (a1, .inl (k1, 400, .inl (pm_nf9 cn))), (a2, .inl (k2, 8000, .inl fl)), (a3, .inl (k3, 16, .inl rt))] s.heap := hP
  have hl := lv_entry ([.ref h0, .int p0]) (n := 2) (Nat.le_of_ble_eq_true rfl)
  rw [lg_entry_eq]
  generalize (lg_sl ([.ref h0, .int p0]) ++ List.replicate (2 - (lg_sl ([.ref h0, .int p0])).length) Slot.unset).toArray = ls at hl ⊢
  have hl : lv_has ls 2 [(0, .ref h0), (1, .int p0)] := hl
  obtain ⟨H, hH⟩ : ∃ H : Heap, H = s.heap := ⟨_, rfl⟩
  rw [← hH]
  rw [← hH] at hP
  have hS : va_S A s.heap H [] := by rw [hH]; exact va_S.rf
  clear hH
  refine lv_aload_n hx hb dX0_rootAt_0 rfl (lv_at hl 0 rfl) ?_
  refine lv_iload_n hx hb dX0_rootAt_1 rfl (lv_at hl 1 rfl) ?_
  have hPc := hP.sub (ws' := [(h0, .inr (0, [.ref a1, .ref a2, .ref a3, .int (nI N), .int fa])), (a1, .inl (k1, 400, .inl (pm_nf9 cn))), (a2, .inl (k2, 8000, .inl fl)), (a3, .inl (k3, 16, .inl rt))]) [0, 1, 2, 3] rfl
  have hDc := hD.sub (ws' := [(h0, .inr (0, [.ref a1, .ref a2, .ref a3, .int (nI N), .int fa])), (a1, .inl (k1, 400, .inl (pm_nf9 cn))), (a2, .inl (k2, 8000, .inl fl)), (a3, .inl (k3, 16, .inl rt))]) [0, 1, 2, 3] (by decide) rfl
  have hKc := hK.sub (tys' := [(k1, .int), (k2, .int), (k3, .int)]) [0, 1, 2] rfl
  have hFc := va_free (wc := [(h0, .inr (0, [.ref a1, .ref a2, .ref a3, .int (nI N), .int fa])), (a1, .inl (k1, 400, .inl (pm_nf9 cn))), (a2, .inl (k2, 8000, .inl fl)), (a3, .inl (k3, 16, .inl rt))]) hD hS hA [0, 1, 2, 3] rfl
  refine va_calli (va_runV (As := [.int p0]) (rest := []) ⟨hx, hb, hml, hown, hts⟩ (c_H_hasRoot l dC dI h0 a1 a2 a3 k1 k2 k3 N cn fl rt fa p0 H.size) (cwV 1 hts (gw_V ml_X0_44 mi_X0_hasRoot ms_X0_hasRoot mn_X0 mc_X0_hasRoot) rfl rfl rfl (by decide +kernel) ⟨Nat.le_of_ble_eq_true rfl, Nat.le_of_ble_eq_true rfl⟩) ⟨fun a U g mk q => by obtain ⟨q0, q1, qP, qK, qD⟩ := q; exact ⟨q0, q1, qP, va_K.moved (u := U) (U := U.calling g mk a) (Vm.Alike.refl U.vm) qK, qD⟩, va_recv hKc hPc (ci := 0) (q0 := 0) rfl rfl, fun U hU hW => ⟨rfl, by rw [hU], by rw [hU]; exact hPc, va_K.moved hW.alike hKc, hDc.weaken (fun _ _ _ _ => trivial)⟩⟩ rfl rfl hl.1 rfl (lv_room (Nat.le_of_ble_eq_true rfl)) dX0_rootAt_2 ⟨Nat.le_of_ble_eq_true rfl, Nat.le_of_ble_eq_true rfl⟩) hS (fun q _ h => hFc q h) hFc (fun r_1 u t H1 locs ht hvm hw hB hz1 hk1 hS => ?_)
  obtain ⟨hP1, hK1, hD1⟩ := hB
  rw [ht] at hP1
  have hK1 := va_K.moved hvm.symm hK1
  obtain ⟨hP, hD⟩ := va_join (wr := []) (w1 := [(h0, .inr (0, [.ref a1, .ref a2, .ref a3, .int (nI N), .int fa])), (a1, .inl (k1, 400, .inl (pm_nf9 cn))), (a2, .inl (k2, 8000, .inl fl)), (a3, .inl (k3, 16, .inl rt))]) hP hD [0, 1, 2, 3] [] rfl rfl (by decide) (by decide) hk1 hFc hP1 hD1
  clear hPc hDc hKc hFc hP1 hK1 hD1
  generalize H1 = H at hP hS ⊢
  have hP : va_P (dC, dI) vwCl [(h0, .inr (0, [.ref a1, .ref a2, .ref a3, .int (nI N), .int fa])), (a1, .inl (k1, 400, .inl (pm_nf9 cn))), (a2, .inl (k2, 8000, .inl fl)), (a3, .inl (k3, 16, .inl rt))] H := hP.sub [0, 1, 2, 3] rfl
  have hD : va_D A [(h0, .inr (0, [.ref a1, .ref a2, .ref a3, .int (nI N), .int fa])), (a1, .inl (k1, 400, .inl (pm_nf9 cn))), (a2, .inl (k2, 8000, .inl fl)), (a3, .inl (k3, 16, .inl rt))] := hD.sub [0, 1, 2, 3] (by decide) rfl
  rcases pm_tf (pm_has 16 p0) with hh_2 | hh_2
  · obtain rfl : r_1 = nI 1 := hw.trans (by rw [hh_2]; rfl)
    refine lv_if_eq (tgt := 17) hx hb dX0_rootAt_5 (by decide) (fun c_5 => absurd c_5 (by decide +kernel)) (fun c_5 => ?_)
    refine lv_aload_n hx hb dX0_rootAt_8 rfl (lv_at hl 0 rfl) ?_
    refine va_get (D := (dC, dI)) (ci := 0) (v := .ref a3) (C := RX0) (T := TX0) (N := 5) hx hb hts iw_X0 hown hK hP 0 rfl rfl 2 (by decide) (hts _ mf_X0_18) (fun _ h9 => h9) rfl dX0_rootAt_9 ?_
    refine lv_iload_n hx hb dX0_rootAt_12 rfl (lv_at hl 1 rfl) ?_
    refine va_iald hx hb hK hP 3 2 rfl rfl (pm_has_in (Nat.le_refl 16) (by omega) hh_2) dX0_rootAt_13 ?_
    refine lv_topi (fun x_2 ex_2 => ?_)
    subst ex_2
    refine lv_goto (tgt := 18) hx hb dX0_rootAt_14 (by decide) ?_
    exact W.iret (v := rt (p0.toNatClampNeg)) hx hb hr (fun t ht hW => ⟨⟨rt (p0.toNatClampNeg), (), rfl, by rw [if_pos hh_2], by rw [ht]; exact hP, va_K.moved hW.alike hK, hD⟩, hS.F ht⟩) hS.2.2 dX0_rootAt_18
  · obtain rfl : r_1 = nI 0 := hw.trans (by rw [hh_2]; rfl)
    refine lv_if_eq (tgt := 17) hx hb dX0_rootAt_5 (by decide) (fun c_5 => ?_) (fun c_5 => absurd c_5 (by decide +kernel))
    refine lv_iconst (v := -1) hx hb dX0_rootAt_17 (by decide +kernel) ?_
    exact W.iret (v := -1) hx hb hr (fun t ht hW => ⟨⟨-1, (), rfl, by rw [if_neg (by rw [hh_2]; decide)], by rw [ht]; exact hP, va_K.moved hW.alike hK, hD⟩, hS.F ht⟩) hS.2.2 dX0_rootAt_18

set_option maxHeartbeats 4000000 in
set_option maxRecDepth 100000 in
/-- Heap.fieldCountOf(k) -/
theorem c_H_fieldCountOf (l : Launch) (dC : Nat → ClassId) (dI : Nat → Nat → Nat) (h0 a1 a2 a3 : Nat) (k1 k2 k3 : ClassId) (N : Nat) (cn : Nat → Nat) (fl rt : Nat → Int32) (fa : Int32) (p0 : Int32) (sz : Nat) (hN : N ≤ 400) : Met l yX0_fieldCountOf wsX0_fieldCountOf ({ frames := 1, cells := 0, slots := 0, locals := 21 }) (va_Pc [.ref h0, .int p0] (fun U => U.heap.size = sz ∧ va_P (dC, dI) vwCl [(h0, .inr (0, [.ref a1, .ref a2, .ref a3, .int (nI N), .int fa])), (a1, .inl (k1, 400, .inl (pm_nf9 cn))), (a2, .inl (k2, 8000, .inl fl)), (a3, .inl (k3, 16, .inl rt))] U.heap ∧ va_K (dC, dI) vwCl [(k1, .int), (k2, .int), (k3, .int)] U ∧ va_D (fun _ => True) [(h0, .inr (0, [.ref a1, .ref a2, .ref a3, .int (nI N), .int fa])), (a1, .inl (k1, 400, .inl (pm_nf9 cn))), (a2, .inl (k2, 8000, .inl fl)), (a3, .inl (k3, 16, .inl rt))])) (va_Qi (fun (r : Int32) (_ : Unit) => r = (if pm_has N p0 = true then nI (cn p0.toNatClampNeg) else nI 0)) (fun (_ : Unit) (t : State) => va_P (dC, dI) vwCl [(h0, .inr (0, [.ref a1, .ref a2, .ref a3, .int (nI N), .int fa])), (a1, .inl (k1, 400, .inl (pm_nf9 cn))), (a2, .inl (k2, 8000, .inl fl)), (a3, .inl (k3, 16, .inl rt))] t.heap ∧ va_K (dC, dI) vwCl [(k1, .int), (k2, .int), (k3, .int)] t ∧ va_D (va_A [(h0, .inr (0, [.ref a1, .ref a2, .ref a3, .int (nI N), .int fa])), (a1, .inl (k1, 400, .inl (pm_nf9 cn))), (a2, .inl (k2, 8000, .inl fl)), (a3, .inl (k3, 16, .inl rt))] sz) [(h0, .inr (0, [.ref a1, .ref a2, .ref a3, .int (nI N), .int fa])), (a1, .inl (k1, 400, .inl (pm_nf9 cn))), (a2, .inl (k2, 8000, .inl fl)), (a3, .inl (k3, 16, .inl rt))]) (va_A [(h0, .inr (0, [.ref a1, .ref a2, .ref a3, .int (nI N), .int fa])), (a1, .inl (k1, 400, .inl (pm_nf9 cn))), (a2, .inl (k2, 8000, .inl fl)), (a3, .inl (k3, 16, .inl rt))] sz)) 0 0 (va_A [(h0, .inr (0, [.ref a1, .ref a2, .ref a3, .int (nI N), .int fa])), (a1, .inl (k1, 400, .inl (pm_nf9 cn))), (a2, .inl (k2, 8000, .inl fl)), (a3, .inl (k3, 16, .inl rt))] sz) := by
  refine Met.ofW (cc := cX0_fieldCountOf) (maxL := 2) (ret := (some .int)) (by decide) rfl ?_
  intro p e s m args below meth c s₁ B hml hv
  obtain ⟨rfl, hsz, hP, hK, hD0⟩ := hv
  have hx := B.exec
  have hb := B.bytes
  have hr := B.returns
  have hts : ∀ w ∈ gw, w.before _ s = true := fun w h => atoms_spec (ws := wsX0_fieldCountOf) B.pre w (List.mem_cons_of_mem _ h)
  have hown : s.vm.findClass RX0 = some m.cls := findClass_of_methodNamed B.named
  have hlocks := B.notSynchronized
  subst hsz
  have hD := hD0.self (sz := s.heap.size)
  generalize hAe : va_A [(h0, .inr (0, [.ref a1, .ref a2, .ref a3, .int (nI N), .int fa])), (a1, .inl (k1, 400, .inl (pm_nf9 cn))), (a2, .inl (k2, 8000, .inl fl)), (a3, .inl (k3, 16, .inl rt))] s.heap.size = A at hD ⊢
  have hA : ∀ q : Nat, s.heap.size ≤ q → A q := fun q h => by rw [← hAe]; exact Or.inr h
  have hP : va_P (dC, dI) vwCl [(h0, .inr (0, [.ref a1, .ref a2, .ref a3, .int (nI N), .int fa])), (a1, .inl (k1, 400, .inl (pm_nf9 cn))), (a2, .inl (k2, 8000, .inl fl)), (a3, .inl (k3, 16, .inl rt))] s.heap := hP
  have hl := lv_entry ([.ref h0, .int p0]) (n := 2) (Nat.le_of_ble_eq_true rfl)
  rw [lg_entry_eq]
  generalize (lg_sl ([.ref h0, .int p0]) ++ List.replicate (2 - (lg_sl ([.ref h0, .int p0])).length) Slot.unset).toArray = ls at hl ⊢
  have hl : lv_has ls 2 [(0, .ref h0), (1, .int p0)] := hl
  obtain ⟨H, hH⟩ : ∃ H : Heap, H = s.heap := ⟨_, rfl⟩
  rw [← hH]
  rw [← hH] at hP
  have hS : va_S A s.heap H [] := by rw [hH]; exact va_S.rf
  clear hH
  refine lv_aload_n hx hb dX0_fieldCountOf_0 rfl (lv_at hl 0 rfl) ?_
  refine lv_iload_n hx hb dX0_fieldCountOf_1 rfl (lv_at hl 1 rfl) ?_
  have hPc := hP.sub (ws' := [(h0, .inr (0, [.ref a1, .ref a2, .ref a3, .int (nI N), .int fa])), (a1, .inl (k1, 400, .inl (pm_nf9 cn))), (a2, .inl (k2, 8000, .inl fl)), (a3, .inl (k3, 16, .inl rt))]) [0, 1, 2, 3] rfl
  have hDc := hD.sub (ws' := [(h0, .inr (0, [.ref a1, .ref a2, .ref a3, .int (nI N), .int fa])), (a1, .inl (k1, 400, .inl (pm_nf9 cn))), (a2, .inl (k2, 8000, .inl fl)), (a3, .inl (k3, 16, .inl rt))]) [0, 1, 2, 3] (by decide) rfl
  have hKc := hK.sub (tys' := [(k1, .int), (k2, .int), (k3, .int)]) [0, 1, 2] rfl
  have hFc := va_free (wc := [(h0, .inr (0, [.ref a1, .ref a2, .ref a3, .int (nI N), .int fa])), (a1, .inl (k1, 400, .inl (pm_nf9 cn))), (a2, .inl (k2, 8000, .inl fl)), (a3, .inl (k3, 16, .inl rt))]) hD hS hA [0, 1, 2, 3] rfl
  refine va_calli (va_runV (As := [.int p0]) (rest := []) ⟨hx, hb, hml, hown, hts⟩ (c_H_has l dC dI h0 a1 a2 a3 k1 k2 k3 N cn fl rt fa p0 H.size) (cwV 1 hts (gw_V ml_X0_28 mi_X0_has ms_X0_has mn_X0 mc_X0_has) rfl rfl rfl (by decide +kernel) ⟨Nat.le_of_ble_eq_true rfl, Nat.le_of_ble_eq_true rfl⟩) ⟨fun a U g mk q => by obtain ⟨q0, q1, qP, qK, qD⟩ := q; exact ⟨q0, q1, qP, va_K.moved (u := U) (U := U.calling g mk a) (Vm.Alike.refl U.vm) qK, qD⟩, va_recv hKc hPc (ci := 0) (q0 := 0) rfl rfl, fun U hU hW => ⟨rfl, by rw [hU], by rw [hU]; exact hPc, va_K.moved hW.alike hKc, hDc.weaken (fun _ _ _ _ => trivial)⟩⟩ rfl rfl hl.1 rfl (lv_room (Nat.le_of_ble_eq_true rfl)) dX0_fieldCountOf_2 ⟨Nat.le_of_ble_eq_true rfl, Nat.le_of_ble_eq_true rfl⟩) hS (fun q _ h => hFc q h) hFc (fun r_1 u t H1 locs ht hvm hw hB hz1 hk1 hS => ?_)
  obtain ⟨hP1, hK1, hD1⟩ := hB
  rw [ht] at hP1
  have hK1 := va_K.moved hvm.symm hK1
  obtain ⟨hP, hD⟩ := va_join (wr := []) (w1 := [(h0, .inr (0, [.ref a1, .ref a2, .ref a3, .int (nI N), .int fa])), (a1, .inl (k1, 400, .inl (pm_nf9 cn))), (a2, .inl (k2, 8000, .inl fl)), (a3, .inl (k3, 16, .inl rt))]) hP hD [0, 1, 2, 3] [] rfl rfl (by decide) (by decide) hk1 hFc hP1 hD1
  clear hPc hDc hKc hFc hP1 hK1 hD1
  generalize H1 = H at hP hS ⊢
  have hP : va_P (dC, dI) vwCl [(h0, .inr (0, [.ref a1, .ref a2, .ref a3, .int (nI N), .int fa])), (a1, .inl (k1, 400, .inl (pm_nf9 cn))), (a2, .inl (k2, 8000, .inl fl)), (a3, .inl (k3, 16, .inl rt))] H := hP.sub [0, 1, 2, 3] rfl
  have hD : va_D A [(h0, .inr (0, [.ref a1, .ref a2, .ref a3, .int (nI N), .int fa])), (a1, .inl (k1, 400, .inl (pm_nf9 cn))), (a2, .inl (k2, 8000, .inl fl)), (a3, .inl (k3, 16, .inl rt))] := hD.sub [0, 1, 2, 3] (by decide) rfl
  rcases pm_tf (pm_has N p0) with hh_2 | hh_2
  · obtain rfl : r_1 = nI 1 := hw.trans (by rw [hh_2]; rfl)
    refine lv_if_eq (tgt := 17) hx hb dX0_fieldCountOf_5 (by decide) (fun c_5 => absurd c_5 (by decide +kernel)) (fun c_5 => ?_)
    refine lv_aload_n hx hb dX0_fieldCountOf_8 rfl (lv_at hl 0 rfl) ?_
    refine va_get (D := (dC, dI)) (ci := 0) (v := .ref a1) (C := RX0) (T := TX0) (N := 5) hx hb hts iw_X0 hown hK hP 0 rfl rfl 0 (by decide) (hts _ mf_X0_9) (fun _ h9 => h9) rfl dX0_fieldCountOf_9 ?_
    refine lv_iload_n hx hb dX0_fieldCountOf_12 rfl (lv_at hl 1 rfl) ?_
    refine va_iald hx hb hK hP 1 0 rfl rfl (pm_has_in hN (by omega) hh_2) dX0_fieldCountOf_13 ?_
    refine lv_topi (fun x_2 ex_2 => ?_)
    subst ex_2
    refine lv_goto (tgt := 18) hx hb dX0_fieldCountOf_14 (by decide) ?_
    exact W.iret (v := (pm_nf9 cn) (p0.toNatClampNeg)) hx hb hr (fun t ht hW => ⟨⟨(pm_nf9 cn) (p0.toNatClampNeg), (), rfl, by rw [if_pos hh_2]; rfl, by rw [ht]; exact hP, va_K.moved hW.alike hK, hD⟩, hS.F ht⟩) hS.2.2 dX0_fieldCountOf_18
  · obtain rfl : r_1 = nI 0 := hw.trans (by rw [hh_2]; rfl)
    refine lv_if_eq (tgt := 17) hx hb dX0_fieldCountOf_5 (by decide) (fun c_5 => ?_) (fun c_5 => absurd c_5 (by decide +kernel))
    refine lv_iconst (v := nI 0) hx hb dX0_fieldCountOf_17 (by decide +kernel) ?_
    exact W.iret (v := nI 0) hx hb hr (fun t ht hW => ⟨⟨nI 0, (), rfl, by rw [if_neg (by rw [hh_2]; decide)], by rw [ht]; exact hP, va_K.moved hW.alike hK, hD⟩, hS.F ht⟩) hS.2.2 dX0_fieldCountOf_18

set_option maxHeartbeats 4000000 in
set_option maxRecDepth 100000 in
/-- Heap.countOfObjects() -/
theorem c_H_countOfObjects (l : Launch) (dC : Nat → ClassId) (dI : Nat → Nat → Nat) (h0 a1 a2 a3 : Nat) (k1 k2 k3 : ClassId) (N : Nat) (cn : Nat → Nat) (fl rt : Nat → Int32) (fa : Int32) (sz : Nat)  : Met l yX0_countOfObjects wsX0_countOfObjects ({ frames := 0, cells := 0, slots := 0, locals := 0 }) (va_Pc [.ref h0] (fun U => U.heap.size = sz ∧ va_P (dC, dI) vwCl [(h0, .inr (0, [.ref a1, .ref a2, .ref a3, .int (nI N), .int fa])), (a1, .inl (k1, 400, .inl (pm_nf9 cn))), (a2, .inl (k2, 8000, .inl fl)), (a3, .inl (k3, 16, .inl rt))] U.heap ∧ va_K (dC, dI) vwCl [(k1, .int), (k2, .int), (k3, .int)] U ∧ va_D (fun _ => True) [(h0, .inr (0, [.ref a1, .ref a2, .ref a3, .int (nI N), .int fa])), (a1, .inl (k1, 400, .inl (pm_nf9 cn))), (a2, .inl (k2, 8000, .inl fl)), (a3, .inl (k3, 16, .inl rt))])) (va_Qi (fun (r : Int32) (_ : Unit) => r = nI N) (fun (_ : Unit) (t : State) => va_P (dC, dI) vwCl [(h0, .inr (0, [.ref a1, .ref a2, .ref a3, .int (nI N), .int fa])), (a1, .inl (k1, 400, .inl (pm_nf9 cn))), (a2, .inl (k2, 8000, .inl fl)), (a3, .inl (k3, 16, .inl rt))] t.heap ∧ va_K (dC, dI) vwCl [(k1, .int), (k2, .int), (k3, .int)] t ∧ va_D (va_A [(h0, .inr (0, [.ref a1, .ref a2, .ref a3, .int (nI N), .int fa])), (a1, .inl (k1, 400, .inl (pm_nf9 cn))), (a2, .inl (k2, 8000, .inl fl)), (a3, .inl (k3, 16, .inl rt))] sz) [(h0, .inr (0, [.ref a1, .ref a2, .ref a3, .int (nI N), .int fa])), (a1, .inl (k1, 400, .inl (pm_nf9 cn))), (a2, .inl (k2, 8000, .inl fl)), (a3, .inl (k3, 16, .inl rt))]) (va_A [(h0, .inr (0, [.ref a1, .ref a2, .ref a3, .int (nI N), .int fa])), (a1, .inl (k1, 400, .inl (pm_nf9 cn))), (a2, .inl (k2, 8000, .inl fl)), (a3, .inl (k3, 16, .inl rt))] sz)) 0 0 (va_A [(h0, .inr (0, [.ref a1, .ref a2, .ref a3, .int (nI N), .int fa])), (a1, .inl (k1, 400, .inl (pm_nf9 cn))), (a2, .inl (k2, 8000, .inl fl)), (a3, .inl (k3, 16, .inl rt))] sz) := by
  refine Met.ofW (cc := cX0_countOfObjects) (maxL := 1) (ret := (some .int)) (by decide) rfl ?_
  intro p e s m args below meth c s₁ B hml hv
  obtain ⟨rfl, hsz, hP, hK, hD0⟩ := hv
  have hx := B.exec
  have hb := B.bytes
  have hr := B.returns
  have hts : ∀ w ∈ gw, w.before _ s = true := fun w h => atoms_spec (ws := wsX0_countOfObjects) B.pre w (List.mem_cons_of_mem _ h)
  have hown : s.vm.findClass RX0 = some m.cls := findClass_of_methodNamed B.named
  have hlocks := B.notSynchronized
  subst hsz
  have hD := hD0.self (sz := s.heap.size)
  generalize hAe : va_A [(h0, .inr (0, [.ref a1, .ref a2, .ref a3, .int (nI N), .int fa])), (a1, .inl (k1, 400, .inl (pm_nf9 cn))), (a2, .inl (k2, 8000, .inl fl)), (a3, .inl (k3, 16, .inl rt))] s.heap.size = A at hD ⊢
  have hA : ∀ q : Nat, s.heap.size ≤ q → A q := fun q h => by rw [← hAe]; exact Or.inr h
  have hP : va_P (dC, dI) vwCl [(h0, .inr (0, [.ref a1, .ref a2, .ref a3, .int (nI N), .int fa])), (a1, .inl (k1, 400, .inl (pm_nf9 cn))), (a2, .inl (k2, 8000, .inl fl)), (a3, .inl (k3, 16, .inl rt))] s.heap := hP
  have hl := lv_entry ([.ref h0]) (n := 1) (Nat.le_of_ble_eq_true rfl)
  rw [lg_entry_eq]
  generalize (lg_sl ([.ref h0]) ++ List.replicate (1 - (lg_sl ([.ref h0])).length) Slot.unset).toArray = ls at hl ⊢
  have hl : lv_has ls 1 [(0, .ref h0)] := hl
  obtain ⟨H, hH⟩ : ∃ H : Heap, H = s.heap := ⟨_, rfl⟩
  rw [← hH]
  rw [← hH] at hP
  have hS : va_S A s.heap H [] := by rw [hH]; exact va_S.rf
  clear hH
  refine lv_aload_n hx hb dX0_countOfObjects_0 rfl (lv_at hl 0 rfl) ?_
  refine va_get (D := (dC, dI)) (ci := 0) (v := .int (nI N)) (C := RX0) (T := TX0) (N := 5) hx hb hts iw_X0 hown hK hP 0 rfl rfl 3 (by decide) (hts _ mf_X0_21) (fun _ h9 => h9) rfl dX0_countOfObjects_1 ?_
  exact W.iret (v := nI N) hx hb hr (fun t ht hW => ⟨⟨nI N, (), rfl, rfl, by rw [ht]; exact hP, va_K.moved hW.alike hK, hD⟩, hS.F ht⟩) hS.2.2 dX0_countOfObjects_4

set_option maxHeartbeats 4000000 in
set_option maxRecDepth 100000 in
/-- Heap.countOfFields() -/
theorem c_H_countOfFields (l : Launch) (dC : Nat → ClassId) (dI : Nat → Nat → Nat) (h0 a1 a2 a3 : Nat) (k1 k2 k3 : ClassId) (N : Nat) (cn : Nat → Nat) (fl rt : Nat → Int32) (fa : Int32) (sz : Nat)  : Met l yX0_countOfFields wsX0_countOfFields ({ frames := 0, cells := 0, slots := 0, locals := 0 }) (va_Pc [.ref h0] (fun U => U.heap.size = sz ∧ va_P (dC, dI) vwCl [(h0, .inr (0, [.ref a1, .ref a2, .ref a3, .int (nI N), .int fa])), (a1, .inl (k1, 400, .inl (pm_nf9 cn))), (a2, .inl (k2, 8000, .inl fl)), (a3, .inl (k3, 16, .inl rt))] U.heap ∧ va_K (dC, dI) vwCl [(k1, .int), (k2, .int), (k3, .int)] U ∧ va_D (fun _ => True) [(h0, .inr (0, [.ref a1, .ref a2, .ref a3, .int (nI N), .int fa])), (a1, .inl (k1, 400, .inl (pm_nf9 cn))), (a2, .inl (k2, 8000, .inl fl)), (a3, .inl (k3, 16, .inl rt))])) (va_Qi (fun (r : Int32) (_ : Unit) => r = fa) (fun (_ : Unit) (t : State) => va_P (dC, dI) vwCl [(h0, .inr (0, [.ref a1, .ref a2, .ref a3, .int (nI N), .int fa])), (a1, .inl (k1, 400, .inl (pm_nf9 cn))), (a2, .inl (k2, 8000, .inl fl)), (a3, .inl (k3, 16, .inl rt))] t.heap ∧ va_K (dC, dI) vwCl [(k1, .int), (k2, .int), (k3, .int)] t ∧ va_D (va_A [(h0, .inr (0, [.ref a1, .ref a2, .ref a3, .int (nI N), .int fa])), (a1, .inl (k1, 400, .inl (pm_nf9 cn))), (a2, .inl (k2, 8000, .inl fl)), (a3, .inl (k3, 16, .inl rt))] sz) [(h0, .inr (0, [.ref a1, .ref a2, .ref a3, .int (nI N), .int fa])), (a1, .inl (k1, 400, .inl (pm_nf9 cn))), (a2, .inl (k2, 8000, .inl fl)), (a3, .inl (k3, 16, .inl rt))]) (va_A [(h0, .inr (0, [.ref a1, .ref a2, .ref a3, .int (nI N), .int fa])), (a1, .inl (k1, 400, .inl (pm_nf9 cn))), (a2, .inl (k2, 8000, .inl fl)), (a3, .inl (k3, 16, .inl rt))] sz)) 0 0 (va_A [(h0, .inr (0, [.ref a1, .ref a2, .ref a3, .int (nI N), .int fa])), (a1, .inl (k1, 400, .inl (pm_nf9 cn))), (a2, .inl (k2, 8000, .inl fl)), (a3, .inl (k3, 16, .inl rt))] sz) := by
  refine Met.ofW (cc := cX0_countOfFields) (maxL := 1) (ret := (some .int)) (by decide) rfl ?_
  intro p e s m args below meth c s₁ B hml hv
  obtain ⟨rfl, hsz, hP, hK, hD0⟩ := hv
  have hx := B.exec
  have hb := B.bytes
  have hr := B.returns
  have hts : ∀ w ∈ gw, w.before _ s = true := fun w h => atoms_spec (ws := wsX0_countOfFields) B.pre w (List.mem_cons_of_mem _ h)
  have hown : s.vm.findClass RX0 = some m.cls := findClass_of_methodNamed B.named
  have hlocks := B.notSynchronized
  subst hsz
  have hD := hD0.self (sz := s.heap.size)
  generalize hAe : va_A [(h0, .inr (0, [.ref a1, .ref a2, .ref a3, .int (nI N), .int fa])), (a1, .inl (k1, 400, .inl (pm_nf9 cn))), (a2, .inl (k2, 8000, .inl fl)), (a3, .inl (k3, 16, .inl rt))] s.heap.size = A at hD ⊢
  have hA : ∀ q : Nat, s.heap.size ≤ q → A q := fun q h => by rw [← hAe]; exact Or.inr h
  have hP : va_P (dC, dI) vwCl [(h0, .inr (0, [.ref a1, .ref a2, .ref a3, .int (nI N), .int fa])), (a1, .inl (k1, 400, .inl (pm_nf9 cn))), (a2, .inl (k2, 8000, .inl fl)), (a3, .inl (k3, 16, .inl rt))] s.heap := hP
  have hl := lv_entry ([.ref h0]) (n := 1) (Nat.le_of_ble_eq_true rfl)
  rw [lg_entry_eq]
  generalize (lg_sl ([.ref h0]) ++ List.replicate (1 - (lg_sl ([.ref h0])).length) Slot.unset).toArray = ls at hl ⊢
  have hl : lv_has ls 1 [(0, .ref h0)] := hl
  obtain ⟨H, hH⟩ : ∃ H : Heap, H = s.heap := ⟨_, rfl⟩
  rw [← hH]
  rw [← hH] at hP
  have hS : va_S A s.heap H [] := by rw [hH]; exact va_S.rf
  clear hH
  refine lv_aload_n hx hb dX0_countOfFields_0 rfl (lv_at hl 0 rfl) ?_
  refine va_get (D := (dC, dI)) (ci := 0) (v := .int fa) (C := RX0) (T := TX0) (N := 5) hx hb hts iw_X0 hown hK hP 0 rfl rfl 4 (by decide) (hts _ mf_X0_25) (fun _ h9 => h9) rfl dX0_countOfFields_1 ?_
  exact W.iret (v := fa) hx hb hr (fun t ht hW => ⟨⟨fa, (), rfl, rfl, by rw [ht]; exact hP, va_K.moved hW.alike hK, hD⟩, hS.F ht⟩) hS.2.2 dX0_countOfFields_4
