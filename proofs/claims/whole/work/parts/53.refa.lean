set_option maxHeartbeats 4000000 in
set_option maxRecDepth 100000 in
/-- thrown() -/
theorem c_Q_thrown (l : Launch) (dC : Nat → ClassId) (dI : Nat → Nat → Nat) (y0 s1 s2 s3 s4 s5 : Nat) (t1 t2 t3 t4 t5 : ClassId) (th N af : Nat) (sm gv gr : Nat → Nat) (rc mq : Nat → Int32) (pl : Nat) (go qu : Bool) (cy qc : Nat) (fr wq : Bool)  (sz : Nat)  : Met l yX4_thrown wsX4_thrown ({ frames := 0, cells := 0, slots := 0, locals := 0 }) (va_Pc [.ref y0] (fun U => U.heap.size = sz ∧ va_P (dC, dI) vwCl [(y0, .inr (4, [.int (nI th), .int (nI N), .int (nI af), .ref s1, .ref s2, .ref s3, .ref s4, .ref s5, .int (nI pl), .int (pm_b go), .int (pm_b qu), .int (nI cy), .int (nI qc), .int (pm_b fr), .int (pm_b wq)])), (s1, .inl (t1, 401, .inl (pm_nf9 sm))), (s2, .inl (t2, 8000, .inl (pm_nf9 gv))), (s3, .inl (t3, 16, .inl (pm_nf9 gr))), (s4, .inl (t4, 400, .inl rc)), (s5, .inl (t5, 400, .inl mq))] U.heap ∧ va_K (dC, dI) vwCl [(t1, .int), (t2, .int), (t3, .int), (t4, .boolean), (t5, .boolean)] U ∧ va_D (fun _ => True) [(y0, .inr (4, [.int (nI th), .int (nI N), .int (nI af), .ref s1, .ref s2, .ref s3, .ref s4, .ref s5, .int (nI pl), .int (pm_b go), .int (pm_b qu), .int (nI cy), .int (nI qc), .int (pm_b fr), .int (pm_b wq)])), (s1, .inl (t1, 401, .inl (pm_nf9 sm))), (s2, .inl (t2, 8000, .inl (pm_nf9 gv))), (s3, .inl (t3, 16, .inl (pm_nf9 gr))), (s4, .inl (t4, 400, .inl rc)), (s5, .inl (t5, 400, .inl mq))])) (va_Qi (fun (r : Int32) (_ : Unit) => r = nI th) (fun (_ : Unit) (t : State) => va_P (dC, dI) vwCl [(y0, .inr (4, [.int (nI th), .int (nI N), .int (nI af), .ref s1, .ref s2, .ref s3, .ref s4, .ref s5, .int (nI pl), .int (pm_b go), .int (pm_b qu), .int (nI cy), .int (nI qc), .int (pm_b fr), .int (pm_b wq)])), (s1, .inl (t1, 401, .inl (pm_nf9 sm))), (s2, .inl (t2, 8000, .inl (pm_nf9 gv))), (s3, .inl (t3, 16, .inl (pm_nf9 gr))), (s4, .inl (t4, 400, .inl rc)), (s5, .inl (t5, 400, .inl mq))] t.heap ∧ va_K (dC, dI) vwCl [(t1, .int), (t2, .int), (t3, .int), (t4, .boolean), (t5, .boolean)] t ∧ va_D (va_A [(y0, .inr (4, [.int (nI th), .int (nI N), .int (nI af), .ref s1, .ref s2, .ref s3, .ref s4, .ref s5, .int (nI pl), .int (pm_b go), .int (pm_b qu), .int (nI cy), .int (nI qc), .int (pm_b fr), .int (pm_b wq)])), (s1, .inl (t1, 401, .inl (pm_nf9 sm))), (s2, .inl (t2, 8000, .inl (pm_nf9 gv))), (s3, .inl (t3, 16, .inl (pm_nf9 gr))), (s4, .inl (t4, 400, .inl rc)), (s5, .inl (t5, 400, .inl mq))] sz) [(y0, .inr (4, [.int (nI th), .int (nI N), .int (nI af), .ref s1, .ref s2, .ref s3, .ref s4, .ref s5, .int (nI pl), .int (pm_b go), .int (pm_b qu), .int (nI cy), .int (nI qc), .int (pm_b fr), .int (pm_b wq)])), (s1, .inl (t1, 401, .inl (pm_nf9 sm))), (s2, .inl (t2, 8000, .inl (pm_nf9 gv))), (s3, .inl (t3, 16, .inl (pm_nf9 gr))), (s4, .inl (t4, 400, .inl rc)), (s5, .inl (t5, 400, .inl mq))]) (va_A [(y0, .inr (4, [.int (nI th), .int (nI N), .int (nI af), .ref s1, .ref s2, .ref s3, .ref s4, .ref s5, .int (nI pl), .int (pm_b go), .int (pm_b qu), .int (nI cy), .int (nI qc), .int (pm_b fr), .int (pm_b wq)])), (s1, .inl (t1, 401, .inl (pm_nf9 sm))), (s2, .inl (t2, 8000, .inl (pm_nf9 gv))), (s3, .inl (t3, 16, .inl (pm_nf9 gr))), (s4, .inl (t4, 400, .inl rc)), (s5, .inl (t5, 400, .inl mq))] sz)) 0 0 (va_A [(y0, .inr (4, [.int (nI th), .int (nI N), .int (nI af), .ref s1, .ref s2, .ref s3, .ref s4, .ref s5, .int (nI pl), .int (pm_b go), .int (pm_b qu), .int (nI cy), .int (nI qc), .int (pm_b fr), .int (pm_b wq)])), (s1, .inl (t1, 401, .inl (pm_nf9 sm))), (s2, .inl (t2, 8000, .inl (pm_nf9 gv))), (s3, .inl (t3, 16, .inl (pm_nf9 gr))), (s4, .inl (t4, 400, .inl rc)), (s5, .inl (t5, 400, .inl mq))] sz) := by
  refine Met.ofW (cc := cX4_thrown) (maxL := 1) (ret := (some .int)) (by decide) rfl ?_
  intro p e s m args below meth c s₁ B hml hv
  obtain ⟨rfl, hsz, hP, hK, hD0⟩ := hv
  have hx := B.exec
  have hb := B.bytes
  have hr := B.returns
  have hts : ∀ w ∈ gw, w.before _ s = true := fun w h => atoms_spec (ws := wsX4_thrown) B.pre w (List.mem_cons_of_mem _ h)
  have hown : s.vm.findClass RX4 = some m.cls := findClass_of_methodNamed B.named
  have hlocks := B.notSynchronized
  subst hsz
  have hD := hD0.self (sz := s.heap.size)
  generalize hAe : va_A [(y0, .inr (4, [.int (nI th), .int (nI N), .int (nI af), .ref s1, .ref s2, .ref s3, .ref s4, .ref s5, .int (nI pl), .int (pm_b go), .int (pm_b qu), .int (nI cy), .int (nI qc), .int (pm_b fr), .int (pm_b wq)])), (s1, .inl (t1, 401, .inl (pm_nf9 sm))), (s2, .inl (t2, 8000, .inl (pm_nf9 gv))), (s3, .inl (t3, 16, .inl (pm_nf9 gr))), (s4, .inl (t4, 400, .inl rc)), (s5, .inl (t5, 400, .inl mq))] s.heap.size = A at hD ⊢
  have hA : ∀ q : Nat, s.heap.size ≤ q → A q := fun q h => by rw [← hAe]; exact Or.inr h
  have hP : va_P (dC, dI) vwCl [(y0, .inr (4, [.int (nI th), .int (nI N), .int (nI af), .ref s1, .ref s2, .ref s3, .ref s4, .ref s5, .int (nI pl), .int (pm_b go), .int (pm_b qu), .int (nI cy), .int (nI qc), .int (pm_b fr), .int (pm_b wq)])), (s1, .inl (t1, 401, .inl (pm_nf9 sm))), (s2, .inl (t2, 8000, .inl (pm_nf9 gv))), (s3, .inl (t3, 16, .inl (pm_nf9 gr))), (s4, .inl (t4, 400, .inl rc)), (s5, .inl (t5, 400, .inl mq))] s.heap := hP
  have hl := lv_entry ([.ref y0]) (n := 1) (Nat.le_of_ble_eq_true rfl)
  rw [lg_entry_eq]
  generalize (lg_sl ([.ref y0]) ++ List.replicate (1 - (lg_sl ([.ref y0])).length) Slot.unset).toArray = ls at hl ⊢
  have hl : lv_has ls 1 [(0, .ref y0)] := hl
  obtain ⟨H, hH⟩ : ∃ H : Heap, H = s.heap := ⟨_, rfl⟩
  rw [← hH]
  rw [← hH] at hP
  have hS : va_S A s.heap H [] := by rw [hH]; exact va_S.rf
  clear hH
  refine lv_aload_n hx hb dX4_thrown_0 rfl (lv_at hl 0 rfl) ?_
  refine va_get (D := (dC, dI)) (ci := 4) (v := .int (nI th)) (C := RX4) (T := TX4) (N := 15) hx hb hts iw_X4 hown hK hP 0 rfl rfl 0 (by decide) (hts _ mf_X4_30) (fun _ h9 => h9) rfl dX4_thrown_1 ?_
  exact W.iret (v := nI th) hx hb hr (fun t ht hW => ⟨⟨nI th, (), rfl, rfl, by rw [ht]; exact hP, va_K.moved hW.alike hK, hD⟩, hS.F ht⟩) hS.2.2 dX4_thrown_4

set_option maxHeartbeats 4000000 in
set_option maxRecDepth 100000 in
/-- isObject(k) -/
theorem c_Q_isObject (l : Launch) (dC : Nat → ClassId) (dI : Nat → Nat → Nat) (y0 s1 s2 s3 s4 s5 : Nat) (t1 t2 t3 t4 t5 : ClassId) (th N af : Nat) (sm gv gr : Nat → Nat) (rc mq : Nat → Int32) (pl : Nat) (go qu : Bool) (cy qc : Nat) (fr wq : Bool) (p0 : Int32) (sz : Nat)  : Met l yX4_isObject wsX4_isObject ({ frames := 0, cells := 0, slots := 0, locals := 0 }) (va_Pc [.ref y0, .int p0] (fun U => U.heap.size = sz ∧ va_P (dC, dI) vwCl [(y0, .inr (4, [.int (nI th), .int (nI N), .int (nI af), .ref s1, .ref s2, .ref s3, .ref s4, .ref s5, .int (nI pl), .int (pm_b go), .int (pm_b qu), .int (nI cy), .int (nI qc), .int (pm_b fr), .int (pm_b wq)])), (s1, .inl (t1, 401, .inl (pm_nf9 sm))), (s2, .inl (t2, 8000, .inl (pm_nf9 gv))), (s3, .inl (t3, 16, .inl (pm_nf9 gr))), (s4, .inl (t4, 400, .inl rc)), (s5, .inl (t5, 400, .inl mq))] U.heap ∧ va_K (dC, dI) vwCl [(t1, .int), (t2, .int), (t3, .int), (t4, .boolean), (t5, .boolean)] U ∧ va_D (fun _ => True) [(y0, .inr (4, [.int (nI th), .int (nI N), .int (nI af), .ref s1, .ref s2, .ref s3, .ref s4, .ref s5, .int (nI pl), .int (pm_b go), .int (pm_b qu), .int (nI cy), .int (nI qc), .int (pm_b fr), .int (pm_b wq)])), (s1, .inl (t1, 401, .inl (pm_nf9 sm))), (s2, .inl (t2, 8000, .inl (pm_nf9 gv))), (s3, .inl (t3, 16, .inl (pm_nf9 gr))), (s4, .inl (t4, 400, .inl rc)), (s5, .inl (t5, 400, .inl mq))])) (va_Qi (fun (r : Int32) (_ : Unit) => r = pm_b (pm_has N p0)) (fun (_ : Unit) (t : State) => va_P (dC, dI) vwCl [(y0, .inr (4, [.int (nI th), .int (nI N), .int (nI af), .ref s1, .ref s2, .ref s3, .ref s4, .ref s5, .int (nI pl), .int (pm_b go), .int (pm_b qu), .int (nI cy), .int (nI qc), .int (pm_b fr), .int (pm_b wq)])), (s1, .inl (t1, 401, .inl (pm_nf9 sm))), (s2, .inl (t2, 8000, .inl (pm_nf9 gv))), (s3, .inl (t3, 16, .inl (pm_nf9 gr))), (s4, .inl (t4, 400, .inl rc)), (s5, .inl (t5, 400, .inl mq))] t.heap ∧ va_K (dC, dI) vwCl [(t1, .int), (t2, .int), (t3, .int), (t4, .boolean), (t5, .boolean)] t ∧ va_D (va_A [(y0, .inr (4, [.int (nI th), .int (nI N), .int (nI af), .ref s1, .ref s2, .ref s3, .ref s4, .ref s5, .int (nI pl), .int (pm_b go), .int (pm_b qu), .int (nI cy), .int (nI qc), .int (pm_b fr), .int (pm_b wq)])), (s1, .inl (t1, 401, .inl (pm_nf9 sm))), (s2, .inl (t2, 8000, .inl (pm_nf9 gv))), (s3, .inl (t3, 16, .inl (pm_nf9 gr))), (s4, .inl (t4, 400, .inl rc)), (s5, .inl (t5, 400, .inl mq))] sz) [(y0, .inr (4, [.int (nI th), .int (nI N), .int (nI af), .ref s1, .ref s2, .ref s3, .ref s4, .ref s5, .int (nI pl), .int (pm_b go), .int (pm_b qu), .int (nI cy), .int (nI qc), .int (pm_b fr), .int (pm_b wq)])), (s1, .inl (t1, 401, .inl (pm_nf9 sm))), (s2, .inl (t2, 8000, .inl (pm_nf9 gv))), (s3, .inl (t3, 16, .inl (pm_nf9 gr))), (s4, .inl (t4, 400, .inl rc)), (s5, .inl (t5, 400, .inl mq))]) (va_A [(y0, .inr (4, [.int (nI th), .int (nI N), .int (nI af), .ref s1, .ref s2, .ref s3, .ref s4, .ref s5, .int (nI pl), .int (pm_b go), .int (pm_b qu), .int (nI cy), .int (nI qc), .int (pm_b fr), .int (pm_b wq)])), (s1, .inl (t1, 401, .inl (pm_nf9 sm))), (s2, .inl (t2, 8000, .inl (pm_nf9 gv))), (s3, .inl (t3, 16, .inl (pm_nf9 gr))), (s4, .inl (t4, 400, .inl rc)), (s5, .inl (t5, 400, .inl mq))] sz)) 0 0 (va_A [(y0, .inr (4, [.int (nI th), .int (nI N), .int (nI af), .ref s1, .ref s2, .ref s3, .ref s4, .ref s5, .int (nI pl), .int (pm_b go), .int (pm_b qu), .int (nI cy), .int (nI qc), .int (pm_b fr), .int (pm_b wq)])), (s1, .inl (t1, 401, .inl (pm_nf9 sm))), (s2, .inl (t2, 8000, .inl (pm_nf9 gv))), (s3, .inl (t3, 16, .inl (pm_nf9 gr))), (s4, .inl (t4, 400, .inl rc)), (s5, .inl (t5, 400, .inl mq))] sz) := by
  refine Met.ofW (cc := cX4_isObject) (maxL := 2) (ret := (some .boolean)) (by decide) rfl ?_
  intro p e s m args below meth c s₁ B hml hv
  obtain ⟨rfl, hsz, hP, hK, hD0⟩ := hv
  have hx := B.exec
  have hb := B.bytes
  have hr := B.returns
  have hts : ∀ w ∈ gw, w.before _ s = true := fun w h => atoms_spec (ws := wsX4_isObject) B.pre w (List.mem_cons_of_mem _ h)
  have hown : s.vm.findClass RX4 = some m.cls := findClass_of_methodNamed B.named
  have hlocks := B.notSynchronized
  subst hsz
  have hD := hD0.self (sz := s.heap.size)
  generalize hAe : va_A [(y0, .inr (4, [.int (nI th), .int (nI N), .int (nI af), .ref s1, .ref s2, .ref s3, .ref s4, .ref s5, .int (nI pl), .int (pm_b go), .int (pm_b qu), .int (nI cy), .int (nI qc), .int (pm_b fr), .int (pm_b wq)])), (s1, .inl (t1, 401, .inl (pm_nf9 sm))), (s2, .inl (t2, 8000, .inl (pm_nf9 gv))), (s3, .inl (t3, 16, .inl (pm_nf9 gr))), (s4, .inl (t4, 400, .inl rc)), (s5, .inl (t5, 400, .inl mq))] s.heap.size = A at hD ⊢
  have hA : ∀ q : Nat, s.heap.size ≤ q → A q := fun q h => by rw [← hAe]; exact Or.inr h
  have hP : va_P (dC, dI) vwCl [(y0, .inr (4, [.int (nI th), .int (nI N), .int (nI af), .ref s1, .ref s2, .ref s3, .ref s4, .ref s5, .int (nI pl), .int (pm_b go), .int (pm_b qu), .int (nI cy), .int (nI qc), .int (pm_b fr), .int (pm_b wq)])), (s1, .inl (t1, 401, .inl (pm_nf9 sm))), (s2, .inl (t2, 8000, .inl (pm_nf9 gv))), (s3, .inl (t3, 16, .inl (pm_nf9 gr))), (s4, .inl (t4, 400, .inl rc)), (s5, .inl (t5, 400, .inl mq))] s.heap := hP
  have hl := lv_entry ([.ref y0, .int p0]) (n := 2) (Nat.le_of_ble_eq_true rfl)
  rw [lg_entry_eq]
  generalize (lg_sl ([.ref y0, .int p0]) ++ List.replicate (2 - (lg_sl ([.ref y0, .int p0])).length) Slot.unset).toArray = ls at hl ⊢
  have hl : lv_has ls 2 [(0, .ref y0), (1, .int p0)] := hl
  obtain ⟨H, hH⟩ : ∃ H : Heap, H = s.heap := ⟨_, rfl⟩
  rw [← hH]
  rw [← hH] at hP
  have hS : va_S A s.heap H [] := by rw [hH]; exact va_S.rf
  clear hH
  refine lv_iload_n hx hb dX4_isObject_0 rfl (lv_at hl 1 rfl) ?_
  refine lv_if_lt (tgt := 16) hx hb dX4_isObject_1 (by decide) (fun c_1 => ?_) (fun c_1 => ?_)
  · refine lv_iconst (v := nI 0) hx hb dX4_isObject_16 (by decide +kernel) ?_
    exact W.zret (v := nI 0) hx hb hr (by decide +kernel) (fun t ht hW => ⟨⟨nI 0, (), rfl, pm_h1 c_1, by rw [ht]; exact hP, va_K.moved hW.alike hK, hD⟩, hS.F ht⟩) hS.2.2 dX4_isObject_17
  · refine lv_iload_n hx hb dX4_isObject_4 rfl (lv_at hl 1 rfl) ?_
    refine lv_aload_n hx hb dX4_isObject_5 rfl (lv_at hl 0 rfl) ?_
    refine va_get (D := (dC, dI)) (ci := 4) (v := .int (nI N)) (C := RX4) (T := TX4) (N := 15) hx hb hts iw_X4 hown hK hP 0 rfl rfl 1 (by decide) (hts _ mf_X4_33) (fun _ h9 => h9) rfl dX4_isObject_6 ?_
    refine lv_icmp_ge (tgt := 16) hx hb dX4_isObject_9 (by decide) (fun c_9 => ?_) (fun c_9 => ?_)
    · refine lv_iconst (v := nI 0) hx hb dX4_isObject_16 (by decide +kernel) ?_
      exact W.zret (v := nI 0) hx hb hr (by decide +kernel) (fun t ht hW => ⟨⟨nI 0, (), rfl, pm_h2 c_9, by rw [ht]; exact hP, va_K.moved hW.alike hK, hD⟩, hS.F ht⟩) hS.2.2 dX4_isObject_17
    · refine lv_iconst (v := nI 1) hx hb dX4_isObject_12 (by decide +kernel) ?_
      refine lv_goto (tgt := 17) hx hb dX4_isObject_13 (by decide) ?_
      exact W.zret (v := nI 1) hx hb hr (by decide +kernel) (fun t ht hW => ⟨⟨nI 1, (), rfl, pm_h3 c_1 c_9, by rw [ht]; exact hP, va_K.moved hW.alike hK, hD⟩, hS.F ht⟩) hS.2.2 dX4_isObject_17

set_option maxHeartbeats 4000000 in
set_option maxRecDepth 100000 in
/-- isField(k, field) -/
theorem c_Q_isField (l : Launch) (dC : Nat → ClassId) (dI : Nat → Nat → Nat) (y0 s1 s2 s3 s4 s5 : Nat) (t1 t2 t3 t4 t5 : ClassId) (th N af : Nat) (sm gv gr : Nat → Nat) (rc mq : Nat → Int32) (pl : Nat) (go qu : Bool) (cy qc : Nat) (fr wq : Bool) (p0 p1 : Int32) (sz : Nat) (hM : pq_MO N sm gv gr af) : Met l yX4_isField wsX4_isField ({ frames := 1, cells := 0, slots := 0, locals := 21 }) (va_Pc [.ref y0, .int p0, .int p1] (fun U => U.heap.size = sz ∧ va_P (dC, dI) vwCl [(y0, .inr (4, [.int (nI th), .int (nI N), .int (nI af), .ref s1, .ref s2, .ref s3, .ref s4, .ref s5, .int (nI pl), .int (pm_b go), .int (pm_b qu), .int (nI cy), .int (nI qc), .int (pm_b fr), .int (pm_b wq)])), (s1, .inl (t1, 401, .inl (pm_nf9 sm))), (s2, .inl (t2, 8000, .inl (pm_nf9 gv))), (s3, .inl (t3, 16, .inl (pm_nf9 gr))), (s4, .inl (t4, 400, .inl rc)), (s5, .inl (t5, 400, .inl mq))] U.heap ∧ va_K (dC, dI) vwCl [(t1, .int), (t2, .int), (t3, .int), (t4, .boolean), (t5, .boolean)] U ∧ va_D (fun _ => True) [(y0, .inr (4, [.int (nI th), .int (nI N), .int (nI af), .ref s1, .ref s2, .ref s3, .ref s4, .ref s5, .int (nI pl), .int (pm_b go), .int (pm_b qu), .int (nI cy), .int (nI qc), .int (pm_b fr), .int (pm_b wq)])), (s1, .inl (t1, 401, .inl (pm_nf9 sm))), (s2, .inl (t2, 8000, .inl (pm_nf9 gv))), (s3, .inl (t3, 16, .inl (pm_nf9 gr))), (s4, .inl (t4, 400, .inl rc)), (s5, .inl (t5, 400, .inl mq))])) (va_Qi (fun (r : Int32) (_ : Unit) => r = pm_b (pm_hf N (pq_dn sm) p0 p1)) (fun (_ : Unit) (t : State) => va_P (dC, dI) vwCl [(y0, .inr (4, [.int (nI th), .int (nI N), .int (nI af), .ref s1, .ref s2, .ref s3, .ref s4, .ref s5, .int (nI pl), .int (pm_b go), .int (pm_b qu), .int (nI cy), .int (nI qc), .int (pm_b fr), .int (pm_b wq)])), (s1, .inl (t1, 401, .inl (pm_nf9 sm))), (s2, .inl (t2, 8000, .inl (pm_nf9 gv))), (s3, .inl (t3, 16, .inl (pm_nf9 gr))), (s4, .inl (t4, 400, .inl rc)), (s5, .inl (t5, 400, .inl mq))] t.heap ∧ va_K (dC, dI) vwCl [(t1, .int), (t2, .int), (t3, .int), (t4, .boolean), (t5, .boolean)] t ∧ va_D (va_A [(y0, .inr (4, [.int (nI th), .int (nI N), .int (nI af), .ref s1, .ref s2, .ref s3, .ref s4, .ref s5, .int (nI pl), .int (pm_b go), .int (pm_b qu), .int (nI cy), .int (nI qc), .int (pm_b fr), .int (pm_b wq)])), (s1, .inl (t1, 401, .inl (pm_nf9 sm))), (s2, .inl (t2, 8000, .inl (pm_nf9 gv))), (s3, .inl (t3, 16, .inl (pm_nf9 gr))), (s4, .inl (t4, 400, .inl rc)), (s5, .inl (t5, 400, .inl mq))] sz) [(y0, .inr (4, [.int (nI th), .int (nI N), .int (nI af), .ref s1, .ref s2, .ref s3, .ref s4, .ref s5, .int (nI pl), .int (pm_b go), .int (pm_b qu), .int (nI cy), .int (nI qc), .int (pm_b fr), .int (pm_b wq)])), (s1, .inl (t1, 401, .inl (pm_nf9 sm))), (s2, .inl (t2, 8000, .inl (pm_nf9 gv))), (s3, .inl (t3, 16, .inl (pm_nf9 gr))), (s4, .inl (t4, 400, .inl rc)), (s5, .inl (t5, 400, .inl mq))]) (va_A [(y0, .inr (4, [.int (nI th), .int (nI N), .int (nI af), .ref s1, .ref s2, .ref s3, .ref s4, .ref s5, .int (nI pl), .int (pm_b go), .int (pm_b qu), .int (nI cy), .int (nI qc), .int (pm_b fr), .int (pm_b wq)])), (s1, .inl (t1, 401, .inl (pm_nf9 sm))), (s2, .inl (t2, 8000, .inl (pm_nf9 gv))), (s3, .inl (t3, 16, .inl (pm_nf9 gr))), (s4, .inl (t4, 400, .inl rc)), (s5, .inl (t5, 400, .inl mq))] sz)) 0 0 (va_A [(y0, .inr (4, [.int (nI th), .int (nI N), .int (nI af), .ref s1, .ref s2, .ref s3, .ref s4, .ref s5, .int (nI pl), .int (pm_b go), .int (pm_b qu), .int (nI cy), .int (nI qc), .int (pm_b fr), .int (pm_b wq)])), (s1, .inl (t1, 401, .inl (pm_nf9 sm))), (s2, .inl (t2, 8000, .inl (pm_nf9 gv))), (s3, .inl (t3, 16, .inl (pm_nf9 gr))), (s4, .inl (t4, 400, .inl rc)), (s5, .inl (t5, 400, .inl mq))] sz) := by
  refine Met.ofW (cc := cX4_isField) (maxL := 3) (ret := (some .boolean)) (by decide) rfl ?_
  intro p e s m args below meth c s₁ B hml hv
  obtain ⟨rfl, hsz, hP, hK, hD0⟩ := hv
  have hx := B.exec
  have hb := B.bytes
  have hr := B.returns
  have hts : ∀ w ∈ gw, w.before _ s = true := fun w h => atoms_spec (ws := wsX4_isField) B.pre w (List.mem_cons_of_mem _ h)
  have hown : s.vm.findClass RX4 = some m.cls := findClass_of_methodNamed B.named
  have hlocks := B.notSynchronized
  subst hsz
  have hD := hD0.self (sz := s.heap.size)
  generalize hAe : va_A [(y0, .inr (4, [.int (nI th), .int (nI N), .int (nI af), .ref s1, .ref s2, .ref s3, .ref s4, .ref s5, .int (nI pl), .int (pm_b go), .int (pm_b qu), .int (nI cy), .int (nI qc), .int (pm_b fr), .int (pm_b wq)])), (s1, .inl (t1, 401, .inl (pm_nf9 sm))), (s2, .inl (t2, 8000, .inl (pm_nf9 gv))), (s3, .inl (t3, 16, .inl (pm_nf9 gr))), (s4, .inl (t4, 400, .inl rc)), (s5, .inl (t5, 400, .inl mq))] s.heap.size = A at hD ⊢
  have hA : ∀ q : Nat, s.heap.size ≤ q → A q := fun q h => by rw [← hAe]; exact Or.inr h
  have hP : va_P (dC, dI) vwCl [(y0, .inr (4, [.int (nI th), .int (nI N), .int (nI af), .ref s1, .ref s2, .ref s3, .ref s4, .ref s5, .int (nI pl), .int (pm_b go), .int (pm_b qu), .int (nI cy), .int (nI qc), .int (pm_b fr), .int (pm_b wq)])), (s1, .inl (t1, 401, .inl (pm_nf9 sm))), (s2, .inl (t2, 8000, .inl (pm_nf9 gv))), (s3, .inl (t3, 16, .inl (pm_nf9 gr))), (s4, .inl (t4, 400, .inl rc)), (s5, .inl (t5, 400, .inl mq))] s.heap := hP
  have hl := lv_entry ([.ref y0, .int p0, .int p1]) (n := 3) (Nat.le_of_ble_eq_true rfl)
  rw [lg_entry_eq]
  generalize (lg_sl ([.ref y0, .int p0, .int p1]) ++ List.replicate (3 - (lg_sl ([.ref y0, .int p0, .int p1])).length) Slot.unset).toArray = ls at hl ⊢
  have hl : lv_has ls 3 [(0, .ref y0), (1, .int p0), (2, .int p1)] := hl
  obtain ⟨H, hH⟩ : ∃ H : Heap, H = s.heap := ⟨_, rfl⟩
  rw [← hH]
  rw [← hH] at hP
  have hS : va_S A s.heap H [] := by rw [hH]; exact va_S.rf
  clear hH
  have hN := hM.1
  refine lv_aload_n hx hb dX4_isField_0 rfl (lv_at hl 0 rfl) ?_
  refine lv_iload_n hx hb dX4_isField_1 rfl (lv_at hl 1 rfl) ?_
  have hPc := hP.sub (ws' := [(y0, .inr (4, [.int (nI th), .int (nI N), .int (nI af), .ref s1, .ref s2, .ref s3, .ref s4, .ref s5, .int (nI pl), .int (pm_b go), .int (pm_b qu), .int (nI cy), .int (nI qc), .int (pm_b fr), .int (pm_b wq)])), (s1, .inl (t1, 401, .inl (pm_nf9 sm))), (s2, .inl (t2, 8000, .inl (pm_nf9 gv))), (s3, .inl (t3, 16, .inl (pm_nf9 gr))), (s4, .inl (t4, 400, .inl rc)), (s5, .inl (t5, 400, .inl mq))]) [0, 1, 2, 3, 4, 5] rfl
  have hDc := hD.sub (ws' := [(y0, .inr (4, [.int (nI th), .int (nI N), .int (nI af), .ref s1, .ref s2, .ref s3, .ref s4, .ref s5, .int (nI pl), .int (pm_b go), .int (pm_b qu), .int (nI cy), .int (nI qc), .int (pm_b fr), .int (pm_b wq)])), (s1, .inl (t1, 401, .inl (pm_nf9 sm))), (s2, .inl (t2, 8000, .inl (pm_nf9 gv))), (s3, .inl (t3, 16, .inl (pm_nf9 gr))), (s4, .inl (t4, 400, .inl rc)), (s5, .inl (t5, 400, .inl mq))]) [0, 1, 2, 3, 4, 5] (by decide) rfl
  have hKc := hK.sub (tys' := [(t1, .int), (t2, .int), (t3, .int), (t4, .boolean), (t5, .boolean)]) [0, 1, 2, 3, 4] rfl
  have hFc := va_free (wc := [(y0, .inr (4, [.int (nI th), .int (nI N), .int (nI af), .ref s1, .ref s2, .ref s3, .ref s4, .ref s5, .int (nI pl), .int (pm_b go), .int (pm_b qu), .int (nI cy), .int (nI qc), .int (pm_b fr), .int (pm_b wq)])), (s1, .inl (t1, 401, .inl (pm_nf9 sm))), (s2, .inl (t2, 8000, .inl (pm_nf9 gv))), (s3, .inl (t3, 16, .inl (pm_nf9 gr))), (s4, .inl (t4, 400, .inl rc)), (s5, .inl (t5, 400, .inl mq))]) hD hS hA [0, 1, 2, 3, 4, 5] rfl
  refine va_calli (va_runV (As := [.int p0]) (rest := []) ⟨hx, hb, hml, hown, hts⟩ (c_Q_isObject l dC dI y0 s1 s2 s3 s4 s5 t1 t2 t3 t4 t5 th N af sm gv gr rc mq pl go qu cy qc fr wq p0 H.size) (cwV 1 hts (gw_V ml_X4_36 mi_X4_isObject ms_X4_isObject mn_X4 mc_X4_isObject) rfl rfl rfl (by decide +kernel) ⟨Nat.le_of_ble_eq_true rfl, Nat.le_of_ble_eq_true rfl⟩) ⟨fun a U g mk q => by obtain ⟨q0, q1, qP, qK, qD⟩ := q; exact ⟨q0, q1, qP, va_K.moved (u := U) (U := U.calling g mk a) (Vm.Alike.refl U.vm) qK, qD⟩, va_recv hKc hPc (ci := 4) (q0 := 0) rfl rfl, fun U hU hW => ⟨rfl, by rw [hU], by rw [hU]; exact hPc, va_K.moved hW.alike hKc, hDc.weaken (fun _ _ _ _ => trivial)⟩⟩ rfl rfl hl.1 rfl (lv_room (Nat.le_of_ble_eq_true rfl)) dX4_isField_2 ⟨Nat.le_of_ble_eq_true rfl, Nat.le_of_ble_eq_true rfl⟩) hS (fun q _ h => hFc q h) hFc (fun r_1 u t H1 locs ht hvm hw hB hz1 hk1 hS => ?_)
  obtain ⟨hP1, hK1, hD1⟩ := hB
  rw [ht] at hP1
  have hK1 := va_K.moved hvm.symm hK1
  obtain ⟨hP, hD⟩ := va_join (wr := []) (w1 := [(y0, .inr (4, [.int (nI th), .int (nI N), .int (nI af), .ref s1, .ref s2, .ref s3, .ref s4, .ref s5, .int (nI pl), .int (pm_b go), .int (pm_b qu), .int (nI cy), .int (nI qc), .int (pm_b fr), .int (pm_b wq)])), (s1, .inl (t1, 401, .inl (pm_nf9 sm))), (s2, .inl (t2, 8000, .inl (pm_nf9 gv))), (s3, .inl (t3, 16, .inl (pm_nf9 gr))), (s4, .inl (t4, 400, .inl rc)), (s5, .inl (t5, 400, .inl mq))]) hP hD [0, 1, 2, 3, 4, 5] [] rfl rfl (by decide) (by decide) hk1 hFc hP1 hD1
  clear hPc hDc hKc hFc hP1 hK1 hD1
  generalize H1 = H at hP hS ⊢
  have hP : va_P (dC, dI) vwCl [(y0, .inr (4, [.int (nI th), .int (nI N), .int (nI af), .ref s1, .ref s2, .ref s3, .ref s4, .ref s5, .int (nI pl), .int (pm_b go), .int (pm_b qu), .int (nI cy), .int (nI qc), .int (pm_b fr), .int (pm_b wq)])), (s1, .inl (t1, 401, .inl (pm_nf9 sm))), (s2, .inl (t2, 8000, .inl (pm_nf9 gv))), (s3, .inl (t3, 16, .inl (pm_nf9 gr))), (s4, .inl (t4, 400, .inl rc)), (s5, .inl (t5, 400, .inl mq))] H := hP.sub [0, 1, 2, 3, 4, 5] rfl
  have hD : va_D A [(y0, .inr (4, [.int (nI th), .int (nI N), .int (nI af), .ref s1, .ref s2, .ref s3, .ref s4, .ref s5, .int (nI pl), .int (pm_b go), .int (pm_b qu), .int (nI cy), .int (nI qc), .int (pm_b fr), .int (pm_b wq)])), (s1, .inl (t1, 401, .inl (pm_nf9 sm))), (s2, .inl (t2, 8000, .inl (pm_nf9 gv))), (s3, .inl (t3, 16, .inl (pm_nf9 gr))), (s4, .inl (t4, 400, .inl rc)), (s5, .inl (t5, 400, .inl mq))] := hD.sub [0, 1, 2, 3, 4, 5] (by decide) rfl
  rcases pm_tf (pm_has N p0) with hh_2 | hh_2
  · obtain rfl : r_1 = nI 1 := hw.trans (by rw [hh_2]; rfl)
    obtain ⟨a, ha, rfl⟩ := pm_has_of (by omega) hh_2
    have hms := hM.2.2.2.1 a ha
    refine lv_if_eq (tgt := 35) hx hb dX4_isField_5 (by decide) (fun c_5 => absurd c_5 (by decide +kernel)) (fun c_5 => ?_)
    refine lv_iload_n hx hb dX4_isField_8 rfl (lv_at hl 2 rfl) ?_
    refine lv_if_lt (tgt := 35) hx hb dX4_isField_9 (by decide) (fun c_9 => ?_) (fun c_9 => ?_)
    · refine lv_iconst (v := nI 0) hx hb dX4_isField_35 (by decide +kernel) ?_
      exact W.zret (v := nI 0) hx hb hr (by decide +kernel) (fun t ht hW => ⟨⟨nI 0, (), rfl, pm_j1 hh_2 c_9, by rw [ht]; exact hP, va_K.moved hW.alike hK, hD⟩, hS.F ht⟩) hS.2.2 dX4_isField_36
    · refine lv_iload_n hx hb dX4_isField_12 rfl (lv_at hl 2 rfl) ?_
      refine lv_aload_n hx hb dX4_isField_13 rfl (lv_at hl 0 rfl) ?_
      refine va_get (D := (dC, dI)) (ci := 4) (v := .ref s1) (C := RX4) (T := TX4) (N := 15) hx hb hts iw_X4 hown hK hP 0 rfl rfl 3 (by decide) (hts _ mf_X4_7) (fun _ h9 => h9) rfl dX4_isField_14 ?_
      refine lv_iload_n hx hb dX4_isField_17 rfl (lv_at hl 1 rfl) ?_
      refine lv_iconst (v := nI 1) hx hb dX4_isField_18 (by decide +kernel) ?_
      refine lv_iadd hx hb dX4_isField_19 ?_
      refine lv_topi (fun x_2 ex_2 => ?_)
      obtain rfl : x_2 = nI (a + 1) := ex_2.trans (nI_add _ _)
      refine va_iald hx hb hK hP 1 0 rfl rfl (vp_in_nI (by omega) (by omega)) dX4_isField_20 ?_
      refine lv_topi (fun x_3 ex_3 => ?_)
      rw [nI_clamp (by omega)] at ex_3
      obtain rfl : x_3 = nI (sm ((a + 1))) := ex_3
      refine lv_aload_n hx hb dX4_isField_21 rfl (lv_at hl 0 rfl) ?_
      refine va_get (D := (dC, dI)) (ci := 4) (v := .ref s1) (C := RX4) (T := TX4) (N := 15) hx hb hts iw_X4 hown hK hP 0 rfl rfl 3 (by decide) (hts _ mf_X4_7) (fun _ h9 => h9) rfl dX4_isField_22 ?_
      refine lv_iload_n hx hb dX4_isField_25 rfl (lv_at hl 1 rfl) ?_
      refine va_iald hx hb hK hP 1 0 rfl rfl (vp_in_nI (by omega) (by omega)) dX4_isField_26 ?_
      refine lv_topi (fun x_4 ex_4 => ?_)
      rw [nI_clamp (by omega)] at ex_4
      obtain rfl : x_4 = nI (sm a) := ex_4
      refine lv_isub hx hb dX4_isField_27 ?_
      refine lv_topi (fun x_5 ex_5 => ?_)
      obtain rfl : x_5 = nI ((sm ((a + 1))) - (sm a)) := ex_5.trans (pk_sub (by omega))
      refine lv_icmp_ge (tgt := 35) hx hb dX4_isField_28 (by decide) (fun c_28 => ?_) (fun c_28 => ?_)
      · refine lv_iconst (v := nI 0) hx hb dX4_isField_35 (by decide +kernel) ?_
        exact W.zret (v := nI 0) hx hb hr (by decide +kernel) (fun t ht hW => ⟨⟨nI 0, (), rfl, pm_j2 (cn := pq_dn sm) hh_2 (by omega) c_28, by rw [ht]; exact hP, va_K.moved hW.alike hK, hD⟩, hS.F ht⟩) hS.2.2 dX4_isField_36
      · refine lv_iconst (v := nI 1) hx hb dX4_isField_31 (by decide +kernel) ?_
        refine lv_goto (tgt := 36) hx hb dX4_isField_32 (by decide) ?_
        exact W.zret (v := nI 1) hx hb hr (by decide +kernel) (fun t ht hW => ⟨⟨nI 1, (), rfl, pm_j3 (cn := pq_dn sm) hh_2 (by omega) c_9 c_28, by rw [ht]; exact hP, va_K.moved hW.alike hK, hD⟩, hS.F ht⟩) hS.2.2 dX4_isField_36
  · obtain rfl : r_1 = nI 0 := hw.trans (by rw [hh_2]; rfl)
    refine lv_if_eq (tgt := 35) hx hb dX4_isField_5 (by decide) (fun c_5 => ?_) (fun c_5 => absurd c_5 (by decide +kernel))
    refine lv_iconst (v := nI 0) hx hb dX4_isField_35 (by decide +kernel) ?_
    exact W.zret (v := nI 0) hx hb hr (by decide +kernel) (fun t ht hW => ⟨⟨nI 0, (), rfl, pm_h7 hh_2, by rw [ht]; exact hP, va_K.moved hW.alike hK, hD⟩, hS.F ht⟩) hS.2.2 dX4_isField_36

set_option maxHeartbeats 4000000 in
set_option maxRecDepth 100000 in
/-- goes(one, two) -/
theorem c_Q_goes (l : Launch) (dC : Nat → ClassId) (dI : Nat → Nat → Nat) (y0 s1 s2 s3 s4 s5 : Nat) (t1 t2 t3 t4 t5 : ClassId) (th N af : Nat) (sm gv gr : Nat → Nat) (rc mq : Nat → Int32) (pl : Nat) (go qu : Bool) (cy qc : Nat) (fr wq : Bool) (o1 o2 : Bool) (sz : Nat)  : Met l yX4_goes wsX4_goes ({ frames := 0, cells := 0, slots := 0, locals := 0 }) (va_Pc [.ref y0, .int (pm_b o1), .int (pm_b o2)] (fun U => U.heap.size = sz ∧ va_P (dC, dI) vwCl [(y0, .inr (4, [.int (nI th), .int (nI N), .int (nI af), .ref s1, .ref s2, .ref s3, .ref s4, .ref s5, .int (nI pl), .int (pm_b go), .int (pm_b qu), .int (nI cy), .int (nI qc), .int (pm_b fr), .int (pm_b wq)])), (s1, .inl (t1, 401, .inl (pm_nf9 sm))), (s2, .inl (t2, 8000, .inl (pm_nf9 gv))), (s3, .inl (t3, 16, .inl (pm_nf9 gr))), (s4, .inl (t4, 400, .inl rc)), (s5, .inl (t5, 400, .inl mq))] U.heap ∧ va_K (dC, dI) vwCl [(t1, .int), (t2, .int), (t3, .int), (t4, .boolean), (t5, .boolean)] U ∧ va_D (fun _ => True) [(y0, .inr (4, [.int (nI th), .int (nI N), .int (nI af), .ref s1, .ref s2, .ref s3, .ref s4, .ref s5, .int (nI pl), .int (pm_b go), .int (pm_b qu), .int (nI cy), .int (nI qc), .int (pm_b fr), .int (pm_b wq)])), (s1, .inl (t1, 401, .inl (pm_nf9 sm))), (s2, .inl (t2, 8000, .inl (pm_nf9 gv))), (s3, .inl (t3, 16, .inl (pm_nf9 gr))), (s4, .inl (t4, 400, .inl rc)), (s5, .inl (t5, 400, .inl mq))])) (va_Qi (fun (r : Int32) (_ : Unit) => r = pm_b (o1 && o2)) (fun (_ : Unit) (t : State) => va_P (dC, dI) vwCl [(y0, .inr (4, [.int (nI ((pm_gs o1 o2))), .int (nI N), .int (nI af), .ref s1, .ref s2, .ref s3, .ref s4, .ref s5, .int (nI pl), .int (pm_b go), .int (pm_b qu), .int (nI cy), .int (nI qc), .int (pm_b fr), .int (pm_b wq)])), (s1, .inl (t1, 401, .inl (pm_nf9 sm))), (s2, .inl (t2, 8000, .inl (pm_nf9 gv))), (s3, .inl (t3, 16, .inl (pm_nf9 gr))), (s4, .inl (t4, 400, .inl rc)), (s5, .inl (t5, 400, .inl mq))] t.heap ∧ va_K (dC, dI) vwCl [(t1, .int), (t2, .int), (t3, .int), (t4, .boolean), (t5, .boolean)] t ∧ va_D (va_A [(y0, .inr (4, [.int (nI th), .int (nI N), .int (nI af), .ref s1, .ref s2, .ref s3, .ref s4, .ref s5, .int (nI pl), .int (pm_b go), .int (pm_b qu), .int (nI cy), .int (nI qc), .int (pm_b fr), .int (pm_b wq)])), (s1, .inl (t1, 401, .inl (pm_nf9 sm))), (s2, .inl (t2, 8000, .inl (pm_nf9 gv))), (s3, .inl (t3, 16, .inl (pm_nf9 gr))), (s4, .inl (t4, 400, .inl rc)), (s5, .inl (t5, 400, .inl mq))] sz) [(y0, .inr (4, [.int (nI ((pm_gs o1 o2))), .int (nI N), .int (nI af), .ref s1, .ref s2, .ref s3, .ref s4, .ref s5, .int (nI pl), .int (pm_b go), .int (pm_b qu), .int (nI cy), .int (nI qc), .int (pm_b fr), .int (pm_b wq)])), (s1, .inl (t1, 401, .inl (pm_nf9 sm))), (s2, .inl (t2, 8000, .inl (pm_nf9 gv))), (s3, .inl (t3, 16, .inl (pm_nf9 gr))), (s4, .inl (t4, 400, .inl rc)), (s5, .inl (t5, 400, .inl mq))]) (va_A [(y0, .inr (4, [.int (nI th), .int (nI N), .int (nI af), .ref s1, .ref s2, .ref s3, .ref s4, .ref s5, .int (nI pl), .int (pm_b go), .int (pm_b qu), .int (nI cy), .int (nI qc), .int (pm_b fr), .int (pm_b wq)])), (s1, .inl (t1, 401, .inl (pm_nf9 sm))), (s2, .inl (t2, 8000, .inl (pm_nf9 gv))), (s3, .inl (t3, 16, .inl (pm_nf9 gr))), (s4, .inl (t4, 400, .inl rc)), (s5, .inl (t5, 400, .inl mq))] sz)) 0 0 (va_A [(y0, .inr (4, [.int (nI th), .int (nI N), .int (nI af), .ref s1, .ref s2, .ref s3, .ref s4, .ref s5, .int (nI pl), .int (pm_b go), .int (pm_b qu), .int (nI cy), .int (nI qc), .int (pm_b fr), .int (pm_b wq)])), (s1, .inl (t1, 401, .inl (pm_nf9 sm))), (s2, .inl (t2, 8000, .inl (pm_nf9 gv))), (s3, .inl (t3, 16, .inl (pm_nf9 gr))), (s4, .inl (t4, 400, .inl rc)), (s5, .inl (t5, 400, .inl mq))] sz) := by
  refine Met.ofW (cc := cX4_goes) (maxL := 3) (ret := (some .boolean)) (by decide) rfl ?_
  intro p e s m args below meth c s₁ B hml hv
  obtain ⟨rfl, hsz, hP, hK, hD0⟩ := hv
  have hx := B.exec
  have hb := B.bytes
  have hr := B.returns
  have hts : ∀ w ∈ gw, w.before _ s = true := fun w h => atoms_spec (ws := wsX4_goes) B.pre w (List.mem_cons_of_mem _ h)
  have hown : s.vm.findClass RX4 = some m.cls := findClass_of_methodNamed B.named
  have hlocks := B.notSynchronized
  subst hsz
  have hD := hD0.self (sz := s.heap.size)
  generalize hAe : va_A [(y0, .inr (4, [.int (nI th), .int (nI N), .int (nI af), .ref s1, .ref s2, .ref s3, .ref s4, .ref s5, .int (nI pl), .int (pm_b go), .int (pm_b qu), .int (nI cy), .int (nI qc), .int (pm_b fr), .int (pm_b wq)])), (s1, .inl (t1, 401, .inl (pm_nf9 sm))), (s2, .inl (t2, 8000, .inl (pm_nf9 gv))), (s3, .inl (t3, 16, .inl (pm_nf9 gr))), (s4, .inl (t4, 400, .inl rc)), (s5, .inl (t5, 400, .inl mq))] s.heap.size = A at hD ⊢
  have hA : ∀ q : Nat, s.heap.size ≤ q → A q := fun q h => by rw [← hAe]; exact Or.inr h
  have hP : va_P (dC, dI) vwCl [(y0, .inr (4, [.int (nI th), .int (nI N), .int (nI af), .ref s1, .ref s2, .ref s3, .ref s4, .ref s5, .int (nI pl), .int (pm_b go), .int (pm_b qu), .int (nI cy), .int (nI qc), .int (pm_b fr), .int (pm_b wq)])), (s1, .inl (t1, 401, .inl (pm_nf9 sm))), (s2, .inl (t2, 8000, .inl (pm_nf9 gv))), (s3, .inl (t3, 16, .inl (pm_nf9 gr))), (s4, .inl (t4, 400, .inl rc)), (s5, .inl (t5, 400, .inl mq))] s.heap := hP
  have hl := lv_entry ([.ref y0, .int (pm_b o1), .int (pm_b o2)]) (n := 3) (Nat.le_of_ble_eq_true rfl)
  rw [lg_entry_eq]
  generalize (lg_sl ([.ref y0, .int (pm_b o1), .int (pm_b o2)]) ++ List.replicate (3 - (lg_sl ([.ref y0, .int (pm_b o1), .int (pm_b o2)])).length) Slot.unset).toArray = ls at hl ⊢
  have hl : lv_has ls 3 [(0, .ref y0), (1, .int (pm_b o1)), (2, .int (pm_b o2))] := hl
  obtain ⟨H, hH⟩ : ∃ H : Heap, H = s.heap := ⟨_, rfl⟩
  rw [← hH]
  rw [← hH] at hP
  have hS : va_S A s.heap H [] := by rw [hH]; exact va_S.rf
  clear hH
  cases o1 with
  | true =>
    have hP : va_P (dC, dI) vwCl [(y0, .inr (4, [.int (nI th), .int (nI N), .int (nI af), .ref s1, .ref s2, .ref s3, .ref s4, .ref s5, .int (nI pl), .int (pm_b go), .int (pm_b qu), .int (nI cy), .int (nI qc), .int (pm_b fr), .int (pm_b wq)])), (s1, .inl (t1, 401, .inl (pm_nf9 sm))), (s2, .inl (t2, 8000, .inl (pm_nf9 gv))), (s3, .inl (t3, 16, .inl (pm_nf9 gr))), (s4, .inl (t4, 400, .inl rc)), (s5, .inl (t5, 400, .inl mq))] H := hP
    have hD : va_D A [(y0, .inr (4, [.int (nI th), .int (nI N), .int (nI af), .ref s1, .ref s2, .ref s3, .ref s4, .ref s5, .int (nI pl), .int (pm_b go), .int (pm_b qu), .int (nI cy), .int (nI qc), .int (pm_b fr), .int (pm_b wq)])), (s1, .inl (t1, 401, .inl (pm_nf9 sm))), (s2, .inl (t2, 8000, .inl (pm_nf9 gv))), (s3, .inl (t3, 16, .inl (pm_nf9 gr))), (s4, .inl (t4, 400, .inl rc)), (s5, .inl (t5, 400, .inl mq))] := hD
    have hl : lv_has ls 3 [(0, .ref y0), (1, .int (nI 1)), (2, .int (pm_b o2))] := hl
    cases o2 with
    | true =>
      have hP : va_P (dC, dI) vwCl [(y0, .inr (4, [.int (nI th), .int (nI N), .int (nI af), .ref s1, .ref s2, .ref s3, .ref s4, .ref s5, .int (nI pl), .int (pm_b go), .int (pm_b qu), .int (nI cy), .int (nI qc), .int (pm_b fr), .int (pm_b wq)])), (s1, .inl (t1, 401, .inl (pm_nf9 sm))), (s2, .inl (t2, 8000, .inl (pm_nf9 gv))), (s3, .inl (t3, 16, .inl (pm_nf9 gr))), (s4, .inl (t4, 400, .inl rc)), (s5, .inl (t5, 400, .inl mq))] H := hP
      have hD : va_D A [(y0, .inr (4, [.int (nI th), .int (nI N), .int (nI af), .ref s1, .ref s2, .ref s3, .ref s4, .ref s5, .int (nI pl), .int (pm_b go), .int (pm_b qu), .int (nI cy), .int (nI qc), .int (pm_b fr), .int (pm_b wq)])), (s1, .inl (t1, 401, .inl (pm_nf9 sm))), (s2, .inl (t2, 8000, .inl (pm_nf9 gv))), (s3, .inl (t3, 16, .inl (pm_nf9 gr))), (s4, .inl (t4, 400, .inl rc)), (s5, .inl (t5, 400, .inl mq))] := hD
      have hl : lv_has ls 3 [(0, .ref y0), (1, .int (nI 1)), (2, .int (nI 1))] := hl
      refine lv_aload_n hx hb dX4_goes_0 rfl (lv_at hl 0 rfl) ?_
      refine lv_iload_n hx hb dX4_goes_1 rfl (lv_at hl 1 rfl) ?_
      refine lv_if_ne (tgt := 9) hx hb dX4_goes_2 (by decide) (fun c_2 => ?_) (fun c_2 => absurd c_2 (by decide +kernel))
      refine lv_iload_n hx hb dX4_goes_9 rfl (lv_at hl 2 rfl) ?_
      refine lv_if_ne (tgt := 17) hx hb dX4_goes_10 (by decide) (fun c_10 => ?_) (fun c_10 => absurd c_10 (by decide +kernel))
      refine lv_iconst (v := nI 0) hx hb dX4_goes_17 (by decide +kernel) ?_
      refine va_put (D := (dC, dI)) (ci := 4) (v := .int (nI 0)) (ty := .int) (C := RX4) (T := TX4) (N := 15) hx hb hts iw_X4 tyX4 tyX4_ok nmX4 hown hK hP hD hS 0 rfl rfl 0 (by decide) (hts _ mf_X4_30) (fun _ h9 => h9) rfl (by decide +kernel) (rfl) (rfl) (Nat.le_of_ble_eq_true rfl) dX4_goes_18 (fun H locs hP hD hS => ?_)
      have hP : va_P (dC, dI) vwCl [(y0, .inr (4, [.int (nI 0), .int (nI N), .int (nI af), .ref s1, .ref s2, .ref s3, .ref s4, .ref s5, .int (nI pl), .int (pm_b go), .int (pm_b qu), .int (nI cy), .int (nI qc), .int (pm_b fr), .int (pm_b wq)])), (s1, .inl (t1, 401, .inl (pm_nf9 sm))), (s2, .inl (t2, 8000, .inl (pm_nf9 gv))), (s3, .inl (t3, 16, .inl (pm_nf9 gr))), (s4, .inl (t4, 400, .inl rc)), (s5, .inl (t5, 400, .inl mq))] H := hP
      have hD : va_D A [(y0, .inr (4, [.int (nI 0), .int (nI N), .int (nI af), .ref s1, .ref s2, .ref s3, .ref s4, .ref s5, .int (nI pl), .int (pm_b go), .int (pm_b qu), .int (nI cy), .int (nI qc), .int (pm_b fr), .int (pm_b wq)])), (s1, .inl (t1, 401, .inl (pm_nf9 sm))), (s2, .inl (t2, 8000, .inl (pm_nf9 gv))), (s3, .inl (t3, 16, .inl (pm_nf9 gr))), (s4, .inl (t4, 400, .inl rc)), (s5, .inl (t5, 400, .inl mq))] := hD
      refine lv_aload_n hx hb dX4_goes_21 rfl (lv_at hl 0 rfl) ?_
      refine va_get (D := (dC, dI)) (ci := 4) (v := .int (nI 0)) (C := RX4) (T := TX4) (N := 15) hx hb hts iw_X4 hown hK hP 0 rfl rfl 0 (by decide) (hts _ mf_X4_30) (fun _ h9 => h9) rfl dX4_goes_22 ?_
      refine lv_if_ne (tgt := 32) hx hb dX4_goes_25 (by decide) (fun c_25 => absurd c_25 (by decide +kernel)) (fun c_25 => ?_)
      refine lv_iconst (v := nI 1) hx hb dX4_goes_28 (by decide +kernel) ?_
      refine lv_goto (tgt := 33) hx hb dX4_goes_29 (by decide) ?_
      exact W.zret (v := nI 1) hx hb hr (by decide +kernel) (fun t ht hW => ⟨⟨nI 1, (), rfl, rfl, by rw [ht]; exact hP, va_K.moved hW.alike hK, hD⟩, hS.F ht⟩) hS.2.2 dX4_goes_33
    | false =>
      have hP : va_P (dC, dI) vwCl [(y0, .inr (4, [.int (nI th), .int (nI N), .int (nI af), .ref s1, .ref s2, .ref s3, .ref s4, .ref s5, .int (nI pl), .int (pm_b go), .int (pm_b qu), .int (nI cy), .int (nI qc), .int (pm_b fr), .int (pm_b wq)])), (s1, .inl (t1, 401, .inl (pm_nf9 sm))), (s2, .inl (t2, 8000, .inl (pm_nf9 gv))), (s3, .inl (t3, 16, .inl (pm_nf9 gr))), (s4, .inl (t4, 400, .inl rc)), (s5, .inl (t5, 400, .inl mq))] H := hP
      have hD : va_D A [(y0, .inr (4, [.int (nI th), .int (nI N), .int (nI af), .ref s1, .ref s2, .ref s3, .ref s4, .ref s5, .int (nI pl), .int (pm_b go), .int (pm_b qu), .int (nI cy), .int (nI qc), .int (pm_b fr), .int (pm_b wq)])), (s1, .inl (t1, 401, .inl (pm_nf9 sm))), (s2, .inl (t2, 8000, .inl (pm_nf9 gv))), (s3, .inl (t3, 16, .inl (pm_nf9 gr))), (s4, .inl (t4, 400, .inl rc)), (s5, .inl (t5, 400, .inl mq))] := hD
      have hl : lv_has ls 3 [(0, .ref y0), (1, .int (nI 1)), (2, .int (nI 0))] := hl
      refine lv_aload_n hx hb dX4_goes_0 rfl (lv_at hl 0 rfl) ?_
      refine lv_iload_n hx hb dX4_goes_1 rfl (lv_at hl 1 rfl) ?_
      refine lv_if_ne (tgt := 9) hx hb dX4_goes_2 (by decide) (fun c_2 => ?_) (fun c_2 => absurd c_2 (by decide +kernel))
      refine lv_iload_n hx hb dX4_goes_9 rfl (lv_at hl 2 rfl) ?_
      refine lv_if_ne (tgt := 17) hx hb dX4_goes_10 (by decide) (fun c_10 => absurd c_10 (by decide +kernel)) (fun c_10 => ?_)
      refine lv_iconst (v := nI 2) hx hb dX4_goes_13 (by decide +kernel) ?_
      refine lv_goto (tgt := 18) hx hb dX4_goes_14 (by decide) ?_
      refine va_put (D := (dC, dI)) (ci := 4) (v := .int (nI 2)) (ty := .int) (C := RX4) (T := TX4) (N := 15) hx hb hts iw_X4 tyX4 tyX4_ok nmX4 hown hK hP hD hS 0 rfl rfl 0 (by decide) (hts _ mf_X4_30) (fun _ h9 => h9) rfl (by decide +kernel) (rfl) (rfl) (Nat.le_of_ble_eq_true rfl) dX4_goes_18 (fun H locs hP hD hS => ?_)
      have hP : va_P (dC, dI) vwCl [(y0, .inr (4, [.int (nI 2), .int (nI N), .int (nI af), .ref s1, .ref s2, .ref s3, .ref s4, .ref s5, .int (nI pl), .int (pm_b go), .int (pm_b qu), .int (nI cy), .int (nI qc), .int (pm_b fr), .int (pm_b wq)])), (s1, .inl (t1, 401, .inl (pm_nf9 sm))), (s2, .inl (t2, 8000, .inl (pm_nf9 gv))), (s3, .inl (t3, 16, .inl (pm_nf9 gr))), (s4, .inl (t4, 400, .inl rc)), (s5, .inl (t5, 400, .inl mq))] H := hP
      have hD : va_D A [(y0, .inr (4, [.int (nI 2), .int (nI N), .int (nI af), .ref s1, .ref s2, .ref s3, .ref s4, .ref s5, .int (nI pl), .int (pm_b go), .int (pm_b qu), .int (nI cy), .int (nI qc), .int (pm_b fr), .int (pm_b wq)])), (s1, .inl (t1, 401, .inl (pm_nf9 sm))), (s2, .inl (t2, 8000, .inl (pm_nf9 gv))), (s3, .inl (t3, 16, .inl (pm_nf9 gr))), (s4, .inl (t4, 400, .inl rc)), (s5, .inl (t5, 400, .inl mq))] := hD
      refine lv_aload_n hx hb dX4_goes_21 rfl (lv_at hl 0 rfl) ?_
      refine va_get (D := (dC, dI)) (ci := 4) (v := .int (nI 2)) (C := RX4) (T := TX4) (N := 15) hx hb hts iw_X4 hown hK hP 0 rfl rfl 0 (by decide) (hts _ mf_X4_30) (fun _ h9 => h9) rfl dX4_goes_22 ?_
      refine lv_if_ne (tgt := 32) hx hb dX4_goes_25 (by decide) (fun c_25 => ?_) (fun c_25 => absurd c_25 (by decide +kernel))
      refine lv_iconst (v := nI 0) hx hb dX4_goes_32 (by decide +kernel) ?_
      exact W.zret (v := nI 0) hx hb hr (by decide +kernel) (fun t ht hW => ⟨⟨nI 0, (), rfl, rfl, by rw [ht]; exact hP, va_K.moved hW.alike hK, hD⟩, hS.F ht⟩) hS.2.2 dX4_goes_33
  | false =>
    have hP : va_P (dC, dI) vwCl [(y0, .inr (4, [.int (nI th), .int (nI N), .int (nI af), .ref s1, .ref s2, .ref s3, .ref s4, .ref s5, .int (nI pl), .int (pm_b go), .int (pm_b qu), .int (nI cy), .int (nI qc), .int (pm_b fr), .int (pm_b wq)])), (s1, .inl (t1, 401, .inl (pm_nf9 sm))), (s2, .inl (t2, 8000, .inl (pm_nf9 gv))), (s3, .inl (t3, 16, .inl (pm_nf9 gr))), (s4, .inl (t4, 400, .inl rc)), (s5, .inl (t5, 400, .inl mq))] H := hP
    have hD : va_D A [(y0, .inr (4, [.int (nI th), .int (nI N), .int (nI af), .ref s1, .ref s2, .ref s3, .ref s4, .ref s5, .int (nI pl), .int (pm_b go), .int (pm_b qu), .int (nI cy), .int (nI qc), .int (pm_b fr), .int (pm_b wq)])), (s1, .inl (t1, 401, .inl (pm_nf9 sm))), (s2, .inl (t2, 8000, .inl (pm_nf9 gv))), (s3, .inl (t3, 16, .inl (pm_nf9 gr))), (s4, .inl (t4, 400, .inl rc)), (s5, .inl (t5, 400, .inl mq))] := hD
    have hl : lv_has ls 3 [(0, .ref y0), (1, .int (nI 0)), (2, .int (pm_b o2))] := hl
    cases o2 with
    | true =>
      have hP : va_P (dC, dI) vwCl [(y0, .inr (4, [.int (nI th), .int (nI N), .int (nI af), .ref s1, .ref s2, .ref s3, .ref s4, .ref s5, .int (nI pl), .int (pm_b go), .int (pm_b qu), .int (nI cy), .int (nI qc), .int (pm_b fr), .int (pm_b wq)])), (s1, .inl (t1, 401, .inl (pm_nf9 sm))), (s2, .inl (t2, 8000, .inl (pm_nf9 gv))), (s3, .inl (t3, 16, .inl (pm_nf9 gr))), (s4, .inl (t4, 400, .inl rc)), (s5, .inl (t5, 400, .inl mq))] H := hP
      have hD : va_D A [(y0, .inr (4, [.int (nI th), .int (nI N), .int (nI af), .ref s1, .ref s2, .ref s3, .ref s4, .ref s5, .int (nI pl), .int (pm_b go), .int (pm_b qu), .int (nI cy), .int (nI qc), .int (pm_b fr), .int (pm_b wq)])), (s1, .inl (t1, 401, .inl (pm_nf9 sm))), (s2, .inl (t2, 8000, .inl (pm_nf9 gv))), (s3, .inl (t3, 16, .inl (pm_nf9 gr))), (s4, .inl (t4, 400, .inl rc)), (s5, .inl (t5, 400, .inl mq))] := hD
      have hl : lv_has ls 3 [(0, .ref y0), (1, .int (nI 0)), (2, .int (nI 1))] := hl
      refine lv_aload_n hx hb dX4_goes_0 rfl (lv_at hl 0 rfl) ?_
      refine lv_iload_n hx hb dX4_goes_1 rfl (lv_at hl 1 rfl) ?_
      refine lv_if_ne (tgt := 9) hx hb dX4_goes_2 (by decide) (fun c_2 => absurd c_2 (by decide +kernel)) (fun c_2 => ?_)
      refine lv_iconst (v := nI 1) hx hb dX4_goes_5 (by decide +kernel) ?_
      refine lv_goto (tgt := 18) hx hb dX4_goes_6 (by decide) ?_
      refine va_put (D := (dC, dI)) (ci := 4) (v := .int (nI 1)) (ty := .int) (C := RX4) (T := TX4) (N := 15) hx hb hts iw_X4 tyX4 tyX4_ok nmX4 hown hK hP hD hS 0 rfl rfl 0 (by decide) (hts _ mf_X4_30) (fun _ h9 => h9) rfl (by decide +kernel) (rfl) (rfl) (Nat.le_of_ble_eq_true rfl) dX4_goes_18 (fun H locs hP hD hS => ?_)
      have hP : va_P (dC, dI) vwCl [(y0, .inr (4, [.int (nI 1), .int (nI N), .int (nI af), .ref s1, .ref s2, .ref s3, .ref s4, .ref s5, .int (nI pl), .int (pm_b go), .int (pm_b qu), .int (nI cy), .int (nI qc), .int (pm_b fr), .int (pm_b wq)])), (s1, .inl (t1, 401, .inl (pm_nf9 sm))), (s2, .inl (t2, 8000, .inl (pm_nf9 gv))), (s3, .inl (t3, 16, .inl (pm_nf9 gr))), (s4, .inl (t4, 400, .inl rc)), (s5, .inl (t5, 400, .inl mq))] H := hP
      have hD : va_D A [(y0, .inr (4, [.int (nI 1), .int (nI N), .int (nI af), .ref s1, .ref s2, .ref s3, .ref s4, .ref s5, .int (nI pl), .int (pm_b go), .int (pm_b qu), .int (nI cy), .int (nI qc), .int (pm_b fr), .int (pm_b wq)])), (s1, .inl (t1, 401, .inl (pm_nf9 sm))), (s2, .inl (t2, 8000, .inl (pm_nf9 gv))), (s3, .inl (t3, 16, .inl (pm_nf9 gr))), (s4, .inl (t4, 400, .inl rc)), (s5, .inl (t5, 400, .inl mq))] := hD
      refine lv_aload_n hx hb dX4_goes_21 rfl (lv_at hl 0 rfl) ?_
      refine va_get (D := (dC, dI)) (ci := 4) (v := .int (nI 1)) (C := RX4) (T := TX4) (N := 15) hx hb hts iw_X4 hown hK hP 0 rfl rfl 0 (by decide) (hts _ mf_X4_30) (fun _ h9 => h9) rfl dX4_goes_22 ?_
      refine lv_if_ne (tgt := 32) hx hb dX4_goes_25 (by decide) (fun c_25 => ?_) (fun c_25 => absurd c_25 (by decide +kernel))
      refine lv_iconst (v := nI 0) hx hb dX4_goes_32 (by decide +kernel) ?_
      exact W.zret (v := nI 0) hx hb hr (by decide +kernel) (fun t ht hW => ⟨⟨nI 0, (), rfl, rfl, by rw [ht]; exact hP, va_K.moved hW.alike hK, hD⟩, hS.F ht⟩) hS.2.2 dX4_goes_33
    | false =>
      have hP : va_P (dC, dI) vwCl [(y0, .inr (4, [.int (nI th), .int (nI N), .int (nI af), .ref s1, .ref s2, .ref s3, .ref s4, .ref s5, .int (nI pl), .int (pm_b go), .int (pm_b qu), .int (nI cy), .int (nI qc), .int (pm_b fr), .int (pm_b wq)])), (s1, .inl (t1, 401, .inl (pm_nf9 sm))), (s2, .inl (t2, 8000, .inl (pm_nf9 gv))), (s3, .inl (t3, 16, .inl (pm_nf9 gr))), (s4, .inl (t4, 400, .inl rc)), (s5, .inl (t5, 400, .inl mq))] H := hP
      have hD : va_D A [(y0, .inr (4, [.int (nI th), .int (nI N), .int (nI af), .ref s1, .ref s2, .ref s3, .ref s4, .ref s5, .int (nI pl), .int (pm_b go), .int (pm_b qu), .int (nI cy), .int (nI qc), .int (pm_b fr), .int (pm_b wq)])), (s1, .inl (t1, 401, .inl (pm_nf9 sm))), (s2, .inl (t2, 8000, .inl (pm_nf9 gv))), (s3, .inl (t3, 16, .inl (pm_nf9 gr))), (s4, .inl (t4, 400, .inl rc)), (s5, .inl (t5, 400, .inl mq))] := hD
      have hl : lv_has ls 3 [(0, .ref y0), (1, .int (nI 0)), (2, .int (nI 0))] := hl
      refine lv_aload_n hx hb dX4_goes_0 rfl (lv_at hl 0 rfl) ?_
      refine lv_iload_n hx hb dX4_goes_1 rfl (lv_at hl 1 rfl) ?_
      refine lv_if_ne (tgt := 9) hx hb dX4_goes_2 (by decide) (fun c_2 => absurd c_2 (by decide +kernel)) (fun c_2 => ?_)
      refine lv_iconst (v := nI 1) hx hb dX4_goes_5 (by decide +kernel) ?_
      refine lv_goto (tgt := 18) hx hb dX4_goes_6 (by decide) ?_
      refine va_put (D := (dC, dI)) (ci := 4) (v := .int (nI 1)) (ty := .int) (C := RX4) (T := TX4) (N := 15) hx hb hts iw_X4 tyX4 tyX4_ok nmX4 hown hK hP hD hS 0 rfl rfl 0 (by decide) (hts _ mf_X4_30) (fun _ h9 => h9) rfl (by decide +kernel) (rfl) (rfl) (Nat.le_of_ble_eq_true rfl) dX4_goes_18 (fun H locs hP hD hS => ?_)
      have hP : va_P (dC, dI) vwCl [(y0, .inr (4, [.int (nI 1), .int (nI N), .int (nI af), .ref s1, .ref s2, .ref s3, .ref s4, .ref s5, .int (nI pl), .int (pm_b go), .int (pm_b qu), .int (nI cy), .int (nI qc), .int (pm_b fr), .int (pm_b wq)])), (s1, .inl (t1, 401, .inl (pm_nf9 sm))), (s2, .inl (t2, 8000, .inl (pm_nf9 gv))), (s3, .inl (t3, 16, .inl (pm_nf9 gr))), (s4, .inl (t4, 400, .inl rc)), (s5, .inl (t5, 400, .inl mq))] H := hP
      have hD : va_D A [(y0, .inr (4, [.int (nI 1), .int (nI N), .int (nI af), .ref s1, .ref s2, .ref s3, .ref s4, .ref s5, .int (nI pl), .int (pm_b go), .int (pm_b qu), .int (nI cy), .int (nI qc), .int (pm_b fr), .int (pm_b wq)])), (s1, .inl (t1, 401, .inl (pm_nf9 sm))), (s2, .inl (t2, 8000, .inl (pm_nf9 gv))), (s3, .inl (t3, 16, .inl (pm_nf9 gr))), (s4, .inl (t4, 400, .inl rc)), (s5, .inl (t5, 400, .inl mq))] := hD
      refine lv_aload_n hx hb dX4_goes_21 rfl (lv_at hl 0 rfl) ?_
      refine va_get (D := (dC, dI)) (ci := 4) (v := .int (nI 1)) (C := RX4) (T := TX4) (N := 15) hx hb hts iw_X4 hown hK hP 0 rfl rfl 0 (by decide) (hts _ mf_X4_30) (fun _ h9 => h9) rfl dX4_goes_22 ?_
      refine lv_if_ne (tgt := 32) hx hb dX4_goes_25 (by decide) (fun c_25 => ?_) (fun c_25 => absurd c_25 (by decide +kernel))
      refine lv_iconst (v := nI 0) hx hb dX4_goes_32 (by decide +kernel) ?_
      exact W.zret (v := nI 0) hx hb hr (by decide +kernel) (fun t ht hW => ⟨⟨nI 0, (), rfl, rfl, by rw [ht]; exact hP, va_K.moved hW.alike hK, hD⟩, hS.F ht⟩) hS.2.2 dX4_goes_33

set_option maxHeartbeats 4000000 in
set_option maxRecDepth 100000 in
/-- changed() -/
theorem c_Q_changed (l : Launch) (dC : Nat → ClassId) (dI : Nat → Nat → Nat) (y0 s1 s2 s3 s4 s5 : Nat) (t1 t2 t3 t4 t5 : ClassId) (th N af : Nat) (sm gv gr : Nat → Nat) (rc mq : Nat → Int32) (pl : Nat) (go qu : Bool) (cy qc : Nat) (fr wq : Bool)  (sz : Nat)  : Met l yX4_changed wsX4_changed ({ frames := 0, cells := 0, slots := 0, locals := 0 }) (va_Pc [.ref y0] (fun U => U.heap.size = sz ∧ va_P (dC, dI) vwCl [(y0, .inr (4, [.int (nI th), .int (nI N), .int (nI af), .ref s1, .ref s2, .ref s3, .ref s4, .ref s5, .int (nI pl), .int (pm_b go), .int (pm_b qu), .int (nI cy), .int (nI qc), .int (pm_b fr), .int (pm_b wq)])), (s1, .inl (t1, 401, .inl (pm_nf9 sm))), (s2, .inl (t2, 8000, .inl (pm_nf9 gv))), (s3, .inl (t3, 16, .inl (pm_nf9 gr))), (s4, .inl (t4, 400, .inl rc)), (s5, .inl (t5, 400, .inl mq))] U.heap ∧ va_K (dC, dI) vwCl [(t1, .int), (t2, .int), (t3, .int), (t4, .boolean), (t5, .boolean)] U ∧ va_D (fun _ => True) [(y0, .inr (4, [.int (nI th), .int (nI N), .int (nI af), .ref s1, .ref s2, .ref s3, .ref s4, .ref s5, .int (nI pl), .int (pm_b go), .int (pm_b qu), .int (nI cy), .int (nI qc), .int (pm_b fr), .int (pm_b wq)])), (s1, .inl (t1, 401, .inl (pm_nf9 sm))), (s2, .inl (t2, 8000, .inl (pm_nf9 gv))), (s3, .inl (t3, 16, .inl (pm_nf9 gr))), (s4, .inl (t4, 400, .inl rc)), (s5, .inl (t5, 400, .inl mq))])) (va_Qv (fun (_ : Unit) => True) (fun (_ : Unit) (t : State) => va_P (dC, dI) vwCl [(y0, .inr (4, [.int (nI th), .int (nI N), .int (nI af), .ref s1, .ref s2, .ref s3, .ref s4, .ref s5, .int (nI pl), .int (pm_b go), .int (pm_b false), .int (nI cy), .int (nI qc), .int (pm_b false), .int (pm_b wq)])), (s1, .inl (t1, 401, .inl (pm_nf9 sm))), (s2, .inl (t2, 8000, .inl (pm_nf9 gv))), (s3, .inl (t3, 16, .inl (pm_nf9 gr))), (s4, .inl (t4, 400, .inl rc)), (s5, .inl (t5, 400, .inl mq))] t.heap ∧ va_K (dC, dI) vwCl [(t1, .int), (t2, .int), (t3, .int), (t4, .boolean), (t5, .boolean)] t ∧ va_D (va_A [(y0, .inr (4, [.int (nI th), .int (nI N), .int (nI af), .ref s1, .ref s2, .ref s3, .ref s4, .ref s5, .int (nI pl), .int (pm_b go), .int (pm_b qu), .int (nI cy), .int (nI qc), .int (pm_b fr), .int (pm_b wq)])), (s1, .inl (t1, 401, .inl (pm_nf9 sm))), (s2, .inl (t2, 8000, .inl (pm_nf9 gv))), (s3, .inl (t3, 16, .inl (pm_nf9 gr))), (s4, .inl (t4, 400, .inl rc)), (s5, .inl (t5, 400, .inl mq))] sz) [(y0, .inr (4, [.int (nI th), .int (nI N), .int (nI af), .ref s1, .ref s2, .ref s3, .ref s4, .ref s5, .int (nI pl), .int (pm_b go), .int (pm_b false), .int (nI cy), .int (nI qc), .int (pm_b false), .int (pm_b wq)])), (s1, .inl (t1, 401, .inl (pm_nf9 sm))), (s2, .inl (t2, 8000, .inl (pm_nf9 gv))), (s3, .inl (t3, 16, .inl (pm_nf9 gr))), (s4, .inl (t4, 400, .inl rc)), (s5, .inl (t5, 400, .inl mq))]) (va_A [(y0, .inr (4, [.int (nI th), .int (nI N), .int (nI af), .ref s1, .ref s2, .ref s3, .ref s4, .ref s5, .int (nI pl), .int (pm_b go), .int (pm_b qu), .int (nI cy), .int (nI qc), .int (pm_b fr), .int (pm_b wq)])), (s1, .inl (t1, 401, .inl (pm_nf9 sm))), (s2, .inl (t2, 8000, .inl (pm_nf9 gv))), (s3, .inl (t3, 16, .inl (pm_nf9 gr))), (s4, .inl (t4, 400, .inl rc)), (s5, .inl (t5, 400, .inl mq))] sz)) 0 0 (va_A [(y0, .inr (4, [.int (nI th), .int (nI N), .int (nI af), .ref s1, .ref s2, .ref s3, .ref s4, .ref s5, .int (nI pl), .int (pm_b go), .int (pm_b qu), .int (nI cy), .int (nI qc), .int (pm_b fr), .int (pm_b wq)])), (s1, .inl (t1, 401, .inl (pm_nf9 sm))), (s2, .inl (t2, 8000, .inl (pm_nf9 gv))), (s3, .inl (t3, 16, .inl (pm_nf9 gr))), (s4, .inl (t4, 400, .inl rc)), (s5, .inl (t5, 400, .inl mq))] sz) := by
  refine Met.ofW (cc := cX4_changed) (maxL := 1) (ret := (none)) (by decide) rfl ?_
  intro p e s m args below meth c s₁ B hml hv
  obtain ⟨rfl, hsz, hP, hK, hD0⟩ := hv
  have hx := B.exec
  have hb := B.bytes
  have hr := B.returns
  have hts : ∀ w ∈ gw, w.before _ s = true := fun w h => atoms_spec (ws := wsX4_changed) B.pre w (List.mem_cons_of_mem _ h)
  have hown : s.vm.findClass RX4 = some m.cls := findClass_of_methodNamed B.named
  have hlocks := B.notSynchronized
  subst hsz
  have hD := hD0.self (sz := s.heap.size)
  generalize hAe : va_A [(y0, .inr (4, [.int (nI th), .int (nI N), .int (nI af), .ref s1, .ref s2, .ref s3, .ref s4, .ref s5, .int (nI pl), .int (pm_b go), .int (pm_b qu), .int (nI cy), .int (nI qc), .int (pm_b fr), .int (pm_b wq)])), (s1, .inl (t1, 401, .inl (pm_nf9 sm))), (s2, .inl (t2, 8000, .inl (pm_nf9 gv))), (s3, .inl (t3, 16, .inl (pm_nf9 gr))), (s4, .inl (t4, 400, .inl rc)), (s5, .inl (t5, 400, .inl mq))] s.heap.size = A at hD ⊢
  have hA : ∀ q : Nat, s.heap.size ≤ q → A q := fun q h => by rw [← hAe]; exact Or.inr h
  have hP : va_P (dC, dI) vwCl [(y0, .inr (4, [.int (nI th), .int (nI N), .int (nI af), .ref s1, .ref s2, .ref s3, .ref s4, .ref s5, .int (nI pl), .int (pm_b go), .int (pm_b qu), .int (nI cy), .int (nI qc), .int (pm_b fr), .int (pm_b wq)])), (s1, .inl (t1, 401, .inl (pm_nf9 sm))), (s2, .inl (t2, 8000, .inl (pm_nf9 gv))), (s3, .inl (t3, 16, .inl (pm_nf9 gr))), (s4, .inl (t4, 400, .inl rc)), (s5, .inl (t5, 400, .inl mq))] s.heap := hP
  have hl := lv_entry ([.ref y0]) (n := 1) (Nat.le_of_ble_eq_true rfl)
  rw [lg_entry_eq]
  generalize (lg_sl ([.ref y0]) ++ List.replicate (1 - (lg_sl ([.ref y0])).length) Slot.unset).toArray = ls at hl ⊢
  have hl : lv_has ls 1 [(0, .ref y0)] := hl
  obtain ⟨H, hH⟩ : ∃ H : Heap, H = s.heap := ⟨_, rfl⟩
  rw [← hH]
  rw [← hH] at hP
  have hS : va_S A s.heap H [] := by rw [hH]; exact va_S.rf
  clear hH
  refine lv_aload_n hx hb dX4_changed_0 rfl (lv_at hl 0 rfl) ?_
  refine lv_iconst (v := nI 0) hx hb dX4_changed_1 (by decide +kernel) ?_
  refine va_put (D := (dC, dI)) (ci := 4) (v := .int (nI 0)) (ty := .boolean) (C := RX4) (T := TX4) (N := 15) hx hb hts iw_X4 tyX4 tyX4_ok nmX4 hown hK hP hD hS 0 rfl rfl 10 (by decide) (hts _ mf_X4_40) (fun _ h9 => h9) rfl (by decide +kernel) (rfl) (rfl) (Nat.le_of_ble_eq_true rfl) dX4_changed_2 (fun H locs hP hD hS => ?_)
  have hP : va_P (dC, dI) vwCl [(y0, .inr (4, [.int (nI th), .int (nI N), .int (nI af), .ref s1, .ref s2, .ref s3, .ref s4, .ref s5, .int (nI pl), .int (pm_b go), .int (nI 0), .int (nI cy), .int (nI qc), .int (pm_b fr), .int (pm_b wq)])), (s1, .inl (t1, 401, .inl (pm_nf9 sm))), (s2, .inl (t2, 8000, .inl (pm_nf9 gv))), (s3, .inl (t3, 16, .inl (pm_nf9 gr))), (s4, .inl (t4, 400, .inl rc)), (s5, .inl (t5, 400, .inl mq))] H := hP
  have hD : va_D A [(y0, .inr (4, [.int (nI th), .int (nI N), .int (nI af), .ref s1, .ref s2, .ref s3, .ref s4, .ref s5, .int (nI pl), .int (pm_b go), .int (nI 0), .int (nI cy), .int (nI qc), .int (pm_b fr), .int (pm_b wq)])), (s1, .inl (t1, 401, .inl (pm_nf9 sm))), (s2, .inl (t2, 8000, .inl (pm_nf9 gv))), (s3, .inl (t3, 16, .inl (pm_nf9 gr))), (s4, .inl (t4, 400, .inl rc)), (s5, .inl (t5, 400, .inl mq))] := hD
  refine lv_aload_n hx hb dX4_changed_5 rfl (lv_at hl 0 rfl) ?_
  refine lv_iconst (v := nI 0) hx hb dX4_changed_6 (by decide +kernel) ?_
  refine va_put (D := (dC, dI)) (ci := 4) (v := .int (nI 0)) (ty := .boolean) (C := RX4) (T := TX4) (N := 15) hx hb hts iw_X4 tyX4 tyX4_ok nmX4 hown hK hP hD hS 0 rfl rfl 13 (by decide) (hts _ mf_X4_44) (fun _ h9 => h9) rfl (by decide +kernel) (rfl) (rfl) (Nat.le_of_ble_eq_true rfl) dX4_changed_7 (fun H locs hP hD hS => ?_)
  have hP : va_P (dC, dI) vwCl [(y0, .inr (4, [.int (nI th), .int (nI N), .int (nI af), .ref s1, .ref s2, .ref s3, .ref s4, .ref s5, .int (nI pl), .int (pm_b go), .int (nI 0), .int (nI cy), .int (nI qc), .int (nI 0), .int (pm_b wq)])), (s1, .inl (t1, 401, .inl (pm_nf9 sm))), (s2, .inl (t2, 8000, .inl (pm_nf9 gv))), (s3, .inl (t3, 16, .inl (pm_nf9 gr))), (s4, .inl (t4, 400, .inl rc)), (s5, .inl (t5, 400, .inl mq))] H := hP
  have hD : va_D A [(y0, .inr (4, [.int (nI th), .int (nI N), .int (nI af), .ref s1, .ref s2, .ref s3, .ref s4, .ref s5, .int (nI pl), .int (pm_b go), .int (nI 0), .int (nI cy), .int (nI qc), .int (nI 0), .int (pm_b wq)])), (s1, .inl (t1, 401, .inl (pm_nf9 sm))), (s2, .inl (t2, 8000, .inl (pm_nf9 gv))), (s3, .inl (t3, 16, .inl (pm_nf9 gr))), (s4, .inl (t4, 400, .inl rc)), (s5, .inl (t5, 400, .inl mq))] := hD
  exact W.vret hx hb hr (fun t ht hW => ⟨⟨(), rfl, trivial, by rw [ht]; exact hP, va_K.moved hW.alike hK, hD⟩, hS.F ht⟩) hS.2.2 dX4_changed_10
