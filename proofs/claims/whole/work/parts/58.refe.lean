set_option maxHeartbeats 4000000 in
set_option maxRecDepth 100000 in
/-- finish: done -/
theorem c_Q_finish_ok (l : Launch) (dC : Nat → ClassId) (dI : Nat → Nat → Nat) (y0 s1 s2 s3 s4 s5 : Nat) (t1 t2 t3 t4 t5 : ClassId) (th N af : Nat) (sm gv gr : Nat → Nat) (rc mq : Nat → Int32) (pl : Nat) (go qu : Bool) (cy qc : Nat) (fr wq : Bool)  (sz : Nat) (hM : pq_MO N sm gv gr af) (hgo : go = true) : Met l yX4_finish wsX4_finish ({ frames := 1, cells := 0, slots := 0, locals := 25 }) (va_Pc [.ref y0] (fun U => U.heap.size = sz ∧ va_P (dC, dI) vwCl [(y0, .inr (4, [.int (nI th), .int (nI N), .int (nI af), .ref s1, .ref s2, .ref s3, .ref s4, .ref s5, .int (nI pl), .int (pm_b go), .int (pm_b qu), .int (nI cy), .int (nI qc), .int (pm_b fr), .int (pm_b wq)])), (s1, .inl (t1, 401, .inl (pm_nf9 sm))), (s2, .inl (t2, 8000, .inl (pm_nf9 gv))), (s3, .inl (t3, 16, .inl (pm_nf9 gr))), (s4, .inl (t4, 400, .inl rc)), (s5, .inl (t5, 400, .inl mq))] U.heap ∧ va_K (dC, dI) vwCl [(t1, .int), (t2, .int), (t3, .int), (t4, .boolean), (t5, .boolean)] U ∧ va_D (fun _ => True) [(y0, .inr (4, [.int (nI th), .int (nI N), .int (nI af), .ref s1, .ref s2, .ref s3, .ref s4, .ref s5, .int (nI pl), .int (pm_b go), .int (pm_b qu), .int (nI cy), .int (nI qc), .int (pm_b fr), .int (pm_b wq)])), (s1, .inl (t1, 401, .inl (pm_nf9 sm))), (s2, .inl (t2, 8000, .inl (pm_nf9 gv))), (s3, .inl (t3, 16, .inl (pm_nf9 gr))), (s4, .inl (t4, 400, .inl rc)), (s5, .inl (t5, 400, .inl mq))])) (va_Qi (fun (r : Int32) (u : Nat → Int32) => u = pq_reach N sm gv gr rc ∧ r = (if qu = true then nI (pm_cnt u N) else -1)) (fun (u : Nat → Int32) (t : State) => va_P (dC, dI) vwCl [(y0, .inr (4, [.int (nI 0), .int (nI N), .int (nI af), .ref s1, .ref s2, .ref s3, .ref s4, .ref s5, .int (nI pl), .int (pm_b false), .int (pm_b qu), .int (nI ((cy + 1))), .int (nI ((if qu = true then qc + 1 else qc))), .int (pm_b true), .int (pm_b qu)])), (s1, .inl (t1, 401, .inl (pm_nf9 sm))), (s2, .inl (t2, 8000, .inl (pm_nf9 gv))), (s3, .inl (t3, 16, .inl (pm_nf9 gr))), (s4, .inl (t4, 400, .inl u)), (s5, .inl (t5, 400, .inl (pm_cp N u mq)))] t.heap ∧ va_K (dC, dI) vwCl [(t1, .int), (t2, .int), (t3, .int), (t4, .boolean), (t5, .boolean)] t ∧ va_D (va_A [(y0, .inr (4, [.int (nI th), .int (nI N), .int (nI af), .ref s1, .ref s2, .ref s3, .ref s4, .ref s5, .int (nI pl), .int (pm_b go), .int (pm_b qu), .int (nI cy), .int (nI qc), .int (pm_b fr), .int (pm_b wq)])), (s1, .inl (t1, 401, .inl (pm_nf9 sm))), (s2, .inl (t2, 8000, .inl (pm_nf9 gv))), (s3, .inl (t3, 16, .inl (pm_nf9 gr))), (s4, .inl (t4, 400, .inl rc)), (s5, .inl (t5, 400, .inl mq))] sz) [(y0, .inr (4, [.int (nI 0), .int (nI N), .int (nI af), .ref s1, .ref s2, .ref s3, .ref s4, .ref s5, .int (nI pl), .int (pm_b false), .int (pm_b qu), .int (nI ((cy + 1))), .int (nI ((if qu = true then qc + 1 else qc))), .int (pm_b true), .int (pm_b qu)])), (s1, .inl (t1, 401, .inl (pm_nf9 sm))), (s2, .inl (t2, 8000, .inl (pm_nf9 gv))), (s3, .inl (t3, 16, .inl (pm_nf9 gr))), (s4, .inl (t4, 400, .inl u)), (s5, .inl (t5, 400, .inl (pm_cp N u mq)))]) (va_A [(y0, .inr (4, [.int (nI th), .int (nI N), .int (nI af), .ref s1, .ref s2, .ref s3, .ref s4, .ref s5, .int (nI pl), .int (pm_b go), .int (pm_b qu), .int (nI cy), .int (nI qc), .int (pm_b fr), .int (pm_b wq)])), (s1, .inl (t1, 401, .inl (pm_nf9 sm))), (s2, .inl (t2, 8000, .inl (pm_nf9 gv))), (s3, .inl (t3, 16, .inl (pm_nf9 gr))), (s4, .inl (t4, 400, .inl rc)), (s5, .inl (t5, 400, .inl mq))] sz)) 0 0 (va_A [(y0, .inr (4, [.int (nI th), .int (nI N), .int (nI af), .ref s1, .ref s2, .ref s3, .ref s4, .ref s5, .int (nI pl), .int (pm_b go), .int (pm_b qu), .int (nI cy), .int (nI qc), .int (pm_b fr), .int (pm_b wq)])), (s1, .inl (t1, 401, .inl (pm_nf9 sm))), (s2, .inl (t2, 8000, .inl (pm_nf9 gv))), (s3, .inl (t3, 16, .inl (pm_nf9 gr))), (s4, .inl (t4, 400, .inl rc)), (s5, .inl (t5, 400, .inl mq))] sz) := by
  refine Met.ofW (cc := cX4_finish) (maxL := 3) (ret := (some .int)) (by decide) rfl ?_
  intro p e s m args below meth c s₁ B hml hv
  obtain ⟨rfl, hsz, hP, hK, hD0⟩ := hv
  have hx := B.exec
  have hb := B.bytes
  have hr := B.returns
  have hts : ∀ w ∈ gw, w.before _ s = true := fun w h => atoms_spec (ws := wsX4_finish) B.pre w (List.mem_cons_of_mem _ h)
  have hown : s.vm.findClass RX4 = some m.cls := findClass_of_methodNamed B.named
  have hlocks := B.notSynchronized
  subst hsz
  have hD := hD0.self (sz := s.heap.size)
  generalize hAe : va_A [(y0, .inr (4, [.int (nI th), .int (nI N), .int (nI af), .ref s1, .ref s2, .ref s3, .ref s4, .ref s5, .int (nI pl), .int (pm_b go), .int (pm_b qu), .int (nI cy), .int (nI qc), .int (pm_b fr), .int (pm_b wq)])), (s1, .inl (t1, 401, .inl (pm_nf9 sm))), (s2, .inl (t2, 8000, .inl (pm_nf9 gv))), (s3, .inl (t3, 16, .inl (pm_nf9 gr))), (s4, .inl (t4, 400, .inl rc)), (s5, .inl (t5, 400, .inl mq))] s.heap.size = A at hD ⊢
  have hA : ∀ q : Nat, s.heap.size ≤ q → A q := fun q h => by rw [← hAe]; exact Or.inr h
  have hP : va_P (dC, dI) vwCl [(y0, .inr (4, [.int (nI th), .int (nI N), .int (nI af), .ref s1, .ref s2, .ref s3, .ref s4, .ref s5, .int (nI pl), .int (pm_b go), .int (pm_b qu), .int (nI cy), .int (nI qc), .int (pm_b fr), .int (pm_b wq)])), (s1, .inl (t1, 401, .inl (pm_nf9 sm))), (s2, .inl (t2, 8000, .inl (pm_nf9 gv))), (s3, .inl (t3, 16, .inl (pm_nf9 gr))), (s4, .inl (t4, 400, .inl rc)), (s5, .inl (t5, 400, .inl mq))] s.heap := hP
  have hl := lv_entry ([.ref y0]) (n := 3) (Nat.le_of_ble_eq_true rfl)
  rw [lg_entry_eq]
  generalize (lg_sl ([.ref y0]) ++ List.replicate (3 - (lg_sl ([.ref y0])).length) Slot.unset).toArray = ls at hl ⊢
  have hl : lv_has ls 3 [(0, .ref y0)] := hl
  obtain ⟨H, hH⟩ : ∃ H : Heap, H = s.heap := ⟨_, rfl⟩
  rw [← hH]
  rw [← hH] at hP
  have hS : va_S A s.heap H [] := by rw [hH]; exact va_S.rf
  clear hH
  have hN := hM.1
  subst hgo
  have hP : va_P (dC, dI) vwCl [(y0, .inr (4, [.int (nI th), .int (nI N), .int (nI af), .ref s1, .ref s2, .ref s3, .ref s4, .ref s5, .int (nI pl), .int (nI 1), .int (pm_b qu), .int (nI cy), .int (nI qc), .int (pm_b fr), .int (pm_b wq)])), (s1, .inl (t1, 401, .inl (pm_nf9 sm))), (s2, .inl (t2, 8000, .inl (pm_nf9 gv))), (s3, .inl (t3, 16, .inl (pm_nf9 gr))), (s4, .inl (t4, 400, .inl rc)), (s5, .inl (t5, 400, .inl mq))] H := hP
  have hD : va_D A [(y0, .inr (4, [.int (nI th), .int (nI N), .int (nI af), .ref s1, .ref s2, .ref s3, .ref s4, .ref s5, .int (nI pl), .int (nI 1), .int (pm_b qu), .int (nI cy), .int (nI qc), .int (pm_b fr), .int (pm_b wq)])), (s1, .inl (t1, 401, .inl (pm_nf9 sm))), (s2, .inl (t2, 8000, .inl (pm_nf9 gv))), (s3, .inl (t3, 16, .inl (pm_nf9 gr))), (s4, .inl (t4, 400, .inl rc)), (s5, .inl (t5, 400, .inl mq))] := hD
  refine lv_aload_n hx hb dX4_finish_0 rfl (lv_at hl 0 rfl) ?_
  refine lv_aload_n hx hb dX4_finish_1 rfl (lv_at hl 0 rfl) ?_
  refine va_get (D := (dC, dI)) (ci := 4) (v := .int (nI 1)) (C := RX4) (T := TX4) (N := 15) hx hb hts iw_X4 hown hK hP 0 rfl rfl 9 (by decide) (hts _ mf_X4_61) (fun _ h9 => h9) rfl dX4_finish_2 ?_
  refine lv_iconst (v := nI 1) hx hb dX4_finish_5 (by decide +kernel) ?_
  have hPc := hP.sub (ws' := [(y0, .inr (4, [.int (nI th), .int (nI N), .int (nI af), .ref s1, .ref s2, .ref s3, .ref s4, .ref s5, .int (nI pl), .int (nI 1), .int (pm_b qu), .int (nI cy), .int (nI qc), .int (pm_b fr), .int (pm_b wq)])), (s1, .inl (t1, 401, .inl (pm_nf9 sm))), (s2, .inl (t2, 8000, .inl (pm_nf9 gv))), (s3, .inl (t3, 16, .inl (pm_nf9 gr))), (s4, .inl (t4, 400, .inl rc)), (s5, .inl (t5, 400, .inl mq))]) [0, 1, 2, 3, 4, 5] rfl
  have hDc := hD.sub (ws' := [(y0, .inr (4, [.int (nI th), .int (nI N), .int (nI af), .ref s1, .ref s2, .ref s3, .ref s4, .ref s5, .int (nI pl), .int (nI 1), .int (pm_b qu), .int (nI cy), .int (nI qc), .int (pm_b fr), .int (pm_b wq)])), (s1, .inl (t1, 401, .inl (pm_nf9 sm))), (s2, .inl (t2, 8000, .inl (pm_nf9 gv))), (s3, .inl (t3, 16, .inl (pm_nf9 gr))), (s4, .inl (t4, 400, .inl rc)), (s5, .inl (t5, 400, .inl mq))]) [0, 1, 2, 3, 4, 5] (by decide) rfl
  have hKc := hK.sub (tys' := [(t1, .int), (t2, .int), (t3, .int), (t4, .boolean), (t5, .boolean)]) [0, 1, 2, 3, 4] rfl
  have hFc := va_free (wc := [(y0, .inr (4, [.int (nI th), .int (nI N), .int (nI af), .ref s1, .ref s2, .ref s3, .ref s4, .ref s5, .int (nI pl), .int (nI 1), .int (pm_b qu), .int (nI cy), .int (nI qc), .int (pm_b fr), .int (pm_b wq)])), (s1, .inl (t1, 401, .inl (pm_nf9 sm))), (s2, .inl (t2, 8000, .inl (pm_nf9 gv))), (s3, .inl (t3, 16, .inl (pm_nf9 gr))), (s4, .inl (t4, 400, .inl rc)), (s5, .inl (t5, 400, .inl mq))]) hD hS hA [0, 1, 2, 3, 4, 5] rfl
  refine va_calli (va_runV (As := [.int (nI 1), .int (nI 1)]) (rest := []) ⟨hx, hb, hml, hown, hts⟩ (c_Q_goes l dC dI y0 s1 s2 s3 s4 s5 t1 t2 t3 t4 t5 th N af sm gv gr rc mq pl true qu cy qc fr wq true true H.size) (cwV 2 hts (gw_V ml_X4_47 mi_X4_goes ms_X4_goes mn_X4 mc_X4_goes) rfl rfl rfl (by decide +kernel) ⟨Nat.le_of_ble_eq_true rfl, Nat.le_of_ble_eq_true rfl⟩) ⟨fun a U g mk q => by obtain ⟨q0, q1, qP, qK, qD⟩ := q; exact ⟨q0, q1, qP, va_K.moved (u := U) (U := U.calling g mk a) (Vm.Alike.refl U.vm) qK, qD⟩, va_recv hKc hPc (ci := 4) (q0 := 0) rfl rfl, fun U hU hW => ⟨rfl, by rw [hU], by rw [hU]; exact hPc, va_K.moved hW.alike hKc, hDc.weaken (fun _ _ _ _ => trivial)⟩⟩ rfl rfl hl.1 rfl (lv_room (Nat.le_of_ble_eq_true rfl)) dX4_finish_6 ⟨Nat.le_of_ble_eq_true rfl, Nat.le_of_ble_eq_true rfl⟩) hS (fun q _ h => hFc q h) hFc (fun r_1 u t H1 locs ht hvm hw hB hz1 hk1 hS => ?_)
  obtain ⟨hP1, hK1, hD1⟩ := hB
  rw [ht] at hP1
  have hK1 := va_K.moved hvm.symm hK1
  obtain ⟨hP, hD⟩ := va_join (wr := []) (w1 := [(y0, .inr (4, [.int (nI 0), .int (nI N), .int (nI af), .ref s1, .ref s2, .ref s3, .ref s4, .ref s5, .int (nI pl), .int (nI 1), .int (pm_b qu), .int (nI cy), .int (nI qc), .int (pm_b fr), .int (pm_b wq)])), (s1, .inl (t1, 401, .inl (pm_nf9 sm))), (s2, .inl (t2, 8000, .inl (pm_nf9 gv))), (s3, .inl (t3, 16, .inl (pm_nf9 gr))), (s4, .inl (t4, 400, .inl rc)), (s5, .inl (t5, 400, .inl mq))]) hP hD [0, 1, 2, 3, 4, 5] [] rfl rfl (by decide) (by decide) hk1 hFc hP1 hD1
  clear hPc hDc hKc hFc hP1 hK1 hD1
  generalize H1 = H at hP hS ⊢
  have hP : va_P (dC, dI) vwCl [(y0, .inr (4, [.int (nI 0), .int (nI N), .int (nI af), .ref s1, .ref s2, .ref s3, .ref s4, .ref s5, .int (nI pl), .int (nI 1), .int (pm_b qu), .int (nI cy), .int (nI qc), .int (pm_b fr), .int (pm_b wq)])), (s1, .inl (t1, 401, .inl (pm_nf9 sm))), (s2, .inl (t2, 8000, .inl (pm_nf9 gv))), (s3, .inl (t3, 16, .inl (pm_nf9 gr))), (s4, .inl (t4, 400, .inl rc)), (s5, .inl (t5, 400, .inl mq))] H := hP.sub [0, 1, 2, 3, 4, 5] rfl
  have hD : va_D A [(y0, .inr (4, [.int (nI 0), .int (nI N), .int (nI af), .ref s1, .ref s2, .ref s3, .ref s4, .ref s5, .int (nI pl), .int (nI 1), .int (pm_b qu), .int (nI cy), .int (nI qc), .int (pm_b fr), .int (pm_b wq)])), (s1, .inl (t1, 401, .inl (pm_nf9 sm))), (s2, .inl (t2, 8000, .inl (pm_nf9 gv))), (s3, .inl (t3, 16, .inl (pm_nf9 gr))), (s4, .inl (t4, 400, .inl rc)), (s5, .inl (t5, 400, .inl mq))] := hD.sub [0, 1, 2, 3, 4, 5] (by decide) rfl
  obtain rfl : r_1 = nI 1 := hw
  refine lv_if_ne (tgt := 14) hx hb dX4_finish_9 (by decide) (fun c_9 => ?_) (fun c_9 => absurd c_9 (by decide +kernel))
  refine lv_aload_n hx hb dX4_finish_14 rfl (lv_at hl 0 rfl) ?_
  have hPc := hP.sub (ws' := [(y0, .inr (4, [.int (nI 0), .int (nI N), .int (nI af), .ref s1, .ref s2, .ref s3, .ref s4, .ref s5, .int (nI pl), .int (nI 1), .int (pm_b qu), .int (nI cy), .int (nI qc), .int (pm_b fr), .int (pm_b wq)])), (s1, .inl (t1, 401, .inl (pm_nf9 sm))), (s2, .inl (t2, 8000, .inl (pm_nf9 gv))), (s3, .inl (t3, 16, .inl (pm_nf9 gr))), (s4, .inl (t4, 400, .inl rc)), (s5, .inl (t5, 400, .inl mq))]) [0, 1, 2, 3, 4, 5] rfl
  have hDc := hD.sub (ws' := [(y0, .inr (4, [.int (nI 0), .int (nI N), .int (nI af), .ref s1, .ref s2, .ref s3, .ref s4, .ref s5, .int (nI pl), .int (nI 1), .int (pm_b qu), .int (nI cy), .int (nI qc), .int (pm_b fr), .int (pm_b wq)])), (s1, .inl (t1, 401, .inl (pm_nf9 sm))), (s2, .inl (t2, 8000, .inl (pm_nf9 gv))), (s3, .inl (t3, 16, .inl (pm_nf9 gr))), (s4, .inl (t4, 400, .inl rc)), (s5, .inl (t5, 400, .inl mq))]) [0, 1, 2, 3, 4, 5] (by decide) rfl
  have hKc := hK.sub (tys' := [(t1, .int), (t2, .int), (t3, .int), (t4, .boolean), (t5, .boolean)]) [0, 1, 2, 3, 4] rfl
  have hFc := va_free (wc := [(y0, .inr (4, [.int (nI 0), .int (nI N), .int (nI af), .ref s1, .ref s2, .ref s3, .ref s4, .ref s5, .int (nI pl), .int (nI 1), .int (pm_b qu), .int (nI cy), .int (nI qc), .int (pm_b fr), .int (pm_b wq)])), (s1, .inl (t1, 401, .inl (pm_nf9 sm))), (s2, .inl (t2, 8000, .inl (pm_nf9 gv))), (s3, .inl (t3, 16, .inl (pm_nf9 gr))), (s4, .inl (t4, 400, .inl rc)), (s5, .inl (t5, 400, .inl mq))]) hD hS hA [0, 1, 2, 3, 4, 5] rfl
  refine va_calli (va_runV (As := []) (rest := []) ⟨hx, hb, hml, hown, hts⟩ (c_Q_reach l dC dI y0 s1 s2 s3 s4 s5 t1 t2 t3 t4 t5 0 N af sm gv gr rc mq pl true qu cy qc fr wq H.size (hM)) (cwV 0 hts (gw_V ml_X4_64 mi_X4_reach ms_X4_reach mn_X4 mc_X4_reach) rfl rfl rfl (by decide +kernel) ⟨Nat.le_of_ble_eq_true rfl, Nat.le_of_ble_eq_true rfl⟩) ⟨fun a U g mk q => by obtain ⟨q0, q1, qP, qK, qD⟩ := q; exact ⟨q0, q1, qP, va_K.moved (u := U) (U := U.calling g mk a) (Vm.Alike.refl U.vm) qK, qD⟩, va_recv hKc hPc (ci := 4) (q0 := 0) rfl rfl, fun U hU hW => ⟨rfl, by rw [hU], by rw [hU]; exact hPc, va_K.moved hW.alike hKc, hDc.weaken (fun _ _ _ _ => trivial)⟩⟩ rfl rfl hl.1 rfl (lv_room (Nat.le_of_ble_eq_true rfl)) dX4_finish_15 ⟨Nat.le_of_ble_eq_true rfl, Nat.le_of_ble_eq_true rfl⟩) hS (fun q _ h => hFc q h) hFc (fun r_2 u t H1 locs ht hvm hw hB hz1 hk1 hS => ?_)
  obtain ⟨rc9, rfl⟩ : ∃ z, z = u := ⟨_, rfl⟩
  obtain ⟨hP1, hK1, hD1⟩ := hB
  rw [ht] at hP1
  have hK1 := va_K.moved hvm.symm hK1
  obtain ⟨hP, hD⟩ := va_join (wr := []) (w1 := [(y0, .inr (4, [.int (nI 0), .int (nI N), .int (nI af), .ref s1, .ref s2, .ref s3, .ref s4, .ref s5, .int (nI pl), .int (nI 1), .int (pm_b qu), .int (nI cy), .int (nI qc), .int (pm_b fr), .int (pm_b wq)])), (s1, .inl (t1, 401, .inl (pm_nf9 sm))), (s2, .inl (t2, 8000, .inl (pm_nf9 gv))), (s3, .inl (t3, 16, .inl (pm_nf9 gr))), (s4, .inl (t4, 400, .inl rc9)), (s5, .inl (t5, 400, .inl mq))]) hP hD [0, 1, 2, 3, 4, 5] [] rfl rfl (by decide) (by decide) hk1 hFc hP1 hD1
  clear hPc hDc hKc hFc hP1 hK1 hD1
  generalize H1 = H at hP hS ⊢
  have hP : va_P (dC, dI) vwCl [(y0, .inr (4, [.int (nI 0), .int (nI N), .int (nI af), .ref s1, .ref s2, .ref s3, .ref s4, .ref s5, .int (nI pl), .int (nI 1), .int (pm_b qu), .int (nI cy), .int (nI qc), .int (pm_b fr), .int (pm_b wq)])), (s1, .inl (t1, 401, .inl (pm_nf9 sm))), (s2, .inl (t2, 8000, .inl (pm_nf9 gv))), (s3, .inl (t3, 16, .inl (pm_nf9 gr))), (s4, .inl (t4, 400, .inl rc9)), (s5, .inl (t5, 400, .inl mq))] H := hP.sub [0, 1, 2, 3, 4, 5] rfl
  have hD : va_D A [(y0, .inr (4, [.int (nI 0), .int (nI N), .int (nI af), .ref s1, .ref s2, .ref s3, .ref s4, .ref s5, .int (nI pl), .int (nI 1), .int (pm_b qu), .int (nI cy), .int (nI qc), .int (pm_b fr), .int (pm_b wq)])), (s1, .inl (t1, 401, .inl (pm_nf9 sm))), (s2, .inl (t2, 8000, .inl (pm_nf9 gv))), (s3, .inl (t3, 16, .inl (pm_nf9 gr))), (s4, .inl (t4, 400, .inl rc9)), (s5, .inl (t5, 400, .inl mq))] := hD.sub [0, 1, 2, 3, 4, 5] (by decide) rfl
  obtain ⟨hw9, rfl⟩ := hw
  have h01 : pq_01 N rc9 := by rw [hw9]; exact pq_reach_01
  refine lv_istore_n (lv' := [(1, .int (nI (pm_cnt rc9 N))), (0, .ref y0)]) hx hb dX4_finish_18 rfl hl (by decide) rfl (fun ls hl => ?_)
  refine lv_iconst (v := nI 0) hx hb dX4_finish_19 (by decide +kernel) ?_
  refine lv_istore_n (lv' := [(2, .int (nI 0)), (1, .int (nI (pm_cnt rc9 N))), (0, .ref y0)]) hx hb dX4_finish_20 rfl hl (by decide) rfl (fun ls hl => ?_)
  have hP : va_P (dC, dI) vwCl [(y0, .inr (4, [.int (nI 0), .int (nI N), .int (nI af), .ref s1, .ref s2, .ref s3, .ref s4, .ref s5, .int (nI pl), .int (nI 1), .int (pm_b qu), .int (nI cy), .int (nI qc), .int (pm_b fr), .int (pm_b wq)])), (s1, .inl (t1, 401, .inl (pm_nf9 sm))), (s2, .inl (t2, 8000, .inl (pm_nf9 gv))), (s3, .inl (t3, 16, .inl (pm_nf9 gr))), (s4, .inl (t4, 400, .inl rc9)), (s5, .inl (t5, 400, .inl (pm_cp 0 rc9 mq)))] H := by rw [pm_cp_0]; exact hP
  have hD : va_D A [(y0, .inr (4, [.int (nI 0), .int (nI N), .int (nI af), .ref s1, .ref s2, .ref s3, .ref s4, .ref s5, .int (nI pl), .int (nI 1), .int (pm_b qu), .int (nI cy), .int (nI qc), .int (pm_b fr), .int (pm_b wq)])), (s1, .inl (t1, 401, .inl (pm_nf9 sm))), (s2, .inl (t2, 8000, .inl (pm_nf9 gv))), (s3, .inl (t3, 16, .inl (pm_nf9 gr))), (s4, .inl (t4, 400, .inl rc9)), (s5, .inl (t5, 400, .inl (pm_cp 0 rc9 mq)))] := by rw [pm_cp_0]; exact hD
  refine lp_loop (σ := Nat) (head := 21) (fun k H locs ls => k ≤ N ∧ va_P (dC, dI) vwCl [(y0, .inr (4, [.int (nI 0), .int (nI N), .int (nI af), .ref s1, .ref s2, .ref s3, .ref s4, .ref s5, .int (nI pl), .int (nI 1), .int (pm_b qu), .int (nI cy), .int (nI qc), .int (pm_b fr), .int (pm_b wq)])), (s1, .inl (t1, 401, .inl (pm_nf9 sm))), (s2, .inl (t2, 8000, .inl (pm_nf9 gv))), (s3, .inl (t3, 16, .inl (pm_nf9 gr))), (s4, .inl (t4, 400, .inl rc9)), (s5, .inl (t5, 400, .inl (pm_cp k rc9 mq)))] H ∧ va_D A [(y0, .inr (4, [.int (nI 0), .int (nI N), .int (nI af), .ref s1, .ref s2, .ref s3, .ref s4, .ref s5, .int (nI pl), .int (nI 1), .int (pm_b qu), .int (nI cy), .int (nI qc), .int (pm_b fr), .int (pm_b wq)])), (s1, .inl (t1, 401, .inl (pm_nf9 sm))), (s2, .inl (t2, 8000, .inl (pm_nf9 gv))), (s3, .inl (t3, 16, .inl (pm_nf9 gr))), (s4, .inl (t4, 400, .inl rc9)), (s5, .inl (t5, 400, .inl (pm_cp k rc9 mq)))] ∧ va_S A s.heap H locs ∧ lv_has ls 3 [(2, .int (nI k)), (1, .int (nI (pm_cnt rc9 N))), (0, .ref y0)]) (fun k => N - k) ?_ 0 _ _ _ ⟨Nat.zero_le _, hP, hD, hS, lv_sub hl [0, 1, 2] rfl⟩
  intro x H locs ls hI ih
  obtain ⟨k, rfl⟩ : ∃ y, y = x := ⟨x, rfl⟩
  obtain ⟨hk, hP, hD, hS, hl⟩ := hI
  refine lv_iload_n hx hb dX4_finish_21 rfl (lv_at hl 0 rfl) ?_
  refine lv_aload_n hx hb dX4_finish_22 rfl (lv_at hl 2 rfl) ?_
  refine va_get (D := (dC, dI)) (ci := 4) (v := .int (nI N)) (C := RX4) (T := TX4) (N := 15) hx hb hts iw_X4 hown hK hP 0 rfl rfl 1 (by decide) (hts _ mf_X4_33) (fun _ h9 => h9) rfl dX4_finish_23 ?_
  refine lv_icmp_ge (tgt := 47) hx hb dX4_finish_26 (by decide) (fun c_26 => ?_) (fun c_26 => ?_)
  · rw [nI_leI (by omega) (by omega)] at c_26
    rw [show k = N by omega] at hP hD
    refine lv_aload_n hx hb dX4_finish_47 rfl (lv_at hl 2 rfl) ?_
    refine lv_iconst (v := nI 0) hx hb dX4_finish_48 (by decide +kernel) ?_
    refine va_put (D := (dC, dI)) (ci := 4) (v := .int (nI 0)) (ty := .boolean) (C := RX4) (T := TX4) (N := 15) hx hb hts iw_X4 tyX4 tyX4_ok nmX4 hown hK hP hD hS 0 rfl rfl 9 (by decide) (hts _ mf_X4_61) (fun _ h9 => h9) rfl (by decide +kernel) (rfl) (rfl) (Nat.le_of_ble_eq_true rfl) dX4_finish_49 (fun H locs hP hD hS => ?_)
    have hP : va_P (dC, dI) vwCl [(y0, .inr (4, [.int (nI 0), .int (nI N), .int (nI af), .ref s1, .ref s2, .ref s3, .ref s4, .ref s5, .int (nI pl), .int (nI 0), .int (pm_b qu), .int (nI cy), .int (nI qc), .int (pm_b fr), .int (pm_b wq)])), (s1, .inl (t1, 401, .inl (pm_nf9 sm))), (s2, .inl (t2, 8000, .inl (pm_nf9 gv))), (s3, .inl (t3, 16, .inl (pm_nf9 gr))), (s4, .inl (t4, 400, .inl rc9)), (s5, .inl (t5, 400, .inl (pm_cp N rc9 mq)))] H := hP
    have hD : va_D A [(y0, .inr (4, [.int (nI 0), .int (nI N), .int (nI af), .ref s1, .ref s2, .ref s3, .ref s4, .ref s5, .int (nI pl), .int (nI 0), .int (pm_b qu), .int (nI cy), .int (nI qc), .int (pm_b fr), .int (pm_b wq)])), (s1, .inl (t1, 401, .inl (pm_nf9 sm))), (s2, .inl (t2, 8000, .inl (pm_nf9 gv))), (s3, .inl (t3, 16, .inl (pm_nf9 gr))), (s4, .inl (t4, 400, .inl rc9)), (s5, .inl (t5, 400, .inl (pm_cp N rc9 mq)))] := hD
    refine lv_aload_n hx hb dX4_finish_52 rfl (lv_at hl 2 rfl) ?_
    refine lv_iconst (v := nI 1) hx hb dX4_finish_53 (by decide +kernel) ?_
    refine va_put (D := (dC, dI)) (ci := 4) (v := .int (nI 1)) (ty := .boolean) (C := RX4) (T := TX4) (N := 15) hx hb hts iw_X4 tyX4 tyX4_ok nmX4 hown hK hP hD hS 0 rfl rfl 13 (by decide) (hts _ mf_X4_44) (fun _ h9 => h9) rfl (by decide +kernel) (rfl) (rfl) (Nat.le_of_ble_eq_true rfl) dX4_finish_54 (fun H locs hP hD hS => ?_)
    have hP : va_P (dC, dI) vwCl [(y0, .inr (4, [.int (nI 0), .int (nI N), .int (nI af), .ref s1, .ref s2, .ref s3, .ref s4, .ref s5, .int (nI pl), .int (nI 0), .int (pm_b qu), .int (nI cy), .int (nI qc), .int (nI 1), .int (pm_b wq)])), (s1, .inl (t1, 401, .inl (pm_nf9 sm))), (s2, .inl (t2, 8000, .inl (pm_nf9 gv))), (s3, .inl (t3, 16, .inl (pm_nf9 gr))), (s4, .inl (t4, 400, .inl rc9)), (s5, .inl (t5, 400, .inl (pm_cp N rc9 mq)))] H := hP
    have hD : va_D A [(y0, .inr (4, [.int (nI 0), .int (nI N), .int (nI af), .ref s1, .ref s2, .ref s3, .ref s4, .ref s5, .int (nI pl), .int (nI 0), .int (pm_b qu), .int (nI cy), .int (nI qc), .int (nI 1), .int (pm_b wq)])), (s1, .inl (t1, 401, .inl (pm_nf9 sm))), (s2, .inl (t2, 8000, .inl (pm_nf9 gv))), (s3, .inl (t3, 16, .inl (pm_nf9 gr))), (s4, .inl (t4, 400, .inl rc9)), (s5, .inl (t5, 400, .inl (pm_cp N rc9 mq)))] := hD
    cases qu with
    | true =>
      have hP : va_P (dC, dI) vwCl [(y0, .inr (4, [.int (nI 0), .int (nI N), .int (nI af), .ref s1, .ref s2, .ref s3, .ref s4, .ref s5, .int (nI pl), .int (nI 0), .int (nI 1), .int (nI cy), .int (nI qc), .int (nI 1), .int (pm_b wq)])), (s1, .inl (t1, 401, .inl (pm_nf9 sm))), (s2, .inl (t2, 8000, .inl (pm_nf9 gv))), (s3, .inl (t3, 16, .inl (pm_nf9 gr))), (s4, .inl (t4, 400, .inl rc9)), (s5, .inl (t5, 400, .inl (pm_cp N rc9 mq)))] H := hP
      have hD : va_D A [(y0, .inr (4, [.int (nI 0), .int (nI N), .int (nI af), .ref s1, .ref s2, .ref s3, .ref s4, .ref s5, .int (nI pl), .int (nI 0), .int (nI 1), .int (nI cy), .int (nI qc), .int (nI 1), .int (pm_b wq)])), (s1, .inl (t1, 401, .inl (pm_nf9 sm))), (s2, .inl (t2, 8000, .inl (pm_nf9 gv))), (s3, .inl (t3, 16, .inl (pm_nf9 gr))), (s4, .inl (t4, 400, .inl rc9)), (s5, .inl (t5, 400, .inl (pm_cp N rc9 mq)))] := hD
      have hl : lv_has ls 3 [(2, .int (nI k)), (1, .int (nI (pm_cnt rc9 N))), (0, .ref y0)] := hl
      refine lv_aload_n hx hb dX4_finish_57 rfl (lv_at hl 2 rfl) ?_
      refine lv_aload_n hx hb dX4_finish_58 rfl (lv_at hl 2 rfl) ?_
      refine va_get (D := (dC, dI)) (ci := 4) (v := .int (nI 1)) (C := RX4) (T := TX4) (N := 15) hx hb hts iw_X4 hown hK hP 0 rfl rfl 10 (by decide) (hts _ mf_X4_40) (fun _ h9 => h9) rfl dX4_finish_59 ?_
      refine va_put (D := (dC, dI)) (ci := 4) (v := .int (nI 1)) (ty := .boolean) (C := RX4) (T := TX4) (N := 15) hx hb hts iw_X4 tyX4 tyX4_ok nmX4 hown hK hP hD hS 0 rfl rfl 14 (by decide) (hts _ mf_X4_68) (fun _ h9 => h9) rfl (by decide +kernel) (rfl) (rfl) (Nat.le_of_ble_eq_true rfl) dX4_finish_62 (fun H locs hP hD hS => ?_)
      have hP : va_P (dC, dI) vwCl [(y0, .inr (4, [.int (nI 0), .int (nI N), .int (nI af), .ref s1, .ref s2, .ref s3, .ref s4, .ref s5, .int (nI pl), .int (nI 0), .int (nI 1), .int (nI cy), .int (nI qc), .int (nI 1), .int (nI 1)])), (s1, .inl (t1, 401, .inl (pm_nf9 sm))), (s2, .inl (t2, 8000, .inl (pm_nf9 gv))), (s3, .inl (t3, 16, .inl (pm_nf9 gr))), (s4, .inl (t4, 400, .inl rc9)), (s5, .inl (t5, 400, .inl (pm_cp N rc9 mq)))] H := hP
      have hD : va_D A [(y0, .inr (4, [.int (nI 0), .int (nI N), .int (nI af), .ref s1, .ref s2, .ref s3, .ref s4, .ref s5, .int (nI pl), .int (nI 0), .int (nI 1), .int (nI cy), .int (nI qc), .int (nI 1), .int (nI 1)])), (s1, .inl (t1, 401, .inl (pm_nf9 sm))), (s2, .inl (t2, 8000, .inl (pm_nf9 gv))), (s3, .inl (t3, 16, .inl (pm_nf9 gr))), (s4, .inl (t4, 400, .inl rc9)), (s5, .inl (t5, 400, .inl (pm_cp N rc9 mq)))] := hD
      refine lv_aload_n hx hb dX4_finish_65 rfl (lv_at hl 2 rfl) ?_
      refine lv_dup hx hb dX4_finish_66 rfl ?_
      refine va_get (D := (dC, dI)) (ci := 4) (v := .int (nI cy)) (C := RX4) (T := TX4) (N := 15) hx hb hts iw_X4 hown hK hP 0 rfl rfl 11 (by decide) (hts _ mf_X4_71) (fun _ h9 => h9) rfl dX4_finish_67 ?_
      refine lv_iconst (v := nI 1) hx hb dX4_finish_70 (by decide +kernel) ?_
      refine lv_iadd hx hb dX4_finish_71 ?_
      refine lv_topi (fun x_3 ex_3 => ?_)
      obtain rfl : x_3 = nI (cy + 1) := ex_3.trans (nI_add _ _)
      refine va_put (D := (dC, dI)) (ci := 4) (v := .int (nI (cy + 1))) (ty := .int) (C := RX4) (T := TX4) (N := 15) hx hb hts iw_X4 tyX4 tyX4_ok nmX4 hown hK hP hD hS 0 rfl rfl 11 (by decide) (hts _ mf_X4_71) (fun _ h9 => h9) rfl (by decide +kernel) (rfl) (rfl) (Nat.le_of_ble_eq_true rfl) dX4_finish_72 (fun H locs hP hD hS => ?_)
      have hP : va_P (dC, dI) vwCl [(y0, .inr (4, [.int (nI 0), .int (nI N), .int (nI af), .ref s1, .ref s2, .ref s3, .ref s4, .ref s5, .int (nI pl), .int (nI 0), .int (nI 1), .int (nI (cy + 1)), .int (nI qc), .int (nI 1), .int (nI 1)])), (s1, .inl (t1, 401, .inl (pm_nf9 sm))), (s2, .inl (t2, 8000, .inl (pm_nf9 gv))), (s3, .inl (t3, 16, .inl (pm_nf9 gr))), (s4, .inl (t4, 400, .inl rc9)), (s5, .inl (t5, 400, .inl (pm_cp N rc9 mq)))] H := hP
      have hD : va_D A [(y0, .inr (4, [.int (nI 0), .int (nI N), .int (nI af), .ref s1, .ref s2, .ref s3, .ref s4, .ref s5, .int (nI pl), .int (nI 0), .int (nI 1), .int (nI (cy + 1)), .int (nI qc), .int (nI 1), .int (nI 1)])), (s1, .inl (t1, 401, .inl (pm_nf9 sm))), (s2, .inl (t2, 8000, .inl (pm_nf9 gv))), (s3, .inl (t3, 16, .inl (pm_nf9 gr))), (s4, .inl (t4, 400, .inl rc9)), (s5, .inl (t5, 400, .inl (pm_cp N rc9 mq)))] := hD
      refine lv_aload_n hx hb dX4_finish_75 rfl (lv_at hl 2 rfl) ?_
      refine lv_aload_n hx hb dX4_finish_76 rfl (lv_at hl 2 rfl) ?_
      refine va_get (D := (dC, dI)) (ci := 4) (v := .int (nI 1)) (C := RX4) (T := TX4) (N := 15) hx hb hts iw_X4 hown hK hP 0 rfl rfl 10 (by decide) (hts _ mf_X4_40) (fun _ h9 => h9) rfl dX4_finish_77 ?_
      refine lv_if_eq (tgt := 92) hx hb dX4_finish_80 (by decide) (fun c_80 => absurd c_80 (by decide +kernel)) (fun c_80 => ?_)
      refine lv_aload_n hx hb dX4_finish_83 rfl (lv_at hl 2 rfl) ?_
      refine va_get (D := (dC, dI)) (ci := 4) (v := .int (nI qc)) (C := RX4) (T := TX4) (N := 15) hx hb hts iw_X4 hown hK hP 0 rfl rfl 12 (by decide) (hts _ mf_X4_74) (fun _ h9 => h9) rfl dX4_finish_84 ?_
      refine lv_iconst (v := nI 1) hx hb dX4_finish_87 (by decide +kernel) ?_
      refine lv_iadd hx hb dX4_finish_88 ?_
      refine lv_topi (fun x_4 ex_4 => ?_)
      obtain rfl : x_4 = nI (qc + 1) := ex_4.trans (nI_add _ _)
      refine lv_goto (tgt := 96) hx hb dX4_finish_89 (by decide) ?_
      refine va_put (D := (dC, dI)) (ci := 4) (v := .int (nI (qc + 1))) (ty := .int) (C := RX4) (T := TX4) (N := 15) hx hb hts iw_X4 tyX4 tyX4_ok nmX4 hown hK hP hD hS 0 rfl rfl 12 (by decide) (hts _ mf_X4_74) (fun _ h9 => h9) rfl (by decide +kernel) (rfl) (rfl) (Nat.le_of_ble_eq_true rfl) dX4_finish_96 (fun H locs hP hD hS => ?_)
      have hP : va_P (dC, dI) vwCl [(y0, .inr (4, [.int (nI 0), .int (nI N), .int (nI af), .ref s1, .ref s2, .ref s3, .ref s4, .ref s5, .int (nI pl), .int (nI 0), .int (nI 1), .int (nI (cy + 1)), .int (nI (qc + 1)), .int (nI 1), .int (nI 1)])), (s1, .inl (t1, 401, .inl (pm_nf9 sm))), (s2, .inl (t2, 8000, .inl (pm_nf9 gv))), (s3, .inl (t3, 16, .inl (pm_nf9 gr))), (s4, .inl (t4, 400, .inl rc9)), (s5, .inl (t5, 400, .inl (pm_cp N rc9 mq)))] H := hP
      have hD : va_D A [(y0, .inr (4, [.int (nI 0), .int (nI N), .int (nI af), .ref s1, .ref s2, .ref s3, .ref s4, .ref s5, .int (nI pl), .int (nI 0), .int (nI 1), .int (nI (cy + 1)), .int (nI (qc + 1)), .int (nI 1), .int (nI 1)])), (s1, .inl (t1, 401, .inl (pm_nf9 sm))), (s2, .inl (t2, 8000, .inl (pm_nf9 gv))), (s3, .inl (t3, 16, .inl (pm_nf9 gr))), (s4, .inl (t4, 400, .inl rc9)), (s5, .inl (t5, 400, .inl (pm_cp N rc9 mq)))] := hD
      refine lv_aload_n hx hb dX4_finish_99 rfl (lv_at hl 2 rfl) ?_
      refine va_get (D := (dC, dI)) (ci := 4) (v := .int (nI 1)) (C := RX4) (T := TX4) (N := 15) hx hb hts iw_X4 hown hK hP 0 rfl rfl 10 (by decide) (hts _ mf_X4_40) (fun _ h9 => h9) rfl dX4_finish_100 ?_
      refine lv_if_eq (tgt := 110) hx hb dX4_finish_103 (by decide) (fun c_103 => absurd c_103 (by decide +kernel)) (fun c_103 => ?_)
      refine lv_iload_n hx hb dX4_finish_106 rfl (lv_at hl 1 rfl) ?_
      refine lv_goto (tgt := 111) hx hb dX4_finish_107 (by decide) ?_
      exact W.iret (v := nI (pm_cnt rc9 N)) hx hb hr (fun t ht hW => ⟨⟨nI (pm_cnt rc9 N), rc9, rfl, ⟨hw9, rfl⟩, by rw [ht]; exact hP, va_K.moved hW.alike hK, hD⟩, hS.F ht⟩) hS.2.2 dX4_finish_111
    | false =>
      have hP : va_P (dC, dI) vwCl [(y0, .inr (4, [.int (nI 0), .int (nI N), .int (nI af), .ref s1, .ref s2, .ref s3, .ref s4, .ref s5, .int (nI pl), .int (nI 0), .int (nI 0), .int (nI cy), .int (nI qc), .int (nI 1), .int (pm_b wq)])), (s1, .inl (t1, 401, .inl (pm_nf9 sm))), (s2, .inl (t2, 8000, .inl (pm_nf9 gv))), (s3, .inl (t3, 16, .inl (pm_nf9 gr))), (s4, .inl (t4, 400, .inl rc9)), (s5, .inl (t5, 400, .inl (pm_cp N rc9 mq)))] H := hP
      have hD : va_D A [(y0, .inr (4, [.int (nI 0), .int (nI N), .int (nI af), .ref s1, .ref s2, .ref s3, .ref s4, .ref s5, .int (nI pl), .int (nI 0), .int (nI 0), .int (nI cy), .int (nI qc), .int (nI 1), .int (pm_b wq)])), (s1, .inl (t1, 401, .inl (pm_nf9 sm))), (s2, .inl (t2, 8000, .inl (pm_nf9 gv))), (s3, .inl (t3, 16, .inl (pm_nf9 gr))), (s4, .inl (t4, 400, .inl rc9)), (s5, .inl (t5, 400, .inl (pm_cp N rc9 mq)))] := hD
      have hl : lv_has ls 3 [(2, .int (nI k)), (1, .int (nI (pm_cnt rc9 N))), (0, .ref y0)] := hl
      refine lv_aload_n hx hb dX4_finish_57 rfl (lv_at hl 2 rfl) ?_
      refine lv_aload_n hx hb dX4_finish_58 rfl (lv_at hl 2 rfl) ?_
      refine va_get (D := (dC, dI)) (ci := 4) (v := .int (nI 0)) (C := RX4) (T := TX4) (N := 15) hx hb hts iw_X4 hown hK hP 0 rfl rfl 10 (by decide) (hts _ mf_X4_40) (fun _ h9 => h9) rfl dX4_finish_59 ?_
      refine va_put (D := (dC, dI)) (ci := 4) (v := .int (nI 0)) (ty := .boolean) (C := RX4) (T := TX4) (N := 15) hx hb hts iw_X4 tyX4 tyX4_ok nmX4 hown hK hP hD hS 0 rfl rfl 14 (by decide) (hts _ mf_X4_68) (fun _ h9 => h9) rfl (by decide +kernel) (rfl) (rfl) (Nat.le_of_ble_eq_true rfl) dX4_finish_62 (fun H locs hP hD hS => ?_)
      have hP : va_P (dC, dI) vwCl [(y0, .inr (4, [.int (nI 0), .int (nI N), .int (nI af), .ref s1, .ref s2, .ref s3, .ref s4, .ref s5, .int (nI pl), .int (nI 0), .int (nI 0), .int (nI cy), .int (nI qc), .int (nI 1), .int (nI 0)])), (s1, .inl (t1, 401, .inl (pm_nf9 sm))), (s2, .inl (t2, 8000, .inl (pm_nf9 gv))), (s3, .inl (t3, 16, .inl (pm_nf9 gr))), (s4, .inl (t4, 400, .inl rc9)), (s5, .inl (t5, 400, .inl (pm_cp N rc9 mq)))] H := hP
      have hD : va_D A [(y0, .inr (4, [.int (nI 0), .int (nI N), .int (nI af), .ref s1, .ref s2, .ref s3, .ref s4, .ref s5, .int (nI pl), .int (nI 0), .int (nI 0), .int (nI cy), .int (nI qc), .int (nI 1), .int (nI 0)])), (s1, .inl (t1, 401, .inl (pm_nf9 sm))), (s2, .inl (t2, 8000, .inl (pm_nf9 gv))), (s3, .inl (t3, 16, .inl (pm_nf9 gr))), (s4, .inl (t4, 400, .inl rc9)), (s5, .inl (t5, 400, .inl (pm_cp N rc9 mq)))] := hD
      refine lv_aload_n hx hb dX4_finish_65 rfl (lv_at hl 2 rfl) ?_
      refine lv_dup hx hb dX4_finish_66 rfl ?_
      refine va_get (D := (dC, dI)) (ci := 4) (v := .int (nI cy)) (C := RX4) (T := TX4) (N := 15) hx hb hts iw_X4 hown hK hP 0 rfl rfl 11 (by decide) (hts _ mf_X4_71) (fun _ h9 => h9) rfl dX4_finish_67 ?_
      refine lv_iconst (v := nI 1) hx hb dX4_finish_70 (by decide +kernel) ?_
      refine lv_iadd hx hb dX4_finish_71 ?_
      refine lv_topi (fun x_5 ex_5 => ?_)
      obtain rfl : x_5 = nI (cy + 1) := ex_5.trans (nI_add _ _)
      refine va_put (D := (dC, dI)) (ci := 4) (v := .int (nI (cy + 1))) (ty := .int) (C := RX4) (T := TX4) (N := 15) hx hb hts iw_X4 tyX4 tyX4_ok nmX4 hown hK hP hD hS 0 rfl rfl 11 (by decide) (hts _ mf_X4_71) (fun _ h9 => h9) rfl (by decide +kernel) (rfl) (rfl) (Nat.le_of_ble_eq_true rfl) dX4_finish_72 (fun H locs hP hD hS => ?_)
      have hP : va_P (dC, dI) vwCl [(y0, .inr (4, [.int (nI 0), .int (nI N), .int (nI af), .ref s1, .ref s2, .ref s3, .ref s4, .ref s5, .int (nI pl), .int (nI 0), .int (nI 0), .int (nI (cy + 1)), .int (nI qc), .int (nI 1), .int (nI 0)])), (s1, .inl (t1, 401, .inl (pm_nf9 sm))), (s2, .inl (t2, 8000, .inl (pm_nf9 gv))), (s3, .inl (t3, 16, .inl (pm_nf9 gr))), (s4, .inl (t4, 400, .inl rc9)), (s5, .inl (t5, 400, .inl (pm_cp N rc9 mq)))] H := hP
      have hD : va_D A [(y0, .inr (4, [.int (nI 0), .int (nI N), .int (nI af), .ref s1, .ref s2, .ref s3, .ref s4, .ref s5, .int (nI pl), .int (nI 0), .int (nI 0), .int (nI (cy + 1)), .int (nI qc), .int (nI 1), .int (nI 0)])), (s1, .inl (t1, 401, .inl (pm_nf9 sm))), (s2, .inl (t2, 8000, .inl (pm_nf9 gv))), (s3, .inl (t3, 16, .inl (pm_nf9 gr))), (s4, .inl (t4, 400, .inl rc9)), (s5, .inl (t5, 400, .inl (pm_cp N rc9 mq)))] := hD
      refine lv_aload_n hx hb dX4_finish_75 rfl (lv_at hl 2 rfl) ?_
      refine lv_aload_n hx hb dX4_finish_76 rfl (lv_at hl 2 rfl) ?_
      refine va_get (D := (dC, dI)) (ci := 4) (v := .int (nI 0)) (C := RX4) (T := TX4) (N := 15) hx hb hts iw_X4 hown hK hP 0 rfl rfl 10 (by decide) (hts _ mf_X4_40) (fun _ h9 => h9) rfl dX4_finish_77 ?_
      refine lv_if_eq (tgt := 92) hx hb dX4_finish_80 (by decide) (fun c_80 => ?_) (fun c_80 => absurd c_80 (by decide +kernel))
      refine lv_aload_n hx hb dX4_finish_92 rfl (lv_at hl 2 rfl) ?_
      refine va_get (D := (dC, dI)) (ci := 4) (v := .int (nI qc)) (C := RX4) (T := TX4) (N := 15) hx hb hts iw_X4 hown hK hP 0 rfl rfl 12 (by decide) (hts _ mf_X4_74) (fun _ h9 => h9) rfl dX4_finish_93 ?_
      refine va_put (D := (dC, dI)) (ci := 4) (v := .int (nI qc)) (ty := .int) (C := RX4) (T := TX4) (N := 15) hx hb hts iw_X4 tyX4 tyX4_ok nmX4 hown hK hP hD hS 0 rfl rfl 12 (by decide) (hts _ mf_X4_74) (fun _ h9 => h9) rfl (by decide +kernel) (rfl) (rfl) (Nat.le_of_ble_eq_true rfl) dX4_finish_96 (fun H locs hP hD hS => ?_)
      have hP : va_P (dC, dI) vwCl [(y0, .inr (4, [.int (nI 0), .int (nI N), .int (nI af), .ref s1, .ref s2, .ref s3, .ref s4, .ref s5, .int (nI pl), .int (nI 0), .int (nI 0), .int (nI (cy + 1)), .int (nI qc), .int (nI 1), .int (nI 0)])), (s1, .inl (t1, 401, .inl (pm_nf9 sm))), (s2, .inl (t2, 8000, .inl (pm_nf9 gv))), (s3, .inl (t3, 16, .inl (pm_nf9 gr))), (s4, .inl (t4, 400, .inl rc9)), (s5, .inl (t5, 400, .inl (pm_cp N rc9 mq)))] H := hP
      have hD : va_D A [(y0, .inr (4, [.int (nI 0), .int (nI N), .int (nI af), .ref s1, .ref s2, .ref s3, .ref s4, .ref s5, .int (nI pl), .int (nI 0), .int (nI 0), .int (nI (cy + 1)), .int (nI qc), .int (nI 1), .int (nI 0)])), (s1, .inl (t1, 401, .inl (pm_nf9 sm))), (s2, .inl (t2, 8000, .inl (pm_nf9 gv))), (s3, .inl (t3, 16, .inl (pm_nf9 gr))), (s4, .inl (t4, 400, .inl rc9)), (s5, .inl (t5, 400, .inl (pm_cp N rc9 mq)))] := hD
      refine lv_aload_n hx hb dX4_finish_99 rfl (lv_at hl 2 rfl) ?_
      refine va_get (D := (dC, dI)) (ci := 4) (v := .int (nI 0)) (C := RX4) (T := TX4) (N := 15) hx hb hts iw_X4 hown hK hP 0 rfl rfl 10 (by decide) (hts _ mf_X4_40) (fun _ h9 => h9) rfl dX4_finish_100 ?_
      refine lv_if_eq (tgt := 110) hx hb dX4_finish_103 (by decide) (fun c_103 => ?_) (fun c_103 => absurd c_103 (by decide +kernel))
      refine lv_iconst (v := -1) hx hb dX4_finish_110 (by decide +kernel) ?_
      exact W.iret (v := -1) hx hb hr (fun t ht hW => ⟨⟨-1, rc9, rfl, ⟨hw9, rfl⟩, by rw [ht]; exact hP, va_K.moved hW.alike hK, hD⟩, hS.F ht⟩) hS.2.2 dX4_finish_111
  · rw [nI_leI (by omega) (by omega)] at c_26
    refine lv_aload_n hx hb dX4_finish_29 rfl (lv_at hl 2 rfl) ?_
    refine va_get (D := (dC, dI)) (ci := 4) (v := .ref s5) (C := RX4) (T := TX4) (N := 15) hx hb hts iw_X4 hown hK hP 0 rfl rfl 7 (by decide) (hts _ mf_X4_23) (fun _ h9 => h9) rfl dX4_finish_30 ?_
    refine lv_iload_n hx hb dX4_finish_33 rfl (lv_at hl 0 rfl) ?_
    refine lv_aload_n hx hb dX4_finish_34 rfl (lv_at hl 2 rfl) ?_
    refine va_get (D := (dC, dI)) (ci := 4) (v := .ref s4) (C := RX4) (T := TX4) (N := 15) hx hb hts iw_X4 hown hK hP 0 rfl rfl 6 (by decide) (hts _ mf_X4_19) (fun _ h9 => h9) rfl dX4_finish_35 ?_
    refine lv_iload_n hx hb dX4_finish_38 rfl (lv_at hl 0 rfl) ?_
    refine va_zald hx hb hK hP 4 3 rfl rfl (vp_in_nI (by omega) (by omega)) dX4_finish_39 ?_
    refine lv_topi (fun x_6 ex_6 => ?_)
    rw [nI_clamp (by omega)] at ex_6
    subst ex_6
    refine va_zast hx hb hK hP hD hS 5 4 rfl rfl (vp_in_nI (by omega) (by omega)) dX4_finish_40 (fun H locs hP hD hS => ?_)
    rw [nI_clamp (by omega)] at hP hD
    rw [pm_nb01 (h01 k (by omega))] at hP hD
    have hP : va_P (dC, dI) vwCl [(y0, .inr (4, [.int (nI 0), .int (nI N), .int (nI af), .ref s1, .ref s2, .ref s3, .ref s4, .ref s5, .int (nI pl), .int (nI 1), .int (pm_b qu), .int (nI cy), .int (nI qc), .int (pm_b fr), .int (pm_b wq)])), (s1, .inl (t1, 401, .inl (pm_nf9 sm))), (s2, .inl (t2, 8000, .inl (pm_nf9 gv))), (s3, .inl (t3, 16, .inl (pm_nf9 gr))), (s4, .inl (t4, 400, .inl rc9)), (s5, .inl (t5, 400, .inl (upd (pm_cp k rc9 mq) k (rc9 k))))] H := hP
    have hD : va_D A [(y0, .inr (4, [.int (nI 0), .int (nI N), .int (nI af), .ref s1, .ref s2, .ref s3, .ref s4, .ref s5, .int (nI pl), .int (nI 1), .int (pm_b qu), .int (nI cy), .int (nI qc), .int (pm_b fr), .int (pm_b wq)])), (s1, .inl (t1, 401, .inl (pm_nf9 sm))), (s2, .inl (t2, 8000, .inl (pm_nf9 gv))), (s3, .inl (t3, 16, .inl (pm_nf9 gr))), (s4, .inl (t4, 400, .inl rc9)), (s5, .inl (t5, 400, .inl (upd (pm_cp k rc9 mq) k (rc9 k))))] := hD
    rw [show upd (pm_cp k rc9 mq) k (rc9 k) = pm_cp (k + 1) rc9 mq from pm_cp_s k rc9 mq] at hP hD
    refine lv_iinc (v := nI (k + 1)) (lv' := [(2, .int (nI (k + 1))), (1, .int (nI (pm_cnt rc9 N))), (0, .ref y0)]) hx hb dX4_finish_41 hl (k := 0) rfl (nI_1 _) (by decide) rfl (fun ls hl => ?_)
    refine lv_goto (tgt := 21) hx hb dX4_finish_44 (by decide) ?_
    exact ih (k + 1) _ _ _ ⟨by omega, hP, hD, hS, lv_sub hl [0, 1, 2] rfl⟩ (by omega)

set_option maxHeartbeats 4000000 in
set_option maxRecDepth 100000 in
/-- finish: refused -/
theorem c_Q_finish_b (l : Launch) (dC : Nat → ClassId) (dI : Nat → Nat → Nat) (y0 s1 s2 s3 s4 s5 : Nat) (t1 t2 t3 t4 t5 : ClassId) (th N af : Nat) (sm gv gr : Nat → Nat) (rc mq : Nat → Int32) (pl : Nat) (go qu : Bool) (cy qc : Nat) (fr wq : Bool)  (sz : Nat) (hgo : go = false) : Met l yX4_finish wsX4_finish ({ frames := 1, cells := 0, slots := 0, locals := 25 }) (va_Pc [.ref y0] (fun U => U.heap.size = sz ∧ va_P (dC, dI) vwCl [(y0, .inr (4, [.int (nI th), .int (nI N), .int (nI af), .ref s1, .ref s2, .ref s3, .ref s4, .ref s5, .int (nI pl), .int (pm_b go), .int (pm_b qu), .int (nI cy), .int (nI qc), .int (pm_b fr), .int (pm_b wq)])), (s1, .inl (t1, 401, .inl (pm_nf9 sm))), (s2, .inl (t2, 8000, .inl (pm_nf9 gv))), (s3, .inl (t3, 16, .inl (pm_nf9 gr))), (s4, .inl (t4, 400, .inl rc)), (s5, .inl (t5, 400, .inl mq))] U.heap ∧ va_K (dC, dI) vwCl [(t1, .int), (t2, .int), (t3, .int), (t4, .boolean), (t5, .boolean)] U ∧ va_D (fun _ => True) [(y0, .inr (4, [.int (nI th), .int (nI N), .int (nI af), .ref s1, .ref s2, .ref s3, .ref s4, .ref s5, .int (nI pl), .int (pm_b go), .int (pm_b qu), .int (nI cy), .int (nI qc), .int (pm_b fr), .int (pm_b wq)])), (s1, .inl (t1, 401, .inl (pm_nf9 sm))), (s2, .inl (t2, 8000, .inl (pm_nf9 gv))), (s3, .inl (t3, 16, .inl (pm_nf9 gr))), (s4, .inl (t4, 400, .inl rc)), (s5, .inl (t5, 400, .inl mq))])) (va_Qi (fun (_ : Int32) (_ : Unit) => True) (fun (_ : Unit) (t : State) => va_P (dC, dI) vwCl [(y0, .inr (4, [.int (nI 1), .int (nI N), .int (nI af), .ref s1, .ref s2, .ref s3, .ref s4, .ref s5, .int (nI pl), .int (pm_b go), .int (pm_b qu), .int (nI cy), .int (nI qc), .int (pm_b fr), .int (pm_b wq)])), (s1, .inl (t1, 401, .inl (pm_nf9 sm))), (s2, .inl (t2, 8000, .inl (pm_nf9 gv))), (s3, .inl (t3, 16, .inl (pm_nf9 gr))), (s4, .inl (t4, 400, .inl rc)), (s5, .inl (t5, 400, .inl mq))] t.heap ∧ va_K (dC, dI) vwCl [(t1, .int), (t2, .int), (t3, .int), (t4, .boolean), (t5, .boolean)] t ∧ va_D (va_A [(y0, .inr (4, [.int (nI th), .int (nI N), .int (nI af), .ref s1, .ref s2, .ref s3, .ref s4, .ref s5, .int (nI pl), .int (pm_b go), .int (pm_b qu), .int (nI cy), .int (nI qc), .int (pm_b fr), .int (pm_b wq)])), (s1, .inl (t1, 401, .inl (pm_nf9 sm))), (s2, .inl (t2, 8000, .inl (pm_nf9 gv))), (s3, .inl (t3, 16, .inl (pm_nf9 gr))), (s4, .inl (t4, 400, .inl rc)), (s5, .inl (t5, 400, .inl mq))] sz) [(y0, .inr (4, [.int (nI 1), .int (nI N), .int (nI af), .ref s1, .ref s2, .ref s3, .ref s4, .ref s5, .int (nI pl), .int (pm_b go), .int (pm_b qu), .int (nI cy), .int (nI qc), .int (pm_b fr), .int (pm_b wq)])), (s1, .inl (t1, 401, .inl (pm_nf9 sm))), (s2, .inl (t2, 8000, .inl (pm_nf9 gv))), (s3, .inl (t3, 16, .inl (pm_nf9 gr))), (s4, .inl (t4, 400, .inl rc)), (s5, .inl (t5, 400, .inl mq))]) (va_A [(y0, .inr (4, [.int (nI th), .int (nI N), .int (nI af), .ref s1, .ref s2, .ref s3, .ref s4, .ref s5, .int (nI pl), .int (pm_b go), .int (pm_b qu), .int (nI cy), .int (nI qc), .int (pm_b fr), .int (pm_b wq)])), (s1, .inl (t1, 401, .inl (pm_nf9 sm))), (s2, .inl (t2, 8000, .inl (pm_nf9 gv))), (s3, .inl (t3, 16, .inl (pm_nf9 gr))), (s4, .inl (t4, 400, .inl rc)), (s5, .inl (t5, 400, .inl mq))] sz)) 0 0 (va_A [(y0, .inr (4, [.int (nI th), .int (nI N), .int (nI af), .ref s1, .ref s2, .ref s3, .ref s4, .ref s5, .int (nI pl), .int (pm_b go), .int (pm_b qu), .int (nI cy), .int (nI qc), .int (pm_b fr), .int (pm_b wq)])), (s1, .inl (t1, 401, .inl (pm_nf9 sm))), (s2, .inl (t2, 8000, .inl (pm_nf9 gv))), (s3, .inl (t3, 16, .inl (pm_nf9 gr))), (s4, .inl (t4, 400, .inl rc)), (s5, .inl (t5, 400, .inl mq))] sz) := by
  refine Met.ofW (cc := cX4_finish) (maxL := 3) (ret := (some .int)) (by decide) rfl ?_
  intro p e s m args below meth c s₁ B hml hv
  obtain ⟨rfl, hsz, hP, hK, hD0⟩ := hv
  have hx := B.exec
  have hb := B.bytes
  have hr := B.returns
  have hts : ∀ w ∈ gw, w.before _ s = true := fun w h => atoms_spec (ws := wsX4_finish) B.pre w (List.mem_cons_of_mem _ h)
  have hown : s.vm.findClass RX4 = some m.cls := findClass_of_methodNamed B.named
  have hlocks := B.notSynchronized
  subst hsz
  have hD := hD0.self (sz := s.heap.size)
  generalize hAe : va_A [(y0, .inr (4, [.int (nI th), .int (nI N), .int (nI af), .ref s1, .ref s2, .ref s3, .ref s4, .ref s5, .int (nI pl), .int (pm_b go), .int (pm_b qu), .int (nI cy), .int (nI qc), .int (pm_b fr), .int (pm_b wq)])), (s1, .inl (t1, 401, .inl (pm_nf9 sm))), (s2, .inl (t2, 8000, .inl (pm_nf9 gv))), (s3, .inl (t3, 16, .inl (pm_nf9 gr))), (s4, .inl (t4, 400, .inl rc)), (s5, .inl (t5, 400, .inl mq))] s.heap.size = A at hD ⊢
  have hA : ∀ q : Nat, s.heap.size ≤ q → A q := fun q h => by rw [← hAe]; exact Or.inr h
  have hP : va_P (dC, dI) vwCl [(y0, .inr (4, [.int (nI th), .int (nI N), .int (nI af), .ref s1, .ref s2, .ref s3, .ref s4, .ref s5, .int (nI pl), .int (pm_b go), .int (pm_b qu), .int (nI cy), .int (nI qc), .int (pm_b fr), .int (pm_b wq)])), (s1, .inl (t1, 401, .inl (pm_nf9 sm))), (s2, .inl (t2, 8000, .inl (pm_nf9 gv))), (s3, .inl (t3, 16, .inl (pm_nf9 gr))), (s4, .inl (t4, 400, .inl rc)), (s5, .inl (t5, 400, .inl mq))] s.heap := hP
  have hl := lv_entry ([.ref y0]) (n := 3) (Nat.le_of_ble_eq_true rfl)
  rw [lg_entry_eq]
  generalize (lg_sl ([.ref y0]) ++ List.replicate (3 - (lg_sl ([.ref y0])).length) Slot.unset).toArray = ls at hl ⊢
  have hl : lv_has ls 3 [(0, .ref y0)] := hl
  obtain ⟨H, hH⟩ : ∃ H : Heap, H = s.heap := ⟨_, rfl⟩
  rw [← hH]
  rw [← hH] at hP
  have hS : va_S A s.heap H [] := by rw [hH]; exact va_S.rf
  clear hH
  subst hgo
  have hP : va_P (dC, dI) vwCl [(y0, .inr (4, [.int (nI th), .int (nI N), .int (nI af), .ref s1, .ref s2, .ref s3, .ref s4, .ref s5, .int (nI pl), .int (nI 0), .int (pm_b qu), .int (nI cy), .int (nI qc), .int (pm_b fr), .int (pm_b wq)])), (s1, .inl (t1, 401, .inl (pm_nf9 sm))), (s2, .inl (t2, 8000, .inl (pm_nf9 gv))), (s3, .inl (t3, 16, .inl (pm_nf9 gr))), (s4, .inl (t4, 400, .inl rc)), (s5, .inl (t5, 400, .inl mq))] H := hP
  have hD : va_D A [(y0, .inr (4, [.int (nI th), .int (nI N), .int (nI af), .ref s1, .ref s2, .ref s3, .ref s4, .ref s5, .int (nI pl), .int (nI 0), .int (pm_b qu), .int (nI cy), .int (nI qc), .int (pm_b fr), .int (pm_b wq)])), (s1, .inl (t1, 401, .inl (pm_nf9 sm))), (s2, .inl (t2, 8000, .inl (pm_nf9 gv))), (s3, .inl (t3, 16, .inl (pm_nf9 gr))), (s4, .inl (t4, 400, .inl rc)), (s5, .inl (t5, 400, .inl mq))] := hD
  refine lv_aload_n hx hb dX4_finish_0 rfl (lv_at hl 0 rfl) ?_
  refine lv_aload_n hx hb dX4_finish_1 rfl (lv_at hl 0 rfl) ?_
  refine va_get (D := (dC, dI)) (ci := 4) (v := .int (nI 0)) (C := RX4) (T := TX4) (N := 15) hx hb hts iw_X4 hown hK hP 0 rfl rfl 9 (by decide) (hts _ mf_X4_61) (fun _ h9 => h9) rfl dX4_finish_2 ?_
  refine lv_iconst (v := nI 1) hx hb dX4_finish_5 (by decide +kernel) ?_
  have hPc := hP.sub (ws' := [(y0, .inr (4, [.int (nI th), .int (nI N), .int (nI af), .ref s1, .ref s2, .ref s3, .ref s4, .ref s5, .int (nI pl), .int (nI 0), .int (pm_b qu), .int (nI cy), .int (nI qc), .int (pm_b fr), .int (pm_b wq)])), (s1, .inl (t1, 401, .inl (pm_nf9 sm))), (s2, .inl (t2, 8000, .inl (pm_nf9 gv))), (s3, .inl (t3, 16, .inl (pm_nf9 gr))), (s4, .inl (t4, 400, .inl rc)), (s5, .inl (t5, 400, .inl mq))]) [0, 1, 2, 3, 4, 5] rfl
  have hDc := hD.sub (ws' := [(y0, .inr (4, [.int (nI th), .int (nI N), .int (nI af), .ref s1, .ref s2, .ref s3, .ref s4, .ref s5, .int (nI pl), .int (nI 0), .int (pm_b qu), .int (nI cy), .int (nI qc), .int (pm_b fr), .int (pm_b wq)])), (s1, .inl (t1, 401, .inl (pm_nf9 sm))), (s2, .inl (t2, 8000, .inl (pm_nf9 gv))), (s3, .inl (t3, 16, .inl (pm_nf9 gr))), (s4, .inl (t4, 400, .inl rc)), (s5, .inl (t5, 400, .inl mq))]) [0, 1, 2, 3, 4, 5] (by decide) rfl
  have hKc := hK.sub (tys' := [(t1, .int), (t2, .int), (t3, .int), (t4, .boolean), (t5, .boolean)]) [0, 1, 2, 3, 4] rfl
  have hFc := va_free (wc := [(y0, .inr (4, [.int (nI th), .int (nI N), .int (nI af), .ref s1, .ref s2, .ref s3, .ref s4, .ref s5, .int (nI pl), .int (nI 0), .int (pm_b qu), .int (nI cy), .int (nI qc), .int (pm_b fr), .int (pm_b wq)])), (s1, .inl (t1, 401, .inl (pm_nf9 sm))), (s2, .inl (t2, 8000, .inl (pm_nf9 gv))), (s3, .inl (t3, 16, .inl (pm_nf9 gr))), (s4, .inl (t4, 400, .inl rc)), (s5, .inl (t5, 400, .inl mq))]) hD hS hA [0, 1, 2, 3, 4, 5] rfl
  refine va_calli (va_runV (As := [.int (nI 0), .int (nI 1)]) (rest := []) ⟨hx, hb, hml, hown, hts⟩ (c_Q_goes l dC dI y0 s1 s2 s3 s4 s5 t1 t2 t3 t4 t5 th N af sm gv gr rc mq pl false qu cy qc fr wq false true H.size) (cwV 2 hts (gw_V ml_X4_47 mi_X4_goes ms_X4_goes mn_X4 mc_X4_goes) rfl rfl rfl (by decide +kernel) ⟨Nat.le_of_ble_eq_true rfl, Nat.le_of_ble_eq_true rfl⟩) ⟨fun a U g mk q => by obtain ⟨q0, q1, qP, qK, qD⟩ := q; exact ⟨q0, q1, qP, va_K.moved (u := U) (U := U.calling g mk a) (Vm.Alike.refl U.vm) qK, qD⟩, va_recv hKc hPc (ci := 4) (q0 := 0) rfl rfl, fun U hU hW => ⟨rfl, by rw [hU], by rw [hU]; exact hPc, va_K.moved hW.alike hKc, hDc.weaken (fun _ _ _ _ => trivial)⟩⟩ rfl rfl hl.1 rfl (lv_room (Nat.le_of_ble_eq_true rfl)) dX4_finish_6 ⟨Nat.le_of_ble_eq_true rfl, Nat.le_of_ble_eq_true rfl⟩) hS (fun q _ h => hFc q h) hFc (fun r_1 u t H1 locs ht hvm hw hB hz1 hk1 hS => ?_)
  obtain ⟨hP1, hK1, hD1⟩ := hB
  rw [ht] at hP1
  have hK1 := va_K.moved hvm.symm hK1
  obtain ⟨hP, hD⟩ := va_join (wr := []) (w1 := [(y0, .inr (4, [.int (nI 1), .int (nI N), .int (nI af), .ref s1, .ref s2, .ref s3, .ref s4, .ref s5, .int (nI pl), .int (nI 0), .int (pm_b qu), .int (nI cy), .int (nI qc), .int (pm_b fr), .int (pm_b wq)])), (s1, .inl (t1, 401, .inl (pm_nf9 sm))), (s2, .inl (t2, 8000, .inl (pm_nf9 gv))), (s3, .inl (t3, 16, .inl (pm_nf9 gr))), (s4, .inl (t4, 400, .inl rc)), (s5, .inl (t5, 400, .inl mq))]) hP hD [0, 1, 2, 3, 4, 5] [] rfl rfl (by decide) (by decide) hk1 hFc hP1 hD1
  clear hPc hDc hKc hFc hP1 hK1 hD1
  generalize H1 = H at hP hS ⊢
  have hP : va_P (dC, dI) vwCl [(y0, .inr (4, [.int (nI 1), .int (nI N), .int (nI af), .ref s1, .ref s2, .ref s3, .ref s4, .ref s5, .int (nI pl), .int (nI 0), .int (pm_b qu), .int (nI cy), .int (nI qc), .int (pm_b fr), .int (pm_b wq)])), (s1, .inl (t1, 401, .inl (pm_nf9 sm))), (s2, .inl (t2, 8000, .inl (pm_nf9 gv))), (s3, .inl (t3, 16, .inl (pm_nf9 gr))), (s4, .inl (t4, 400, .inl rc)), (s5, .inl (t5, 400, .inl mq))] H := hP.sub [0, 1, 2, 3, 4, 5] rfl
  have hD : va_D A [(y0, .inr (4, [.int (nI 1), .int (nI N), .int (nI af), .ref s1, .ref s2, .ref s3, .ref s4, .ref s5, .int (nI pl), .int (nI 0), .int (pm_b qu), .int (nI cy), .int (nI qc), .int (pm_b fr), .int (pm_b wq)])), (s1, .inl (t1, 401, .inl (pm_nf9 sm))), (s2, .inl (t2, 8000, .inl (pm_nf9 gv))), (s3, .inl (t3, 16, .inl (pm_nf9 gr))), (s4, .inl (t4, 400, .inl rc)), (s5, .inl (t5, 400, .inl mq))] := hD.sub [0, 1, 2, 3, 4, 5] (by decide) rfl
  obtain rfl : r_1 = nI 0 := hw
  refine lv_if_ne (tgt := 14) hx hb dX4_finish_9 (by decide) (fun c_9 => absurd c_9 (by decide +kernel)) (fun c_9 => ?_)
  refine lv_iconst (v := nI 0) hx hb dX4_finish_12 (by decide +kernel) ?_
  exact W.iret (v := nI 0) hx hb hr (fun t ht hW => ⟨⟨nI 0, (), rfl, trivial, by rw [ht]; exact hP, va_K.moved hW.alike hK, hD⟩, hS.F ht⟩) hS.2.2 dX4_finish_13

set_option maxHeartbeats 4000000 in
set_option maxRecDepth 100000 in
/-- count: answered -/
theorem c_Q_count_ok (l : Launch) (dC : Nat → ClassId) (dI : Nat → Nat → Nat) (y0 s1 s2 s3 s4 s5 : Nat) (t1 t2 t3 t4 t5 : ClassId) (th N af : Nat) (sm gv gr : Nat → Nat) (rc mq : Nat → Int32) (pl : Nat) (go qu : Bool) (cy qc : Nat) (fr wq : Bool) (j : Nat) (sz : Nat) (hM : pq_MO N sm gv gr af) (hj : j ≤ 5) : Met l yX4_count wsX4_count ({ frames := 1, cells := 0, slots := 0, locals := 25 }) (va_Pc [.ref y0, .int (nI j)] (fun U => U.heap.size = sz ∧ va_P (dC, dI) vwCl [(y0, .inr (4, [.int (nI th), .int (nI N), .int (nI af), .ref s1, .ref s2, .ref s3, .ref s4, .ref s5, .int (nI pl), .int (pm_b go), .int (pm_b qu), .int (nI cy), .int (nI qc), .int (pm_b fr), .int (pm_b wq)])), (s1, .inl (t1, 401, .inl (pm_nf9 sm))), (s2, .inl (t2, 8000, .inl (pm_nf9 gv))), (s3, .inl (t3, 16, .inl (pm_nf9 gr))), (s4, .inl (t4, 400, .inl rc)), (s5, .inl (t5, 400, .inl mq))] U.heap ∧ va_K (dC, dI) vwCl [(t1, .int), (t2, .int), (t3, .int), (t4, .boolean), (t5, .boolean)] U ∧ va_D (fun _ => True) [(y0, .inr (4, [.int (nI th), .int (nI N), .int (nI af), .ref s1, .ref s2, .ref s3, .ref s4, .ref s5, .int (nI pl), .int (pm_b go), .int (pm_b qu), .int (nI cy), .int (nI qc), .int (pm_b fr), .int (pm_b wq)])), (s1, .inl (t1, 401, .inl (pm_nf9 sm))), (s2, .inl (t2, 8000, .inl (pm_nf9 gv))), (s3, .inl (t3, 16, .inl (pm_nf9 gr))), (s4, .inl (t4, 400, .inl rc)), (s5, .inl (t5, 400, .inl mq))])) (va_Qi (fun (r : Int32) (u : Nat → Int32) => u = (if j = 2 then pq_reach N sm gv gr rc else rc) ∧ r = pq_ct j N af (pm_cnt u N) cy qc go) (fun (u : Nat → Int32) (t : State) => va_P (dC, dI) vwCl [(y0, .inr (4, [.int (nI 0), .int (nI N), .int (nI af), .ref s1, .ref s2, .ref s3, .ref s4, .ref s5, .int (nI pl), .int (pm_b go), .int (pm_b qu), .int (nI cy), .int (nI qc), .int (pm_b fr), .int (pm_b wq)])), (s1, .inl (t1, 401, .inl (pm_nf9 sm))), (s2, .inl (t2, 8000, .inl (pm_nf9 gv))), (s3, .inl (t3, 16, .inl (pm_nf9 gr))), (s4, .inl (t4, 400, .inl u)), (s5, .inl (t5, 400, .inl mq))] t.heap ∧ va_K (dC, dI) vwCl [(t1, .int), (t2, .int), (t3, .int), (t4, .boolean), (t5, .boolean)] t ∧ va_D (va_A [(y0, .inr (4, [.int (nI th), .int (nI N), .int (nI af), .ref s1, .ref s2, .ref s3, .ref s4, .ref s5, .int (nI pl), .int (pm_b go), .int (pm_b qu), .int (nI cy), .int (nI qc), .int (pm_b fr), .int (pm_b wq)])), (s1, .inl (t1, 401, .inl (pm_nf9 sm))), (s2, .inl (t2, 8000, .inl (pm_nf9 gv))), (s3, .inl (t3, 16, .inl (pm_nf9 gr))), (s4, .inl (t4, 400, .inl rc)), (s5, .inl (t5, 400, .inl mq))] sz) [(y0, .inr (4, [.int (nI 0), .int (nI N), .int (nI af), .ref s1, .ref s2, .ref s3, .ref s4, .ref s5, .int (nI pl), .int (pm_b go), .int (pm_b qu), .int (nI cy), .int (nI qc), .int (pm_b fr), .int (pm_b wq)])), (s1, .inl (t1, 401, .inl (pm_nf9 sm))), (s2, .inl (t2, 8000, .inl (pm_nf9 gv))), (s3, .inl (t3, 16, .inl (pm_nf9 gr))), (s4, .inl (t4, 400, .inl u)), (s5, .inl (t5, 400, .inl mq))]) (va_A [(y0, .inr (4, [.int (nI th), .int (nI N), .int (nI af), .ref s1, .ref s2, .ref s3, .ref s4, .ref s5, .int (nI pl), .int (pm_b go), .int (pm_b qu), .int (nI cy), .int (nI qc), .int (pm_b fr), .int (pm_b wq)])), (s1, .inl (t1, 401, .inl (pm_nf9 sm))), (s2, .inl (t2, 8000, .inl (pm_nf9 gv))), (s3, .inl (t3, 16, .inl (pm_nf9 gr))), (s4, .inl (t4, 400, .inl rc)), (s5, .inl (t5, 400, .inl mq))] sz)) 0 0 (va_A [(y0, .inr (4, [.int (nI th), .int (nI N), .int (nI af), .ref s1, .ref s2, .ref s3, .ref s4, .ref s5, .int (nI pl), .int (pm_b go), .int (pm_b qu), .int (nI cy), .int (nI qc), .int (pm_b fr), .int (pm_b wq)])), (s1, .inl (t1, 401, .inl (pm_nf9 sm))), (s2, .inl (t2, 8000, .inl (pm_nf9 gv))), (s3, .inl (t3, 16, .inl (pm_nf9 gr))), (s4, .inl (t4, 400, .inl rc)), (s5, .inl (t5, 400, .inl mq))] sz) := by
  refine Met.ofW (cc := cX4_count) (maxL := 2) (ret := (some .int)) (by decide) rfl ?_
  intro p e s m args below meth c s₁ B hml hv
  obtain ⟨rfl, hsz, hP, hK, hD0⟩ := hv
  have hx := B.exec
  have hb := B.bytes
  have hr := B.returns
  have hts : ∀ w ∈ gw, w.before _ s = true := fun w h => atoms_spec (ws := wsX4_count) B.pre w (List.mem_cons_of_mem _ h)
  have hown : s.vm.findClass RX4 = some m.cls := findClass_of_methodNamed B.named
  have hlocks := B.notSynchronized
  subst hsz
  have hD := hD0.self (sz := s.heap.size)
  generalize hAe : va_A [(y0, .inr (4, [.int (nI th), .int (nI N), .int (nI af), .ref s1, .ref s2, .ref s3, .ref s4, .ref s5, .int (nI pl), .int (pm_b go), .int (pm_b qu), .int (nI cy), .int (nI qc), .int (pm_b fr), .int (pm_b wq)])), (s1, .inl (t1, 401, .inl (pm_nf9 sm))), (s2, .inl (t2, 8000, .inl (pm_nf9 gv))), (s3, .inl (t3, 16, .inl (pm_nf9 gr))), (s4, .inl (t4, 400, .inl rc)), (s5, .inl (t5, 400, .inl mq))] s.heap.size = A at hD ⊢
  have hA : ∀ q : Nat, s.heap.size ≤ q → A q := fun q h => by rw [← hAe]; exact Or.inr h
  have hP : va_P (dC, dI) vwCl [(y0, .inr (4, [.int (nI th), .int (nI N), .int (nI af), .ref s1, .ref s2, .ref s3, .ref s4, .ref s5, .int (nI pl), .int (pm_b go), .int (pm_b qu), .int (nI cy), .int (nI qc), .int (pm_b fr), .int (pm_b wq)])), (s1, .inl (t1, 401, .inl (pm_nf9 sm))), (s2, .inl (t2, 8000, .inl (pm_nf9 gv))), (s3, .inl (t3, 16, .inl (pm_nf9 gr))), (s4, .inl (t4, 400, .inl rc)), (s5, .inl (t5, 400, .inl mq))] s.heap := hP
  have hl := lv_entry ([.ref y0, .int (nI j)]) (n := 2) (Nat.le_of_ble_eq_true rfl)
  rw [lg_entry_eq]
  generalize (lg_sl ([.ref y0, .int (nI j)]) ++ List.replicate (2 - (lg_sl ([.ref y0, .int (nI j)])).length) Slot.unset).toArray = ls at hl ⊢
  have hl : lv_has ls 2 [(0, .ref y0), (1, .int (nI j))] := hl
  obtain ⟨H, hH⟩ : ∃ H : Heap, H = s.heap := ⟨_, rfl⟩
  rw [← hH]
  rw [← hH] at hP
  have hS : va_S A s.heap H [] := by rw [hH]; exact va_S.rf
  clear hH
  have hN := hM.1
  refine lv_aload_n hx hb dX4_count_0 rfl (lv_at hl 0 rfl) ?_
  refine lv_iload_n hx hb dX4_count_1 rfl (lv_at hl 1 rfl) ?_
  refine lv_if_lt (tgt := 14) hx hb dX4_count_2 (by decide) (fun c_2 => absurd c_2 (nI_pos (by omega))) (fun c_2 => ?_)
  refine lv_iload_n hx hb dX4_count_5 rfl (lv_at hl 1 rfl) ?_
  refine lv_iconst (v := nI 5) hx hb dX4_count_6 (by decide +kernel) ?_
  refine lv_icmp_gt (tgt := 14) hx hb dX4_count_7 (by decide) (fun c_7 => absurd c_7 (nI_nlt (by omega) (by omega))) (fun c_7 => ?_)
  refine lv_iconst (v := nI 1) hx hb dX4_count_10 (by decide +kernel) ?_
  refine lv_goto (tgt := 15) hx hb dX4_count_11 (by decide) ?_
  refine lv_iconst (v := nI 1) hx hb dX4_count_15 (by decide +kernel) ?_
  have hPc := hP.sub (ws' := [(y0, .inr (4, [.int (nI th), .int (nI N), .int (nI af), .ref s1, .ref s2, .ref s3, .ref s4, .ref s5, .int (nI pl), .int (pm_b go), .int (pm_b qu), .int (nI cy), .int (nI qc), .int (pm_b fr), .int (pm_b wq)])), (s1, .inl (t1, 401, .inl (pm_nf9 sm))), (s2, .inl (t2, 8000, .inl (pm_nf9 gv))), (s3, .inl (t3, 16, .inl (pm_nf9 gr))), (s4, .inl (t4, 400, .inl rc)), (s5, .inl (t5, 400, .inl mq))]) [0, 1, 2, 3, 4, 5] rfl
  have hDc := hD.sub (ws' := [(y0, .inr (4, [.int (nI th), .int (nI N), .int (nI af), .ref s1, .ref s2, .ref s3, .ref s4, .ref s5, .int (nI pl), .int (pm_b go), .int (pm_b qu), .int (nI cy), .int (nI qc), .int (pm_b fr), .int (pm_b wq)])), (s1, .inl (t1, 401, .inl (pm_nf9 sm))), (s2, .inl (t2, 8000, .inl (pm_nf9 gv))), (s3, .inl (t3, 16, .inl (pm_nf9 gr))), (s4, .inl (t4, 400, .inl rc)), (s5, .inl (t5, 400, .inl mq))]) [0, 1, 2, 3, 4, 5] (by decide) rfl
  have hKc := hK.sub (tys' := [(t1, .int), (t2, .int), (t3, .int), (t4, .boolean), (t5, .boolean)]) [0, 1, 2, 3, 4] rfl
  have hFc := va_free (wc := [(y0, .inr (4, [.int (nI th), .int (nI N), .int (nI af), .ref s1, .ref s2, .ref s3, .ref s4, .ref s5, .int (nI pl), .int (pm_b go), .int (pm_b qu), .int (nI cy), .int (nI qc), .int (pm_b fr), .int (pm_b wq)])), (s1, .inl (t1, 401, .inl (pm_nf9 sm))), (s2, .inl (t2, 8000, .inl (pm_nf9 gv))), (s3, .inl (t3, 16, .inl (pm_nf9 gr))), (s4, .inl (t4, 400, .inl rc)), (s5, .inl (t5, 400, .inl mq))]) hD hS hA [0, 1, 2, 3, 4, 5] rfl
  refine va_calli (va_runV (As := [.int (nI 1), .int (nI 1)]) (rest := []) ⟨hx, hb, hml, hown, hts⟩ (c_Q_goes l dC dI y0 s1 s2 s3 s4 s5 t1 t2 t3 t4 t5 th N af sm gv gr rc mq pl go qu cy qc fr wq true true H.size) (cwV 2 hts (gw_V ml_X4_47 mi_X4_goes ms_X4_goes mn_X4 mc_X4_goes) rfl rfl rfl (by decide +kernel) ⟨Nat.le_of_ble_eq_true rfl, Nat.le_of_ble_eq_true rfl⟩) ⟨fun a U g mk q => by obtain ⟨q0, q1, qP, qK, qD⟩ := q; exact ⟨q0, q1, qP, va_K.moved (u := U) (U := U.calling g mk a) (Vm.Alike.refl U.vm) qK, qD⟩, va_recv hKc hPc (ci := 4) (q0 := 0) rfl rfl, fun U hU hW => ⟨rfl, by rw [hU], by rw [hU]; exact hPc, va_K.moved hW.alike hKc, hDc.weaken (fun _ _ _ _ => trivial)⟩⟩ rfl rfl hl.1 rfl (lv_room (Nat.le_of_ble_eq_true rfl)) dX4_count_16 ⟨Nat.le_of_ble_eq_true rfl, Nat.le_of_ble_eq_true rfl⟩) hS (fun q _ h => hFc q h) hFc (fun r_1 u t H1 locs ht hvm hw hB hz1 hk1 hS => ?_)
  obtain ⟨hP1, hK1, hD1⟩ := hB
  rw [ht] at hP1
  have hK1 := va_K.moved hvm.symm hK1
  obtain ⟨hP, hD⟩ := va_join (wr := []) (w1 := [(y0, .inr (4, [.int (nI 0), .int (nI N), .int (nI af), .ref s1, .ref s2, .ref s3, .ref s4, .ref s5, .int (nI pl), .int (pm_b go), .int (pm_b qu), .int (nI cy), .int (nI qc), .int (pm_b fr), .int (pm_b wq)])), (s1, .inl (t1, 401, .inl (pm_nf9 sm))), (s2, .inl (t2, 8000, .inl (pm_nf9 gv))), (s3, .inl (t3, 16, .inl (pm_nf9 gr))), (s4, .inl (t4, 400, .inl rc)), (s5, .inl (t5, 400, .inl mq))]) hP hD [0, 1, 2, 3, 4, 5] [] rfl rfl (by decide) (by decide) hk1 hFc hP1 hD1
  clear hPc hDc hKc hFc hP1 hK1 hD1
  generalize H1 = H at hP hS ⊢
  have hP : va_P (dC, dI) vwCl [(y0, .inr (4, [.int (nI 0), .int (nI N), .int (nI af), .ref s1, .ref s2, .ref s3, .ref s4, .ref s5, .int (nI pl), .int (pm_b go), .int (pm_b qu), .int (nI cy), .int (nI qc), .int (pm_b fr), .int (pm_b wq)])), (s1, .inl (t1, 401, .inl (pm_nf9 sm))), (s2, .inl (t2, 8000, .inl (pm_nf9 gv))), (s3, .inl (t3, 16, .inl (pm_nf9 gr))), (s4, .inl (t4, 400, .inl rc)), (s5, .inl (t5, 400, .inl mq))] H := hP.sub [0, 1, 2, 3, 4, 5] rfl
  have hD : va_D A [(y0, .inr (4, [.int (nI 0), .int (nI N), .int (nI af), .ref s1, .ref s2, .ref s3, .ref s4, .ref s5, .int (nI pl), .int (pm_b go), .int (pm_b qu), .int (nI cy), .int (nI qc), .int (pm_b fr), .int (pm_b wq)])), (s1, .inl (t1, 401, .inl (pm_nf9 sm))), (s2, .inl (t2, 8000, .inl (pm_nf9 gv))), (s3, .inl (t3, 16, .inl (pm_nf9 gr))), (s4, .inl (t4, 400, .inl rc)), (s5, .inl (t5, 400, .inl mq))] := hD.sub [0, 1, 2, 3, 4, 5] (by decide) rfl
  obtain rfl : r_1 = nI 1 := hw
  refine lv_if_ne (tgt := 24) hx hb dX4_count_19 (by decide) (fun c_19 => ?_) (fun c_19 => absurd c_19 (by decide +kernel))
  refine lv_iload_n hx hb dX4_count_24 rfl (lv_at hl 1 rfl) ?_
  rcases (show j = 0 ∨ j = 1 ∨ j = 2 ∨ j = 3 ∨ j = 4 ∨ j = 5 by omega) with rfl | rfl | rfl | rfl | rfl | rfl
  · refine lv_tableIn (off := 35) (tgt := 60) hx hb dX4_count_25 (by decide +kernel) (by decide +kernel) (by decide +kernel) (by decide) ?_
    refine lv_aload_n hx hb dX4_count_60 rfl (lv_at hl 0 rfl) ?_
    refine va_get (D := (dC, dI)) (ci := 4) (v := .int (nI N)) (C := RX4) (T := TX4) (N := 15) hx hb hts iw_X4 hown hK hP 0 rfl rfl 1 (by decide) (hts _ mf_X4_33) (fun _ h9 => h9) rfl dX4_count_61 ?_
    exact W.iret (v := nI N) hx hb hr (fun t ht hW => ⟨⟨nI N, rc, rfl, ⟨rfl, rfl⟩, by rw [ht]; exact hP, va_K.moved hW.alike hK, hD⟩, hS.F ht⟩) hS.2.2 dX4_count_64
  · refine lv_tableIn (off := 40) (tgt := 65) hx hb dX4_count_25 (by decide +kernel) (by decide +kernel) (by decide +kernel) (by decide) ?_
    refine lv_aload_n hx hb dX4_count_65 rfl (lv_at hl 0 rfl) ?_
    refine va_get (D := (dC, dI)) (ci := 4) (v := .int (nI af)) (C := RX4) (T := TX4) (N := 15) hx hb hts iw_X4 hown hK hP 0 rfl rfl 2 (by decide) (hts _ mf_X4_51) (fun _ h9 => h9) rfl dX4_count_66 ?_
    exact W.iret (v := nI af) hx hb hr (fun t ht hW => ⟨⟨nI af, rc, rfl, ⟨rfl, rfl⟩, by rw [ht]; exact hP, va_K.moved hW.alike hK, hD⟩, hS.F ht⟩) hS.2.2 dX4_count_69
  · refine lv_tableIn (off := 45) (tgt := 70) hx hb dX4_count_25 (by decide +kernel) (by decide +kernel) (by decide +kernel) (by decide) ?_
    refine lv_aload_n hx hb dX4_count_70 rfl (lv_at hl 0 rfl) ?_
    have hPc := hP.sub (ws' := [(y0, .inr (4, [.int (nI 0), .int (nI N), .int (nI af), .ref s1, .ref s2, .ref s3, .ref s4, .ref s5, .int (nI pl), .int (pm_b go), .int (pm_b qu), .int (nI cy), .int (nI qc), .int (pm_b fr), .int (pm_b wq)])), (s1, .inl (t1, 401, .inl (pm_nf9 sm))), (s2, .inl (t2, 8000, .inl (pm_nf9 gv))), (s3, .inl (t3, 16, .inl (pm_nf9 gr))), (s4, .inl (t4, 400, .inl rc)), (s5, .inl (t5, 400, .inl mq))]) [0, 1, 2, 3, 4, 5] rfl
    have hDc := hD.sub (ws' := [(y0, .inr (4, [.int (nI 0), .int (nI N), .int (nI af), .ref s1, .ref s2, .ref s3, .ref s4, .ref s5, .int (nI pl), .int (pm_b go), .int (pm_b qu), .int (nI cy), .int (nI qc), .int (pm_b fr), .int (pm_b wq)])), (s1, .inl (t1, 401, .inl (pm_nf9 sm))), (s2, .inl (t2, 8000, .inl (pm_nf9 gv))), (s3, .inl (t3, 16, .inl (pm_nf9 gr))), (s4, .inl (t4, 400, .inl rc)), (s5, .inl (t5, 400, .inl mq))]) [0, 1, 2, 3, 4, 5] (by decide) rfl
    have hKc := hK.sub (tys' := [(t1, .int), (t2, .int), (t3, .int), (t4, .boolean), (t5, .boolean)]) [0, 1, 2, 3, 4] rfl
    have hFc := va_free (wc := [(y0, .inr (4, [.int (nI 0), .int (nI N), .int (nI af), .ref s1, .ref s2, .ref s3, .ref s4, .ref s5, .int (nI pl), .int (pm_b go), .int (pm_b qu), .int (nI cy), .int (nI qc), .int (pm_b fr), .int (pm_b wq)])), (s1, .inl (t1, 401, .inl (pm_nf9 sm))), (s2, .inl (t2, 8000, .inl (pm_nf9 gv))), (s3, .inl (t3, 16, .inl (pm_nf9 gr))), (s4, .inl (t4, 400, .inl rc)), (s5, .inl (t5, 400, .inl mq))]) hD hS hA [0, 1, 2, 3, 4, 5] rfl
    refine va_calli (va_runV (As := []) (rest := []) ⟨hx, hb, hml, hown, hts⟩ (c_Q_reach l dC dI y0 s1 s2 s3 s4 s5 t1 t2 t3 t4 t5 0 N af sm gv gr rc mq pl go qu cy qc fr wq H.size (hM)) (cwV 0 hts (gw_V ml_X4_64 mi_X4_reach ms_X4_reach mn_X4 mc_X4_reach) rfl rfl rfl (by decide +kernel) ⟨Nat.le_of_ble_eq_true rfl, Nat.le_of_ble_eq_true rfl⟩) ⟨fun a U g mk q => by obtain ⟨q0, q1, qP, qK, qD⟩ := q; exact ⟨q0, q1, qP, va_K.moved (u := U) (U := U.calling g mk a) (Vm.Alike.refl U.vm) qK, qD⟩, va_recv hKc hPc (ci := 4) (q0 := 0) rfl rfl, fun U hU hW => ⟨rfl, by rw [hU], by rw [hU]; exact hPc, va_K.moved hW.alike hKc, hDc.weaken (fun _ _ _ _ => trivial)⟩⟩ rfl rfl hl.1 rfl (lv_room (Nat.le_of_ble_eq_true rfl)) dX4_count_71 ⟨Nat.le_of_ble_eq_true rfl, Nat.le_of_ble_eq_true rfl⟩) hS (fun q _ h => hFc q h) hFc (fun r_2 u t H1 locs ht hvm hw hB hz1 hk1 hS => ?_)
    obtain ⟨rc9, rfl⟩ : ∃ z, z = u := ⟨_, rfl⟩
    obtain ⟨hP1, hK1, hD1⟩ := hB
    rw [ht] at hP1
    have hK1 := va_K.moved hvm.symm hK1
    obtain ⟨hP, hD⟩ := va_join (wr := []) (w1 := [(y0, .inr (4, [.int (nI 0), .int (nI N), .int (nI af), .ref s1, .ref s2, .ref s3, .ref s4, .ref s5, .int (nI pl), .int (pm_b go), .int (pm_b qu), .int (nI cy), .int (nI qc), .int (pm_b fr), .int (pm_b wq)])), (s1, .inl (t1, 401, .inl (pm_nf9 sm))), (s2, .inl (t2, 8000, .inl (pm_nf9 gv))), (s3, .inl (t3, 16, .inl (pm_nf9 gr))), (s4, .inl (t4, 400, .inl rc9)), (s5, .inl (t5, 400, .inl mq))]) hP hD [0, 1, 2, 3, 4, 5] [] rfl rfl (by decide) (by decide) hk1 hFc hP1 hD1
    clear hPc hDc hKc hFc hP1 hK1 hD1
    generalize H1 = H at hP hS ⊢
    have hP : va_P (dC, dI) vwCl [(y0, .inr (4, [.int (nI 0), .int (nI N), .int (nI af), .ref s1, .ref s2, .ref s3, .ref s4, .ref s5, .int (nI pl), .int (pm_b go), .int (pm_b qu), .int (nI cy), .int (nI qc), .int (pm_b fr), .int (pm_b wq)])), (s1, .inl (t1, 401, .inl (pm_nf9 sm))), (s2, .inl (t2, 8000, .inl (pm_nf9 gv))), (s3, .inl (t3, 16, .inl (pm_nf9 gr))), (s4, .inl (t4, 400, .inl rc9)), (s5, .inl (t5, 400, .inl mq))] H := hP.sub [0, 1, 2, 3, 4, 5] rfl
    have hD : va_D A [(y0, .inr (4, [.int (nI 0), .int (nI N), .int (nI af), .ref s1, .ref s2, .ref s3, .ref s4, .ref s5, .int (nI pl), .int (pm_b go), .int (pm_b qu), .int (nI cy), .int (nI qc), .int (pm_b fr), .int (pm_b wq)])), (s1, .inl (t1, 401, .inl (pm_nf9 sm))), (s2, .inl (t2, 8000, .inl (pm_nf9 gv))), (s3, .inl (t3, 16, .inl (pm_nf9 gr))), (s4, .inl (t4, 400, .inl rc9)), (s5, .inl (t5, 400, .inl mq))] := hD.sub [0, 1, 2, 3, 4, 5] (by decide) rfl
    obtain ⟨hw9, rfl⟩ := hw
    exact W.iret (v := nI (pm_cnt rc9 N)) hx hb hr (fun t ht hW => ⟨⟨nI (pm_cnt rc9 N), rc9, rfl, ⟨hw9, rfl⟩, by rw [ht]; exact hP, va_K.moved hW.alike hK, hD⟩, hS.F ht⟩) hS.2.2 dX4_count_74
  · refine lv_tableIn (off := 50) (tgt := 75) hx hb dX4_count_25 (by decide +kernel) (by decide +kernel) (by decide +kernel) (by decide) ?_
    refine lv_aload_n hx hb dX4_count_75 rfl (lv_at hl 0 rfl) ?_
    refine va_get (D := (dC, dI)) (ci := 4) (v := .int (nI cy)) (C := RX4) (T := TX4) (N := 15) hx hb hts iw_X4 hown hK hP 0 rfl rfl 11 (by decide) (hts _ mf_X4_71) (fun _ h9 => h9) rfl dX4_count_76 ?_
    exact W.iret (v := nI cy) hx hb hr (fun t ht hW => ⟨⟨nI cy, rc, rfl, ⟨rfl, rfl⟩, by rw [ht]; exact hP, va_K.moved hW.alike hK, hD⟩, hS.F ht⟩) hS.2.2 dX4_count_79
  · refine lv_tableIn (off := 55) (tgt := 80) hx hb dX4_count_25 (by decide +kernel) (by decide +kernel) (by decide +kernel) (by decide) ?_
    refine lv_aload_n hx hb dX4_count_80 rfl (lv_at hl 0 rfl) ?_
    refine va_get (D := (dC, dI)) (ci := 4) (v := .int (nI qc)) (C := RX4) (T := TX4) (N := 15) hx hb hts iw_X4 hown hK hP 0 rfl rfl 12 (by decide) (hts _ mf_X4_74) (fun _ h9 => h9) rfl dX4_count_81 ?_
    exact W.iret (v := nI qc) hx hb hr (fun t ht hW => ⟨⟨nI qc, rc, rfl, ⟨rfl, rfl⟩, by rw [ht]; exact hP, va_K.moved hW.alike hK, hD⟩, hS.F ht⟩) hS.2.2 dX4_count_84
  · refine lv_tableOut (tgt := 85) hx hb dX4_count_25 (Or.inr (by decide +kernel)) (by decide) ?_
    refine lv_aload_n hx hb dX4_count_85 rfl (lv_at hl 0 rfl) ?_
    refine va_get (D := (dC, dI)) (ci := 4) (v := .int (pm_b go)) (C := RX4) (T := TX4) (N := 15) hx hb hts iw_X4 hown hK hP 0 rfl rfl 9 (by decide) (hts _ mf_X4_61) (fun _ h9 => h9) rfl dX4_count_86 ?_
    cases go with
    | true =>
      have hP : va_P (dC, dI) vwCl [(y0, .inr (4, [.int (nI 0), .int (nI N), .int (nI af), .ref s1, .ref s2, .ref s3, .ref s4, .ref s5, .int (nI pl), .int (nI 1), .int (pm_b qu), .int (nI cy), .int (nI qc), .int (pm_b fr), .int (pm_b wq)])), (s1, .inl (t1, 401, .inl (pm_nf9 sm))), (s2, .inl (t2, 8000, .inl (pm_nf9 gv))), (s3, .inl (t3, 16, .inl (pm_nf9 gr))), (s4, .inl (t4, 400, .inl rc)), (s5, .inl (t5, 400, .inl mq))] H := hP
      have hD : va_D A [(y0, .inr (4, [.int (nI 0), .int (nI N), .int (nI af), .ref s1, .ref s2, .ref s3, .ref s4, .ref s5, .int (nI pl), .int (nI 1), .int (pm_b qu), .int (nI cy), .int (nI qc), .int (pm_b fr), .int (pm_b wq)])), (s1, .inl (t1, 401, .inl (pm_nf9 sm))), (s2, .inl (t2, 8000, .inl (pm_nf9 gv))), (s3, .inl (t3, 16, .inl (pm_nf9 gr))), (s4, .inl (t4, 400, .inl rc)), (s5, .inl (t5, 400, .inl mq))] := hD
      have hl : lv_has ls 2 [(0, .ref y0), (1, .int (nI 5))] := hl
      refine lv_if_eq (tgt := 96) hx hb dX4_count_89 (by decide) (fun c_89 => absurd c_89 (by decide +kernel)) (fun c_89 => ?_)
      refine lv_iconst (v := nI 1) hx hb dX4_count_92 (by decide +kernel) ?_
      refine lv_goto (tgt := 97) hx hb dX4_count_93 (by decide) ?_
      exact W.iret (v := nI 1) hx hb hr (fun t ht hW => ⟨⟨nI 1, rc, rfl, ⟨rfl, rfl⟩, by rw [ht]; exact hP, va_K.moved hW.alike hK, hD⟩, hS.F ht⟩) hS.2.2 dX4_count_97
    | false =>
      have hP : va_P (dC, dI) vwCl [(y0, .inr (4, [.int (nI 0), .int (nI N), .int (nI af), .ref s1, .ref s2, .ref s3, .ref s4, .ref s5, .int (nI pl), .int (nI 0), .int (pm_b qu), .int (nI cy), .int (nI qc), .int (pm_b fr), .int (pm_b wq)])), (s1, .inl (t1, 401, .inl (pm_nf9 sm))), (s2, .inl (t2, 8000, .inl (pm_nf9 gv))), (s3, .inl (t3, 16, .inl (pm_nf9 gr))), (s4, .inl (t4, 400, .inl rc)), (s5, .inl (t5, 400, .inl mq))] H := hP
      have hD : va_D A [(y0, .inr (4, [.int (nI 0), .int (nI N), .int (nI af), .ref s1, .ref s2, .ref s3, .ref s4, .ref s5, .int (nI pl), .int (nI 0), .int (pm_b qu), .int (nI cy), .int (nI qc), .int (pm_b fr), .int (pm_b wq)])), (s1, .inl (t1, 401, .inl (pm_nf9 sm))), (s2, .inl (t2, 8000, .inl (pm_nf9 gv))), (s3, .inl (t3, 16, .inl (pm_nf9 gr))), (s4, .inl (t4, 400, .inl rc)), (s5, .inl (t5, 400, .inl mq))] := hD
      have hl : lv_has ls 2 [(0, .ref y0), (1, .int (nI 5))] := hl
      refine lv_if_eq (tgt := 96) hx hb dX4_count_89 (by decide) (fun c_89 => ?_) (fun c_89 => absurd c_89 (by decide +kernel))
      refine lv_iconst (v := nI 0) hx hb dX4_count_96 (by decide +kernel) ?_
      exact W.iret (v := nI 0) hx hb hr (fun t ht hW => ⟨⟨nI 0, rc, rfl, ⟨rfl, rfl⟩, by rw [ht]; exact hP, va_K.moved hW.alike hK, hD⟩, hS.F ht⟩) hS.2.2 dX4_count_97

set_option maxHeartbeats 4000000 in
set_option maxRecDepth 100000 in
/-- count: refused -/
theorem c_Q_count_b (l : Launch) (dC : Nat → ClassId) (dI : Nat → Nat → Nat) (y0 s1 s2 s3 s4 s5 : Nat) (t1 t2 t3 t4 t5 : ClassId) (th N af : Nat) (sm gv gr : Nat → Nat) (rc mq : Nat → Int32) (pl : Nat) (go qu : Bool) (cy qc : Nat) (fr wq : Bool) (p0 : Int32) (sz : Nat) (hg : pm_rng 0 5 p0 = false) : Met l yX4_count wsX4_count ({ frames := 1, cells := 0, slots := 0, locals := 25 }) (va_Pc [.ref y0, .int p0] (fun U => U.heap.size = sz ∧ va_P (dC, dI) vwCl [(y0, .inr (4, [.int (nI th), .int (nI N), .int (nI af), .ref s1, .ref s2, .ref s3, .ref s4, .ref s5, .int (nI pl), .int (pm_b go), .int (pm_b qu), .int (nI cy), .int (nI qc), .int (pm_b fr), .int (pm_b wq)])), (s1, .inl (t1, 401, .inl (pm_nf9 sm))), (s2, .inl (t2, 8000, .inl (pm_nf9 gv))), (s3, .inl (t3, 16, .inl (pm_nf9 gr))), (s4, .inl (t4, 400, .inl rc)), (s5, .inl (t5, 400, .inl mq))] U.heap ∧ va_K (dC, dI) vwCl [(t1, .int), (t2, .int), (t3, .int), (t4, .boolean), (t5, .boolean)] U ∧ va_D (fun _ => True) [(y0, .inr (4, [.int (nI th), .int (nI N), .int (nI af), .ref s1, .ref s2, .ref s3, .ref s4, .ref s5, .int (nI pl), .int (pm_b go), .int (pm_b qu), .int (nI cy), .int (nI qc), .int (pm_b fr), .int (pm_b wq)])), (s1, .inl (t1, 401, .inl (pm_nf9 sm))), (s2, .inl (t2, 8000, .inl (pm_nf9 gv))), (s3, .inl (t3, 16, .inl (pm_nf9 gr))), (s4, .inl (t4, 400, .inl rc)), (s5, .inl (t5, 400, .inl mq))])) (va_Qi (fun (_ : Int32) (_ : Unit) => True) (fun (_ : Unit) (t : State) => va_P (dC, dI) vwCl [(y0, .inr (4, [.int (nI 1), .int (nI N), .int (nI af), .ref s1, .ref s2, .ref s3, .ref s4, .ref s5, .int (nI pl), .int (pm_b go), .int (pm_b qu), .int (nI cy), .int (nI qc), .int (pm_b fr), .int (pm_b wq)])), (s1, .inl (t1, 401, .inl (pm_nf9 sm))), (s2, .inl (t2, 8000, .inl (pm_nf9 gv))), (s3, .inl (t3, 16, .inl (pm_nf9 gr))), (s4, .inl (t4, 400, .inl rc)), (s5, .inl (t5, 400, .inl mq))] t.heap ∧ va_K (dC, dI) vwCl [(t1, .int), (t2, .int), (t3, .int), (t4, .boolean), (t5, .boolean)] t ∧ va_D (va_A [(y0, .inr (4, [.int (nI th), .int (nI N), .int (nI af), .ref s1, .ref s2, .ref s3, .ref s4, .ref s5, .int (nI pl), .int (pm_b go), .int (pm_b qu), .int (nI cy), .int (nI qc), .int (pm_b fr), .int (pm_b wq)])), (s1, .inl (t1, 401, .inl (pm_nf9 sm))), (s2, .inl (t2, 8000, .inl (pm_nf9 gv))), (s3, .inl (t3, 16, .inl (pm_nf9 gr))), (s4, .inl (t4, 400, .inl rc)), (s5, .inl (t5, 400, .inl mq))] sz) [(y0, .inr (4, [.int (nI 1), .int (nI N), .int (nI af), .ref s1, .ref s2, .ref s3, .ref s4, .ref s5, .int (nI pl), .int (pm_b go), .int (pm_b qu), .int (nI cy), .int (nI qc), .int (pm_b fr), .int (pm_b wq)])), (s1, .inl (t1, 401, .inl (pm_nf9 sm))), (s2, .inl (t2, 8000, .inl (pm_nf9 gv))), (s3, .inl (t3, 16, .inl (pm_nf9 gr))), (s4, .inl (t4, 400, .inl rc)), (s5, .inl (t5, 400, .inl mq))]) (va_A [(y0, .inr (4, [.int (nI th), .int (nI N), .int (nI af), .ref s1, .ref s2, .ref s3, .ref s4, .ref s5, .int (nI pl), .int (pm_b go), .int (pm_b qu), .int (nI cy), .int (nI qc), .int (pm_b fr), .int (pm_b wq)])), (s1, .inl (t1, 401, .inl (pm_nf9 sm))), (s2, .inl (t2, 8000, .inl (pm_nf9 gv))), (s3, .inl (t3, 16, .inl (pm_nf9 gr))), (s4, .inl (t4, 400, .inl rc)), (s5, .inl (t5, 400, .inl mq))] sz)) 0 0 (va_A [(y0, .inr (4, [.int (nI th), .int (nI N), .int (nI af), .ref s1, .ref s2, .ref s3, .ref s4, .ref s5, .int (nI pl), .int (pm_b go), .int (pm_b qu), .int (nI cy), .int (nI qc), .int (pm_b fr), .int (pm_b wq)])), (s1, .inl (t1, 401, .inl (pm_nf9 sm))), (s2, .inl (t2, 8000, .inl (pm_nf9 gv))), (s3, .inl (t3, 16, .inl (pm_nf9 gr))), (s4, .inl (t4, 400, .inl rc)), (s5, .inl (t5, 400, .inl mq))] sz) := by
  refine Met.ofW (cc := cX4_count) (maxL := 2) (ret := (some .int)) (by decide) rfl ?_
  intro p e s m args below meth c s₁ B hml hv
  obtain ⟨rfl, hsz, hP, hK, hD0⟩ := hv
  have hx := B.exec
  have hb := B.bytes
  have hr := B.returns
  have hts : ∀ w ∈ gw, w.before _ s = true := fun w h => atoms_spec (ws := wsX4_count) B.pre w (List.mem_cons_of_mem _ h)
  have hown : s.vm.findClass RX4 = some m.cls := findClass_of_methodNamed B.named
  have hlocks := B.notSynchronized
  subst hsz
  have hD := hD0.self (sz := s.heap.size)
  generalize hAe : va_A [(y0, .inr (4, [.int (nI th), .int (nI N), .int (nI af), .ref s1, .ref s2, .ref s3, .ref s4, .ref s5, .int (nI pl), .int (pm_b go), .int (pm_b qu), .int (nI cy), .int (nI qc), .int (pm_b fr), .int (pm_b wq)])), (s1, .inl (t1, 401, .inl (pm_nf9 sm))), (s2, .inl (t2, 8000, .inl (pm_nf9 gv))), (s3, .inl (t3, 16, .inl (pm_nf9 gr))), (s4, .inl (t4, 400, .inl rc)), (s5, .inl (t5, 400, .inl mq))] s.heap.size = A at hD ⊢
  have hA : ∀ q : Nat, s.heap.size ≤ q → A q := fun q h => by rw [← hAe]; exact Or.inr h
  have hP : va_P (dC, dI) vwCl [(y0, .inr (4, [.int (nI th), .int (nI N), .int (nI af), .ref s1, .ref s2, .ref s3, .ref s4, .ref s5, .int (nI pl), .int (pm_b go), .int (pm_b qu), .int (nI cy), .int (nI qc), .int (pm_b fr), .int (pm_b wq)])), (s1, .inl (t1, 401, .inl (pm_nf9 sm))), (s2, .inl (t2, 8000, .inl (pm_nf9 gv))), (s3, .inl (t3, 16, .inl (pm_nf9 gr))), (s4, .inl (t4, 400, .inl rc)), (s5, .inl (t5, 400, .inl mq))] s.heap := hP
  have hl := lv_entry ([.ref y0, .int p0]) (n := 2) (Nat.le_of_ble_eq_true rfl)
  rw [lg_entry_eq]
  generalize (lg_sl ([.ref y0, .int p0]) ++ List.replicate (2 - (lg_sl ([.ref y0, .int p0])).length) Slot.unset).toArray = ls at hl ⊢
  have hl : lv_has ls 2 [(0, .ref y0), (1, .int p0)] := hl
  obtain ⟨H, hH⟩ : ∃ H : Heap, H = s.heap := ⟨_, rfl⟩
  rw [← hH]
  rw [← hH] at hP
  have hS : va_S A s.heap H [] := by rw [hH]; exact va_S.rf
  clear hH
  refine lv_aload_n hx hb dX4_count_0 rfl (lv_at hl 0 rfl) ?_
  refine lv_iload_n hx hb dX4_count_1 rfl (lv_at hl 1 rfl) ?_
  refine lv_if_lt (tgt := 14) hx hb dX4_count_2 (by decide) (fun c_2 => ?_) (fun c_2 => ?_)
  · refine lv_iconst (v := nI 0) hx hb dX4_count_14 (by decide +kernel) ?_
    refine lv_iconst (v := nI 1) hx hb dX4_count_15 (by decide +kernel) ?_
    have hPc := hP.sub (ws' := [(y0, .inr (4, [.int (nI th), .int (nI N), .int (nI af), .ref s1, .ref s2, .ref s3, .ref s4, .ref s5, .int (nI pl), .int (pm_b go), .int (pm_b qu), .int (nI cy), .int (nI qc), .int (pm_b fr), .int (pm_b wq)])), (s1, .inl (t1, 401, .inl (pm_nf9 sm))), (s2, .inl (t2, 8000, .inl (pm_nf9 gv))), (s3, .inl (t3, 16, .inl (pm_nf9 gr))), (s4, .inl (t4, 400, .inl rc)), (s5, .inl (t5, 400, .inl mq))]) [0, 1, 2, 3, 4, 5] rfl
    have hDc := hD.sub (ws' := [(y0, .inr (4, [.int (nI th), .int (nI N), .int (nI af), .ref s1, .ref s2, .ref s3, .ref s4, .ref s5, .int (nI pl), .int (pm_b go), .int (pm_b qu), .int (nI cy), .int (nI qc), .int (pm_b fr), .int (pm_b wq)])), (s1, .inl (t1, 401, .inl (pm_nf9 sm))), (s2, .inl (t2, 8000, .inl (pm_nf9 gv))), (s3, .inl (t3, 16, .inl (pm_nf9 gr))), (s4, .inl (t4, 400, .inl rc)), (s5, .inl (t5, 400, .inl mq))]) [0, 1, 2, 3, 4, 5] (by decide) rfl
    have hKc := hK.sub (tys' := [(t1, .int), (t2, .int), (t3, .int), (t4, .boolean), (t5, .boolean)]) [0, 1, 2, 3, 4] rfl
    have hFc := va_free (wc := [(y0, .inr (4, [.int (nI th), .int (nI N), .int (nI af), .ref s1, .ref s2, .ref s3, .ref s4, .ref s5, .int (nI pl), .int (pm_b go), .int (pm_b qu), .int (nI cy), .int (nI qc), .int (pm_b fr), .int (pm_b wq)])), (s1, .inl (t1, 401, .inl (pm_nf9 sm))), (s2, .inl (t2, 8000, .inl (pm_nf9 gv))), (s3, .inl (t3, 16, .inl (pm_nf9 gr))), (s4, .inl (t4, 400, .inl rc)), (s5, .inl (t5, 400, .inl mq))]) hD hS hA [0, 1, 2, 3, 4, 5] rfl
    refine va_calli (va_runV (As := [.int (nI 0), .int (nI 1)]) (rest := []) ⟨hx, hb, hml, hown, hts⟩ (c_Q_goes l dC dI y0 s1 s2 s3 s4 s5 t1 t2 t3 t4 t5 th N af sm gv gr rc mq pl go qu cy qc fr wq false true H.size) (cwV 2 hts (gw_V ml_X4_47 mi_X4_goes ms_X4_goes mn_X4 mc_X4_goes) rfl rfl rfl (by decide +kernel) ⟨Nat.le_of_ble_eq_true rfl, Nat.le_of_ble_eq_true rfl⟩) ⟨fun a U g mk q => by obtain ⟨q0, q1, qP, qK, qD⟩ := q; exact ⟨q0, q1, qP, va_K.moved (u := U) (U := U.calling g mk a) (Vm.Alike.refl U.vm) qK, qD⟩, va_recv hKc hPc (ci := 4) (q0 := 0) rfl rfl, fun U hU hW => ⟨rfl, by rw [hU], by rw [hU]; exact hPc, va_K.moved hW.alike hKc, hDc.weaken (fun _ _ _ _ => trivial)⟩⟩ rfl rfl hl.1 rfl (lv_room (Nat.le_of_ble_eq_true rfl)) dX4_count_16 ⟨Nat.le_of_ble_eq_true rfl, Nat.le_of_ble_eq_true rfl⟩) hS (fun q _ h => hFc q h) hFc (fun r_1 u t H1 locs ht hvm hw hB hz1 hk1 hS => ?_)
    obtain ⟨hP1, hK1, hD1⟩ := hB
    rw [ht] at hP1
    have hK1 := va_K.moved hvm.symm hK1
    obtain ⟨hP, hD⟩ := va_join (wr := []) (w1 := [(y0, .inr (4, [.int (nI 1), .int (nI N), .int (nI af), .ref s1, .ref s2, .ref s3, .ref s4, .ref s5, .int (nI pl), .int (pm_b go), .int (pm_b qu), .int (nI cy), .int (nI qc), .int (pm_b fr), .int (pm_b wq)])), (s1, .inl (t1, 401, .inl (pm_nf9 sm))), (s2, .inl (t2, 8000, .inl (pm_nf9 gv))), (s3, .inl (t3, 16, .inl (pm_nf9 gr))), (s4, .inl (t4, 400, .inl rc)), (s5, .inl (t5, 400, .inl mq))]) hP hD [0, 1, 2, 3, 4, 5] [] rfl rfl (by decide) (by decide) hk1 hFc hP1 hD1
    clear hPc hDc hKc hFc hP1 hK1 hD1
    generalize H1 = H at hP hS ⊢
    have hP : va_P (dC, dI) vwCl [(y0, .inr (4, [.int (nI 1), .int (nI N), .int (nI af), .ref s1, .ref s2, .ref s3, .ref s4, .ref s5, .int (nI pl), .int (pm_b go), .int (pm_b qu), .int (nI cy), .int (nI qc), .int (pm_b fr), .int (pm_b wq)])), (s1, .inl (t1, 401, .inl (pm_nf9 sm))), (s2, .inl (t2, 8000, .inl (pm_nf9 gv))), (s3, .inl (t3, 16, .inl (pm_nf9 gr))), (s4, .inl (t4, 400, .inl rc)), (s5, .inl (t5, 400, .inl mq))] H := hP.sub [0, 1, 2, 3, 4, 5] rfl
    have hD : va_D A [(y0, .inr (4, [.int (nI 1), .int (nI N), .int (nI af), .ref s1, .ref s2, .ref s3, .ref s4, .ref s5, .int (nI pl), .int (pm_b go), .int (pm_b qu), .int (nI cy), .int (nI qc), .int (pm_b fr), .int (pm_b wq)])), (s1, .inl (t1, 401, .inl (pm_nf9 sm))), (s2, .inl (t2, 8000, .inl (pm_nf9 gv))), (s3, .inl (t3, 16, .inl (pm_nf9 gr))), (s4, .inl (t4, 400, .inl rc)), (s5, .inl (t5, 400, .inl mq))] := hD.sub [0, 1, 2, 3, 4, 5] (by decide) rfl
    obtain rfl : r_1 = nI 0 := hw
    refine lv_if_ne (tgt := 24) hx hb dX4_count_19 (by decide) (fun c_19 => absurd c_19 (by decide +kernel)) (fun c_19 => ?_)
    refine lv_iconst (v := nI 0) hx hb dX4_count_22 (by decide +kernel) ?_
    exact W.iret (v := nI 0) hx hb hr (fun t ht hW => ⟨⟨nI 0, (), rfl, trivial, by rw [ht]; exact hP, va_K.moved hW.alike hK, hD⟩, hS.F ht⟩) hS.2.2 dX4_count_23
  · refine lv_iload_n hx hb dX4_count_5 rfl (lv_at hl 1 rfl) ?_
    refine lv_iconst (v := nI 5) hx hb dX4_count_6 (by decide +kernel) ?_
    refine lv_icmp_gt (tgt := 14) hx hb dX4_count_7 (by decide) (fun c_7 => ?_) (fun c_7 => ?_)
    · refine lv_iconst (v := nI 0) hx hb dX4_count_14 (by decide +kernel) ?_
      refine lv_iconst (v := nI 1) hx hb dX4_count_15 (by decide +kernel) ?_
      have hPc := hP.sub (ws' := [(y0, .inr (4, [.int (nI th), .int (nI N), .int (nI af), .ref s1, .ref s2, .ref s3, .ref s4, .ref s5, .int (nI pl), .int (pm_b go), .int (pm_b qu), .int (nI cy), .int (nI qc), .int (pm_b fr), .int (pm_b wq)])), (s1, .inl (t1, 401, .inl (pm_nf9 sm))), (s2, .inl (t2, 8000, .inl (pm_nf9 gv))), (s3, .inl (t3, 16, .inl (pm_nf9 gr))), (s4, .inl (t4, 400, .inl rc)), (s5, .inl (t5, 400, .inl mq))]) [0, 1, 2, 3, 4, 5] rfl
      have hDc := hD.sub (ws' := [(y0, .inr (4, [.int (nI th), .int (nI N), .int (nI af), .ref s1, .ref s2, .ref s3, .ref s4, .ref s5, .int (nI pl), .int (pm_b go), .int (pm_b qu), .int (nI cy), .int (nI qc), .int (pm_b fr), .int (pm_b wq)])), (s1, .inl (t1, 401, .inl (pm_nf9 sm))), (s2, .inl (t2, 8000, .inl (pm_nf9 gv))), (s3, .inl (t3, 16, .inl (pm_nf9 gr))), (s4, .inl (t4, 400, .inl rc)), (s5, .inl (t5, 400, .inl mq))]) [0, 1, 2, 3, 4, 5] (by decide) rfl
      have hKc := hK.sub (tys' := [(t1, .int), (t2, .int), (t3, .int), (t4, .boolean), (t5, .boolean)]) [0, 1, 2, 3, 4] rfl
      have hFc := va_free (wc := [(y0, .inr (4, [.int (nI th), .int (nI N), .int (nI af), .ref s1, .ref s2, .ref s3, .ref s4, .ref s5, .int (nI pl), .int (pm_b go), .int (pm_b qu), .int (nI cy), .int (nI qc), .int (pm_b fr), .int (pm_b wq)])), (s1, .inl (t1, 401, .inl (pm_nf9 sm))), (s2, .inl (t2, 8000, .inl (pm_nf9 gv))), (s3, .inl (t3, 16, .inl (pm_nf9 gr))), (s4, .inl (t4, 400, .inl rc)), (s5, .inl (t5, 400, .inl mq))]) hD hS hA [0, 1, 2, 3, 4, 5] rfl
      refine va_calli (va_runV (As := [.int (nI 0), .int (nI 1)]) (rest := []) ⟨hx, hb, hml, hown, hts⟩ (c_Q_goes l dC dI y0 s1 s2 s3 s4 s5 t1 t2 t3 t4 t5 th N af sm gv gr rc mq pl go qu cy qc fr wq false true H.size) (cwV 2 hts (gw_V ml_X4_47 mi_X4_goes ms_X4_goes mn_X4 mc_X4_goes) rfl rfl rfl (by decide +kernel) ⟨Nat.le_of_ble_eq_true rfl, Nat.le_of_ble_eq_true rfl⟩) ⟨fun a U g mk q => by obtain ⟨q0, q1, qP, qK, qD⟩ := q; exact ⟨q0, q1, qP, va_K.moved (u := U) (U := U.calling g mk a) (Vm.Alike.refl U.vm) qK, qD⟩, va_recv hKc hPc (ci := 4) (q0 := 0) rfl rfl, fun U hU hW => ⟨rfl, by rw [hU], by rw [hU]; exact hPc, va_K.moved hW.alike hKc, hDc.weaken (fun _ _ _ _ => trivial)⟩⟩ rfl rfl hl.1 rfl (lv_room (Nat.le_of_ble_eq_true rfl)) dX4_count_16 ⟨Nat.le_of_ble_eq_true rfl, Nat.le_of_ble_eq_true rfl⟩) hS (fun q _ h => hFc q h) hFc (fun r_2 u t H1 locs ht hvm hw hB hz1 hk1 hS => ?_)
      obtain ⟨hP1, hK1, hD1⟩ := hB
      rw [ht] at hP1
      have hK1 := va_K.moved hvm.symm hK1
      obtain ⟨hP, hD⟩ := va_join (wr := []) (w1 := [(y0, .inr (4, [.int (nI 1), .int (nI N), .int (nI af), .ref s1, .ref s2, .ref s3, .ref s4, .ref s5, .int (nI pl), .int (pm_b go), .int (pm_b qu), .int (nI cy), .int (nI qc), .int (pm_b fr), .int (pm_b wq)])), (s1, .inl (t1, 401, .inl (pm_nf9 sm))), (s2, .inl (t2, 8000, .inl (pm_nf9 gv))), (s3, .inl (t3, 16, .inl (pm_nf9 gr))), (s4, .inl (t4, 400, .inl rc)), (s5, .inl (t5, 400, .inl mq))]) hP hD [0, 1, 2, 3, 4, 5] [] rfl rfl (by decide) (by decide) hk1 hFc hP1 hD1
      clear hPc hDc hKc hFc hP1 hK1 hD1
      generalize H1 = H at hP hS ⊢
      have hP : va_P (dC, dI) vwCl [(y0, .inr (4, [.int (nI 1), .int (nI N), .int (nI af), .ref s1, .ref s2, .ref s3, .ref s4, .ref s5, .int (nI pl), .int (pm_b go), .int (pm_b qu), .int (nI cy), .int (nI qc), .int (pm_b fr), .int (pm_b wq)])), (s1, .inl (t1, 401, .inl (pm_nf9 sm))), (s2, .inl (t2, 8000, .inl (pm_nf9 gv))), (s3, .inl (t3, 16, .inl (pm_nf9 gr))), (s4, .inl (t4, 400, .inl rc)), (s5, .inl (t5, 400, .inl mq))] H := hP.sub [0, 1, 2, 3, 4, 5] rfl
      have hD : va_D A [(y0, .inr (4, [.int (nI 1), .int (nI N), .int (nI af), .ref s1, .ref s2, .ref s3, .ref s4, .ref s5, .int (nI pl), .int (pm_b go), .int (pm_b qu), .int (nI cy), .int (nI qc), .int (pm_b fr), .int (pm_b wq)])), (s1, .inl (t1, 401, .inl (pm_nf9 sm))), (s2, .inl (t2, 8000, .inl (pm_nf9 gv))), (s3, .inl (t3, 16, .inl (pm_nf9 gr))), (s4, .inl (t4, 400, .inl rc)), (s5, .inl (t5, 400, .inl mq))] := hD.sub [0, 1, 2, 3, 4, 5] (by decide) rfl
      obtain rfl : r_2 = nI 0 := hw
      refine lv_if_ne (tgt := 24) hx hb dX4_count_19 (by decide) (fun c_19 => absurd c_19 (by decide +kernel)) (fun c_19 => ?_)
      refine lv_iconst (v := nI 0) hx hb dX4_count_22 (by decide +kernel) ?_
      exact W.iret (v := nI 0) hx hb hr (fun t ht hW => ⟨⟨nI 0, (), rfl, trivial, by rw [ht]; exact hP, va_K.moved hW.alike hK, hD⟩, hS.F ht⟩) hS.2.2 dX4_count_23
    · exact absurd hg (by rw [pm_rng_t (pm_ge0 c_2) (pm_len c_7)]; decide)

set_option maxHeartbeats 4000000 in
set_option maxRecDepth 100000 in
/-- PileMarkerModel() -/
theorem c_Q_init (l : Launch) (dC : Nat → ClassId) (dI : Nat → Nat → Nat) (y0 : Nat) (sz : Nat)  : Met l yX4_init wsX4_init ({ frames := 1, cells := 5, slots := 9217, locals := 12 }) (va_Pc [.ref y0] (fun U => U.heap.size = sz ∧ va_P (dC, dI) vwCl [(y0, .inr (4, [.int 0, .int 0, .int 0, .null, .null, .null, .null, .null, .int 0, .int 0, .int 0, .int 0, .int 0, .int 0, .int 0]))] U.heap ∧ va_K (dC, dI) vwCl [] U ∧ va_D (fun _ => True) [(y0, .inr (4, [.int 0, .int 0, .int 0, .null, .null, .null, .null, .null, .int 0, .int 0, .int 0, .int 0, .int 0, .int 0, .int 0]))])) (va_Qv (fun (_ : Unit) => True) (fun (_ : Unit) (t : State) => ∃ (s1 s2 s3 s4 s5 : Nat) (t1 t2 t3 t4 t5 : ClassId), va_P (dC, dI) vwCl [(y0, .inr (4, [.int (nI 0), .int (nI 0), .int (nI 0), .ref s1, .ref s2, .ref s3, .ref s4, .ref s5, .int (nI 8), .int (pm_b false), .int (pm_b false), .int (nI 0), .int (nI 0), .int (pm_b false), .int (pm_b false)])), (s1, .inl (t1, 401, .inl (pm_nf9 ((fun _ => 0))))), (s2, .inl (t2, 8000, .inl (pm_nf9 ((fun _ => 0))))), (s3, .inl (t3, 16, .inl (pm_nf9 ((fun _ => 0))))), (s4, .inl (t4, 400, .inl (fun _ => 0))), (s5, .inl (t5, 400, .inl (fun _ => 0)))] t.heap ∧ va_K (dC, dI) vwCl [(t1, .int), (t2, .int), (t3, .int), (t4, .boolean), (t5, .boolean)] t ∧ va_D (va_A [(y0, .inr (4, [.int 0, .int 0, .int 0, .null, .null, .null, .null, .null, .int 0, .int 0, .int 0, .int 0, .int 0, .int 0, .int 0]))] sz) [(y0, .inr (4, [.int (nI 0), .int (nI 0), .int (nI 0), .ref s1, .ref s2, .ref s3, .ref s4, .ref s5, .int (nI 8), .int (pm_b false), .int (pm_b false), .int (nI 0), .int (nI 0), .int (pm_b false), .int (pm_b false)])), (s1, .inl (t1, 401, .inl (pm_nf9 ((fun _ => 0))))), (s2, .inl (t2, 8000, .inl (pm_nf9 ((fun _ => 0))))), (s3, .inl (t3, 16, .inl (pm_nf9 ((fun _ => 0))))), (s4, .inl (t4, 400, .inl (fun _ => 0))), (s5, .inl (t5, 400, .inl (fun _ => 0)))]) (va_A [(y0, .inr (4, [.int 0, .int 0, .int 0, .null, .null, .null, .null, .null, .int 0, .int 0, .int 0, .int 0, .int 0, .int 0, .int 0]))] sz)) 5 9217 (va_A [(y0, .inr (4, [.int 0, .int 0, .int 0, .null, .null, .null, .null, .null, .int 0, .int 0, .int 0, .int 0, .int 0, .int 0, .int 0]))] sz) := by
  refine Met.ofW (cc := cX4_init) (maxL := 1) (ret := (none)) (by decide) rfl ?_
  intro p e s m args below meth c s₁ B hml hv
  obtain ⟨rfl, hsz, hP, hK, hD0⟩ := hv
  have hx := B.exec
  have hb := B.bytes
  have hr := B.returns
  have hts : ∀ w ∈ gw, w.before _ s = true := fun w h => atoms_spec (ws := wsX4_init) B.pre w (List.mem_cons_of_mem _ h)
  have hown : s.vm.findClass RX4 = some m.cls := findClass_of_methodNamed B.named
  have hlocks := B.notSynchronized
  have hin : meth.name = "<init>" := (name_of_methodNamed B.named B.method).1
  subst hsz
  have hD := hD0.self (sz := s.heap.size)
  generalize hAe : va_A [(y0, .inr (4, [.int 0, .int 0, .int 0, .null, .null, .null, .null, .null, .int 0, .int 0, .int 0, .int 0, .int 0, .int 0, .int 0]))] s.heap.size = A at hD ⊢
  have hA : ∀ q : Nat, s.heap.size ≤ q → A q := fun q h => by rw [← hAe]; exact Or.inr h
  have hP : va_P (dC, dI) vwCl [(y0, .inr (4, [.int 0, .int 0, .int 0, .null, .null, .null, .null, .null, .int 0, .int 0, .int 0, .int 0, .int 0, .int 0, .int 0]))] s.heap := hP
  have hl := lv_entry ([.ref y0]) (n := 1) (Nat.le_of_ble_eq_true rfl)
  rw [lg_entry_eq]
  generalize (lg_sl ([.ref y0]) ++ List.replicate (1 - (lg_sl ([.ref y0])).length) Slot.unset).toArray = ls at hl ⊢
  have hl : lv_has ls 1 [(0, .ref y0)] := hl
  obtain ⟨H, hH⟩ : ∃ H : Heap, H = s.heap := ⟨_, rfl⟩
  rw [← hH]
  rw [← hH] at hP
  have hS : va_S A s.heap H [] := by rw [hH]; exact va_S.rf
  clear hH
  refine lv_aload_n hx hb dX4_init_0 rfl (lv_at hl 0 rfl) ?_
  refine W.objInit hx hb hown (hts _ ml_X4_1) (hts _ mi_obj) (hts _ mc_obj) rfl (by rw [hml]; exact hl.1) rfl dX4_init_1 (Nat.le_of_ble_eq_true rfl) (Nat.le_of_ble_eq_true rfl) ?_
  refine W.eq (g2 := F0 m 4 ls []) rfl ?_
  refine lv_aload_n hx hb dX4_init_4 rfl (lv_at hl 0 rfl) ?_
  refine lv_sipush (v := nI 401) hx hb dX4_init_5 (by decide +kernel) ?_
  refine va_newa (atype := .int) (ty := .int) (N' := 401) (a0 := (401, .inl (pm_nf9 (fun _ => 0)))) hx hb (hts _ ma_int) rfl hK hP hD hS hA (fun _ => rfl) (nI_pos (by decide)) (nI_clamp (by decide)) (by decide) (Nat.le_of_ble_eq_true rfl) (Nat.le_of_ble_eq_true rfl) dX4_init_8 (fun s1 t1 H hK hP hD hS => ?_)
  have hP : va_P (dC, dI) vwCl [(y0, .inr (4, [.int 0, .int 0, .int 0, .null, .null, .null, .null, .null, .int 0, .int 0, .int 0, .int 0, .int 0, .int 0, .int 0])), (s1, .inl (t1, 401, .inl (pm_nf9 (fun _ => 0))))] H := hP
  have hD : va_D A [(y0, .inr (4, [.int 0, .int 0, .int 0, .null, .null, .null, .null, .null, .int 0, .int 0, .int 0, .int 0, .int 0, .int 0, .int 0])), (s1, .inl (t1, 401, .inl (pm_nf9 (fun _ => 0))))] := hD
  have hK : va_K (dC, dI) vwCl [(t1, .int)] s := hK
  refine W.widen (k := 1) (n := 401) (by omega) (by omega) ?_
  refine va_putF (D := (dC, dI)) (ci := 4) (v := .ref s1) (ty := .array .int) (C := RX4) (T := TX4) (N := 15) hx hb hts iw_X4 tyX4 tyX4_ok nmX4 hown hK hP hD hS 0 rfl rfl 3 (by decide) (hts _ mf_X4_7) (fun _ h9 => h9) rfl hin rfl (by decide +kernel) (rfl) (rfl) (Nat.le_of_ble_eq_true rfl) dX4_init_10 (fun H locs hP hD hS => ?_)
  have hP : va_P (dC, dI) vwCl [(y0, .inr (4, [.int 0, .int 0, .int 0, .ref s1, .null, .null, .null, .null, .int 0, .int 0, .int 0, .int 0, .int 0, .int 0, .int 0])), (s1, .inl (t1, 401, .inl (pm_nf9 (fun _ => 0))))] H := hP
  have hD : va_D A [(y0, .inr (4, [.int 0, .int 0, .int 0, .ref s1, .null, .null, .null, .null, .int 0, .int 0, .int 0, .int 0, .int 0, .int 0, .int 0])), (s1, .inl (t1, 401, .inl (pm_nf9 (fun _ => 0))))] := hD
  refine lv_aload_n hx hb dX4_init_13 rfl (lv_at hl 0 rfl) ?_
  refine lv_sipush (v := nI 8000) hx hb dX4_init_14 (by decide +kernel) ?_
  refine va_newa (atype := .int) (ty := .int) (N' := 8000) (a0 := (8000, .inl (pm_nf9 (fun _ => 0)))) hx hb (hts _ ma_int) rfl hK hP hD hS hA (fun _ => rfl) (nI_pos (by decide)) (nI_clamp (by decide)) (by decide) (Nat.le_of_ble_eq_true rfl) (Nat.le_of_ble_eq_true rfl) dX4_init_17 (fun s2 t2 H hK hP hD hS => ?_)
  have hP : va_P (dC, dI) vwCl [(y0, .inr (4, [.int 0, .int 0, .int 0, .ref s1, .null, .null, .null, .null, .int 0, .int 0, .int 0, .int 0, .int 0, .int 0, .int 0])), (s1, .inl (t1, 401, .inl (pm_nf9 (fun _ => 0)))), (s2, .inl (t2, 8000, .inl (pm_nf9 (fun _ => 0))))] H := hP
  have hD : va_D A [(y0, .inr (4, [.int 0, .int 0, .int 0, .ref s1, .null, .null, .null, .null, .int 0, .int 0, .int 0, .int 0, .int 0, .int 0, .int 0])), (s1, .inl (t1, 401, .inl (pm_nf9 (fun _ => 0)))), (s2, .inl (t2, 8000, .inl (pm_nf9 (fun _ => 0))))] := hD
  have hK : va_K (dC, dI) vwCl [(t1, .int), (t2, .int)] s := hK
  refine W.widen (k := 2) (n := 8401) (by omega) (by omega) ?_
  refine va_putF (D := (dC, dI)) (ci := 4) (v := .ref s2) (ty := .array .int) (C := RX4) (T := TX4) (N := 15) hx hb hts iw_X4 tyX4 tyX4_ok nmX4 hown hK hP hD hS 0 rfl rfl 4 (by decide) (hts _ mf_X4_13) (fun _ h9 => h9) rfl hin rfl (by decide +kernel) (rfl) (rfl) (Nat.le_of_ble_eq_true rfl) dX4_init_19 (fun H locs hP hD hS => ?_)
  have hP : va_P (dC, dI) vwCl [(y0, .inr (4, [.int 0, .int 0, .int 0, .ref s1, .ref s2, .null, .null, .null, .int 0, .int 0, .int 0, .int 0, .int 0, .int 0, .int 0])), (s1, .inl (t1, 401, .inl (pm_nf9 (fun _ => 0)))), (s2, .inl (t2, 8000, .inl (pm_nf9 (fun _ => 0))))] H := hP
  have hD : va_D A [(y0, .inr (4, [.int 0, .int 0, .int 0, .ref s1, .ref s2, .null, .null, .null, .int 0, .int 0, .int 0, .int 0, .int 0, .int 0, .int 0])), (s1, .inl (t1, 401, .inl (pm_nf9 (fun _ => 0)))), (s2, .inl (t2, 8000, .inl (pm_nf9 (fun _ => 0))))] := hD
  refine lv_aload_n hx hb dX4_init_22 rfl (lv_at hl 0 rfl) ?_
  refine lv_bipush (v := nI 16) hx hb dX4_init_23 (by decide +kernel) ?_
  refine va_newa (atype := .int) (ty := .int) (N' := 16) (a0 := (16, .inl (pm_nf9 (fun _ => 0)))) hx hb (hts _ ma_int) rfl hK hP hD hS hA (fun _ => rfl) (nI_pos (by decide)) (nI_clamp (by decide)) (by decide) (Nat.le_of_ble_eq_true rfl) (Nat.le_of_ble_eq_true rfl) dX4_init_25 (fun s3 t3 H hK hP hD hS => ?_)
  have hP : va_P (dC, dI) vwCl [(y0, .inr (4, [.int 0, .int 0, .int 0, .ref s1, .ref s2, .null, .null, .null, .int 0, .int 0, .int 0, .int 0, .int 0, .int 0, .int 0])), (s1, .inl (t1, 401, .inl (pm_nf9 (fun _ => 0)))), (s2, .inl (t2, 8000, .inl (pm_nf9 (fun _ => 0)))), (s3, .inl (t3, 16, .inl (pm_nf9 (fun _ => 0))))] H := hP
  have hD : va_D A [(y0, .inr (4, [.int 0, .int 0, .int 0, .ref s1, .ref s2, .null, .null, .null, .int 0, .int 0, .int 0, .int 0, .int 0, .int 0, .int 0])), (s1, .inl (t1, 401, .inl (pm_nf9 (fun _ => 0)))), (s2, .inl (t2, 8000, .inl (pm_nf9 (fun _ => 0)))), (s3, .inl (t3, 16, .inl (pm_nf9 (fun _ => 0))))] := hD
  have hK : va_K (dC, dI) vwCl [(t1, .int), (t2, .int), (t3, .int)] s := hK
  refine W.widen (k := 3) (n := 8417) (by omega) (by omega) ?_
  refine va_putF (D := (dC, dI)) (ci := 4) (v := .ref s3) (ty := .array .int) (C := RX4) (T := TX4) (N := 15) hx hb hts iw_X4 tyX4 tyX4_ok nmX4 hown hK hP hD hS 0 rfl rfl 5 (by decide) (hts _ mf_X4_16) (fun _ h9 => h9) rfl hin rfl (by decide +kernel) (rfl) (rfl) (Nat.le_of_ble_eq_true rfl) dX4_init_27 (fun H locs hP hD hS => ?_)
  have hP : va_P (dC, dI) vwCl [(y0, .inr (4, [.int 0, .int 0, .int 0, .ref s1, .ref s2, .ref s3, .null, .null, .int 0, .int 0, .int 0, .int 0, .int 0, .int 0, .int 0])), (s1, .inl (t1, 401, .inl (pm_nf9 (fun _ => 0)))), (s2, .inl (t2, 8000, .inl (pm_nf9 (fun _ => 0)))), (s3, .inl (t3, 16, .inl (pm_nf9 (fun _ => 0))))] H := hP
  have hD : va_D A [(y0, .inr (4, [.int 0, .int 0, .int 0, .ref s1, .ref s2, .ref s3, .null, .null, .int 0, .int 0, .int 0, .int 0, .int 0, .int 0, .int 0])), (s1, .inl (t1, 401, .inl (pm_nf9 (fun _ => 0)))), (s2, .inl (t2, 8000, .inl (pm_nf9 (fun _ => 0)))), (s3, .inl (t3, 16, .inl (pm_nf9 (fun _ => 0))))] := hD
  refine lv_aload_n hx hb dX4_init_30 rfl (lv_at hl 0 rfl) ?_
  refine lv_sipush (v := nI 400) hx hb dX4_init_31 (by decide +kernel) ?_
  refine va_newa (atype := .boolean) (ty := .boolean) (N' := 400) (a0 := (400, .inl (fun _ => 0))) hx hb (hts _ ma_boolean) rfl hK hP hD hS hA (fun _ => rfl) (nI_pos (by decide)) (nI_clamp (by decide)) (by decide) (Nat.le_of_ble_eq_true rfl) (Nat.le_of_ble_eq_true rfl) dX4_init_34 (fun s4 t4 H hK hP hD hS => ?_)
  have hP : va_P (dC, dI) vwCl [(y0, .inr (4, [.int 0, .int 0, .int 0, .ref s1, .ref s2, .ref s3, .null, .null, .int 0, .int 0, .int 0, .int 0, .int 0, .int 0, .int 0])), (s1, .inl (t1, 401, .inl (pm_nf9 (fun _ => 0)))), (s2, .inl (t2, 8000, .inl (pm_nf9 (fun _ => 0)))), (s3, .inl (t3, 16, .inl (pm_nf9 (fun _ => 0)))), (s4, .inl (t4, 400, .inl (fun _ => 0)))] H := hP
  have hD : va_D A [(y0, .inr (4, [.int 0, .int 0, .int 0, .ref s1, .ref s2, .ref s3, .null, .null, .int 0, .int 0, .int 0, .int 0, .int 0, .int 0, .int 0])), (s1, .inl (t1, 401, .inl (pm_nf9 (fun _ => 0)))), (s2, .inl (t2, 8000, .inl (pm_nf9 (fun _ => 0)))), (s3, .inl (t3, 16, .inl (pm_nf9 (fun _ => 0)))), (s4, .inl (t4, 400, .inl (fun _ => 0)))] := hD
  have hK : va_K (dC, dI) vwCl [(t1, .int), (t2, .int), (t3, .int), (t4, .boolean)] s := hK
  refine W.widen (k := 4) (n := 8817) (by omega) (by omega) ?_
  refine va_putF (D := (dC, dI)) (ci := 4) (v := .ref s4) (ty := .array .boolean) (C := RX4) (T := TX4) (N := 15) hx hb hts iw_X4 tyX4 tyX4_ok nmX4 hown hK hP hD hS 0 rfl rfl 6 (by decide) (hts _ mf_X4_19) (fun _ h9 => h9) rfl hin rfl (by decide +kernel) (rfl) (rfl) (Nat.le_of_ble_eq_true rfl) dX4_init_36 (fun H locs hP hD hS => ?_)
  have hP : va_P (dC, dI) vwCl [(y0, .inr (4, [.int 0, .int 0, .int 0, .ref s1, .ref s2, .ref s3, .ref s4, .null, .int 0, .int 0, .int 0, .int 0, .int 0, .int 0, .int 0])), (s1, .inl (t1, 401, .inl (pm_nf9 (fun _ => 0)))), (s2, .inl (t2, 8000, .inl (pm_nf9 (fun _ => 0)))), (s3, .inl (t3, 16, .inl (pm_nf9 (fun _ => 0)))), (s4, .inl (t4, 400, .inl (fun _ => 0)))] H := hP
  have hD : va_D A [(y0, .inr (4, [.int 0, .int 0, .int 0, .ref s1, .ref s2, .ref s3, .ref s4, .null, .int 0, .int 0, .int 0, .int 0, .int 0, .int 0, .int 0])), (s1, .inl (t1, 401, .inl (pm_nf9 (fun _ => 0)))), (s2, .inl (t2, 8000, .inl (pm_nf9 (fun _ => 0)))), (s3, .inl (t3, 16, .inl (pm_nf9 (fun _ => 0)))), (s4, .inl (t4, 400, .inl (fun _ => 0)))] := hD
  refine lv_aload_n hx hb dX4_init_39 rfl (lv_at hl 0 rfl) ?_
  refine lv_sipush (v := nI 400) hx hb dX4_init_40 (by decide +kernel) ?_
  refine va_newa (atype := .boolean) (ty := .boolean) (N' := 400) (a0 := (400, .inl (fun _ => 0))) hx hb (hts _ ma_boolean) rfl hK hP hD hS hA (fun _ => rfl) (nI_pos (by decide)) (nI_clamp (by decide)) (by decide) (Nat.le_of_ble_eq_true rfl) (Nat.le_of_ble_eq_true rfl) dX4_init_43 (fun s5 t5 H hK hP hD hS => ?_)
  have hP : va_P (dC, dI) vwCl [(y0, .inr (4, [.int 0, .int 0, .int 0, .ref s1, .ref s2, .ref s3, .ref s4, .null, .int 0, .int 0, .int 0, .int 0, .int 0, .int 0, .int 0])), (s1, .inl (t1, 401, .inl (pm_nf9 (fun _ => 0)))), (s2, .inl (t2, 8000, .inl (pm_nf9 (fun _ => 0)))), (s3, .inl (t3, 16, .inl (pm_nf9 (fun _ => 0)))), (s4, .inl (t4, 400, .inl (fun _ => 0))), (s5, .inl (t5, 400, .inl (fun _ => 0)))] H := hP
  have hD : va_D A [(y0, .inr (4, [.int 0, .int 0, .int 0, .ref s1, .ref s2, .ref s3, .ref s4, .null, .int 0, .int 0, .int 0, .int 0, .int 0, .int 0, .int 0])), (s1, .inl (t1, 401, .inl (pm_nf9 (fun _ => 0)))), (s2, .inl (t2, 8000, .inl (pm_nf9 (fun _ => 0)))), (s3, .inl (t3, 16, .inl (pm_nf9 (fun _ => 0)))), (s4, .inl (t4, 400, .inl (fun _ => 0))), (s5, .inl (t5, 400, .inl (fun _ => 0)))] := hD
  have hK : va_K (dC, dI) vwCl [(t1, .int), (t2, .int), (t3, .int), (t4, .boolean), (t5, .boolean)] s := hK
  refine W.widen (k := 5) (n := 9217) (by omega) (by omega) ?_
  refine va_putF (D := (dC, dI)) (ci := 4) (v := .ref s5) (ty := .array .boolean) (C := RX4) (T := TX4) (N := 15) hx hb hts iw_X4 tyX4 tyX4_ok nmX4 hown hK hP hD hS 0 rfl rfl 7 (by decide) (hts _ mf_X4_23) (fun _ h9 => h9) rfl hin rfl (by decide +kernel) (rfl) (rfl) (Nat.le_of_ble_eq_true rfl) dX4_init_45 (fun H locs hP hD hS => ?_)
  have hP : va_P (dC, dI) vwCl [(y0, .inr (4, [.int 0, .int 0, .int 0, .ref s1, .ref s2, .ref s3, .ref s4, .ref s5, .int 0, .int 0, .int 0, .int 0, .int 0, .int 0, .int 0])), (s1, .inl (t1, 401, .inl (pm_nf9 (fun _ => 0)))), (s2, .inl (t2, 8000, .inl (pm_nf9 (fun _ => 0)))), (s3, .inl (t3, 16, .inl (pm_nf9 (fun _ => 0)))), (s4, .inl (t4, 400, .inl (fun _ => 0))), (s5, .inl (t5, 400, .inl (fun _ => 0)))] H := hP
  have hD : va_D A [(y0, .inr (4, [.int 0, .int 0, .int 0, .ref s1, .ref s2, .ref s3, .ref s4, .ref s5, .int 0, .int 0, .int 0, .int 0, .int 0, .int 0, .int 0])), (s1, .inl (t1, 401, .inl (pm_nf9 (fun _ => 0)))), (s2, .inl (t2, 8000, .inl (pm_nf9 (fun _ => 0)))), (s3, .inl (t3, 16, .inl (pm_nf9 (fun _ => 0)))), (s4, .inl (t4, 400, .inl (fun _ => 0))), (s5, .inl (t5, 400, .inl (fun _ => 0)))] := hD
  refine lv_aload_n hx hb dX4_init_48 rfl (lv_at hl 0 rfl) ?_
  refine lv_bipush (v := nI 8) hx hb dX4_init_49 (by decide +kernel) ?_
  refine va_put (D := (dC, dI)) (ci := 4) (v := .int (nI 8)) (ty := .int) (C := RX4) (T := TX4) (N := 15) hx hb hts iw_X4 tyX4 tyX4_ok nmX4 hown hK hP hD hS 0 rfl rfl 8 (by decide) (hts _ mf_X4_26) (fun _ h9 => h9) rfl (by decide +kernel) (rfl) (rfl) (Nat.le_of_ble_eq_true rfl) dX4_init_51 (fun H locs hP hD hS => ?_)
  have hP : va_P (dC, dI) vwCl [(y0, .inr (4, [.int 0, .int 0, .int 0, .ref s1, .ref s2, .ref s3, .ref s4, .ref s5, .int (nI 8), .int 0, .int 0, .int 0, .int 0, .int 0, .int 0])), (s1, .inl (t1, 401, .inl (pm_nf9 (fun _ => 0)))), (s2, .inl (t2, 8000, .inl (pm_nf9 (fun _ => 0)))), (s3, .inl (t3, 16, .inl (pm_nf9 (fun _ => 0)))), (s4, .inl (t4, 400, .inl (fun _ => 0))), (s5, .inl (t5, 400, .inl (fun _ => 0)))] H := hP
  have hD : va_D A [(y0, .inr (4, [.int 0, .int 0, .int 0, .ref s1, .ref s2, .ref s3, .ref s4, .ref s5, .int (nI 8), .int 0, .int 0, .int 0, .int 0, .int 0, .int 0])), (s1, .inl (t1, 401, .inl (pm_nf9 (fun _ => 0)))), (s2, .inl (t2, 8000, .inl (pm_nf9 (fun _ => 0)))), (s3, .inl (t3, 16, .inl (pm_nf9 (fun _ => 0)))), (s4, .inl (t4, 400, .inl (fun _ => 0))), (s5, .inl (t5, 400, .inl (fun _ => 0)))] := hD
  exact W.vret hx hb hr (fun t ht hW => ⟨⟨(), rfl, trivial, s1, s2, s3, s4, s5, t1, t2, t3, t4, t5, by rw [ht]; exact hP, va_K.moved hW.alike hK, hD⟩, hS.F ht⟩) hS.2.2 dX4_init_54
