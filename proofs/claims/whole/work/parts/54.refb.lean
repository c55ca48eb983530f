set_option maxHeartbeats 4000000 in
set_option maxRecDepth 100000 in
/-- make: made -/
theorem c_Q_make_ok (l : Launch) (dC : Nat → ClassId) (dI : Nat → Nat → Nat) (y0 s1 s2 s3 s4 s5 : Nat) (t1 t2 t3 t4 t5 : ClassId) (th N af : Nat) (sm gv gr : Nat → Nat) (rc mq : Nat → Int32) (pl : Nat) (go qu : Bool) (cy qc : Nat) (fr wq : Bool) (F : Nat) (sz : Nat) (hM : pq_MO N sm gv gr af) (hF : F ≤ 20) (hN4 : N < 400) : Met l yX4_make wsX4_make ({ frames := 1, cells := 0, slots := 0, locals := 22 }) (va_Pc [.ref y0, .int (nI F)] (fun U => U.heap.size = sz ∧ va_P (dC, dI) vwCl [(y0, .inr (4, [.int (nI th), .int (nI N), .int (nI af), .ref s1, .ref s2, .ref s3, .ref s4, .ref s5, .int (nI pl), .int (pm_b go), .int (pm_b qu), .int (nI cy), .int (nI qc), .int (pm_b fr), .int (pm_b wq)])), (s1, .inl (t1, 401, .inl (pm_nf9 sm))), (s2, .inl (t2, 8000, .inl (pm_nf9 gv))), (s3, .inl (t3, 16, .inl (pm_nf9 gr))), (s4, .inl (t4, 400, .inl rc)), (s5, .inl (t5, 400, .inl mq))] U.heap ∧ va_K (dC, dI) vwCl [(t1, .int), (t2, .int), (t3, .int), (t4, .boolean), (t5, .boolean)] U ∧ va_D (fun _ => True) [(y0, .inr (4, [.int (nI th), .int (nI N), .int (nI af), .ref s1, .ref s2, .ref s3, .ref s4, .ref s5, .int (nI pl), .int (pm_b go), .int (pm_b qu), .int (nI cy), .int (nI qc), .int (pm_b fr), .int (pm_b wq)])), (s1, .inl (t1, 401, .inl (pm_nf9 sm))), (s2, .inl (t2, 8000, .inl (pm_nf9 gv))), (s3, .inl (t3, 16, .inl (pm_nf9 gr))), (s4, .inl (t4, 400, .inl rc)), (s5, .inl (t5, 400, .inl mq))])) (va_Qi (fun (r : Int32) (_ : Unit) => r = nI N) (fun (_ : Unit) (t : State) => va_P (dC, dI) vwCl [(y0, .inr (4, [.int (nI 0), .int (nI ((N + 1))), .int (nI ((af + F))), .ref s1, .ref s2, .ref s3, .ref s4, .ref s5, .int (nI pl), .int (pm_b go), .int (pm_b false), .int (nI cy), .int (nI qc), .int (pm_b false), .int (pm_b wq)])), (s1, .inl (t1, 401, .inl (pm_nf9 ((pm_un sm (N + 1) (af + F)))))), (s2, .inl (t2, 8000, .inl (pm_nf9 gv))), (s3, .inl (t3, 16, .inl (pm_nf9 gr))), (s4, .inl (t4, 400, .inl rc)), (s5, .inl (t5, 400, .inl mq))] t.heap ∧ va_K (dC, dI) vwCl [(t1, .int), (t2, .int), (t3, .int), (t4, .boolean), (t5, .boolean)] t ∧ va_D (va_A [(y0, .inr (4, [.int (nI th), .int (nI N), .int (nI af), .ref s1, .ref s2, .ref s3, .ref s4, .ref s5, .int (nI pl), .int (pm_b go), .int (pm_b qu), .int (nI cy), .int (nI qc), .int (pm_b fr), .int (pm_b wq)])), (s1, .inl (t1, 401, .inl (pm_nf9 sm))), (s2, .inl (t2, 8000, .inl (pm_nf9 gv))), (s3, .inl (t3, 16, .inl (pm_nf9 gr))), (s4, .inl (t4, 400, .inl rc)), (s5, .inl (t5, 400, .inl mq))] sz) [(y0, .inr (4, [.int (nI 0), .int (nI ((N + 1))), .int (nI ((af + F))), .ref s1, .ref s2, .ref s3, .ref s4, .ref s5, .int (nI pl), .int (pm_b go), .int (pm_b false), .int (nI cy), .int (nI qc), .int (pm_b false), .int (pm_b wq)])), (s1, .inl (t1, 401, .inl (pm_nf9 ((pm_un sm (N + 1) (af + F)))))), (s2, .inl (t2, 8000, .inl (pm_nf9 gv))), (s3, .inl (t3, 16, .inl (pm_nf9 gr))), (s4, .inl (t4, 400, .inl rc)), (s5, .inl (t5, 400, .inl mq))]) (va_A [(y0, .inr (4, [.int (nI th), .int (nI N), .int (nI af), .ref s1, .ref s2, .ref s3, .ref s4, .ref s5, .int (nI pl), .int (pm_b go), .int (pm_b qu), .int (nI cy), .int (nI qc), .int (pm_b fr), .int (pm_b wq)])), (s1, .inl (t1, 401, .inl (pm_nf9 sm))), (s2, .inl (t2, 8000, .inl (pm_nf9 gv))), (s3, .inl (t3, 16, .inl (pm_nf9 gr))), (s4, .inl (t4, 400, .inl rc)), (s5, .inl (t5, 400, .inl mq))] sz)) 0 0 (va_A [(y0, .inr (4, [.int (nI th), .int (nI N), .int (nI af), .ref s1, .ref s2, .ref s3, .ref s4, .ref s5, .int (nI pl), .int (pm_b go), .int (pm_b qu), .int (nI cy), .int (nI qc), .int (pm_b fr), .int (pm_b wq)])), (s1, .inl (t1, 401, .inl (pm_nf9 sm))), (s2, .inl (t2, 8000, .inl (pm_nf9 gv))), (s3, .inl (t3, 16, .inl (pm_nf9 gr))), (s4, .inl (t4, 400, .inl rc)), (s5, .inl (t5, 400, .inl mq))] sz) := by
  refine Met.ofW (cc := cX4_make) (maxL := 2) (ret := (some .int)) (by decide) rfl ?_
  intro p e s m args below meth c s₁ B hml hv
  obtain ⟨rfl, hsz, hP, hK, hD0⟩ := hv
  have hx := B.exec
  have hb := B.bytes
  have hr := B.returns
  have hts : ∀ w ∈ gw, w.before _ s = true := fun w h => atoms_spec (ws := wsX4_make) B.pre w (List.mem_cons_of_mem _ h)
  have hown : s.vm.findClass RX4 = some m.cls := findClass_of_methodNamed B.named
  have hlocks := B.notSynchronized
  subst hsz
  have hD := hD0.self (sz := s.heap.size)
  generalize hAe : va_A [(y0, .inr (4, [.int (nI th), .int (nI N), .int (nI af), .ref s1, .ref s2, .ref s3, .ref s4, .ref s5, .int (nI pl), .int (pm_b go), .int (pm_b qu), .int (nI cy), .int (nI qc), .int (pm_b fr), .int (pm_b wq)])), (s1, .inl (t1, 401, .inl (pm_nf9 sm))), (s2, .inl (t2, 8000, .inl (pm_nf9 gv))), (s3, .inl (t3, 16, .inl (pm_nf9 gr))), (s4, .inl (t4, 400, .inl rc)), (s5, .inl (t5, 400, .inl mq))] s.heap.size = A at hD ⊢
  have hA : ∀ q : Nat, s.heap.size ≤ q → A q := fun q h => by rw [← hAe]; exact Or.inr h
  have hP : va_P (dC, dI) vwCl [(y0, .inr (4, [.int (nI th), .int (nI N), .int (nI af), .ref s1, .ref s2, .ref s3, .ref s4, .ref s5, .int (nI pl), .int (pm_b go), .int (pm_b qu), .int (nI cy), .int (nI qc), .int (pm_b fr), .int (pm_b wq)])), (s1, .inl (t1, 401, .inl (pm_nf9 sm))), (s2, .inl (t2, 8000, .inl (pm_nf9 gv))), (s3, .inl (t3, 16, .inl (pm_nf9 gr))), (s4, .inl (t4, 400, .inl rc)), (s5, .inl (t5, 400, .inl mq))] s.heap := hP
  have hl := lv_entry ([.ref y0, .int (nI F)]) (n := 2) (Nat.le_of_ble_eq_true rfl)
  rw [lg_entry_eq]
  generalize (lg_sl ([.ref y0, .int (nI F)]) ++ List.replicate (2 - (lg_sl ([.ref y0, .int (nI F)])).length) Slot.unset).toArray = ls at hl ⊢
  have hl : lv_has ls 2 [(0, .ref y0), (1, .int (nI F))] := hl
  obtain ⟨H, hH⟩ : ∃ H : Heap, H = s.heap := ⟨_, rfl⟩
  rw [← hH]
  rw [← hH] at hP
  have hS : va_S A s.heap H [] := by rw [hH]; exact va_S.rf
  clear hH
  have hN := hM.1
  refine lv_aload_n hx hb dX4_make_0 rfl (lv_at hl 0 rfl) ?_
  refine lv_iload_n hx hb dX4_make_1 rfl (lv_at hl 1 rfl) ?_
  refine lv_if_lt (tgt := 15) hx hb dX4_make_2 (by decide) (fun c_2 => absurd c_2 (nI_pos (by omega))) (fun c_2 => ?_)
  refine lv_iload_n hx hb dX4_make_5 rfl (lv_at hl 1 rfl) ?_
  refine lv_bipush (v := nI 20) hx hb dX4_make_6 (by decide +kernel) ?_
  refine lv_icmp_gt (tgt := 15) hx hb dX4_make_8 (by decide) (fun c_8 => absurd c_8 (nI_nlt (by omega) (by omega))) (fun c_8 => ?_)
  refine lv_iconst (v := nI 1) hx hb dX4_make_11 (by decide +kernel) ?_
  refine lv_goto (tgt := 16) hx hb dX4_make_12 (by decide) ?_
  refine lv_aload_n hx hb dX4_make_16 rfl (lv_at hl 0 rfl) ?_
  refine va_get (D := (dC, dI)) (ci := 4) (v := .int (nI N)) (C := RX4) (T := TX4) (N := 15) hx hb hts iw_X4 hown hK hP 0 rfl rfl 1 (by decide) (hts _ mf_X4_33) (fun _ h9 => h9) rfl dX4_make_17 ?_
  refine lv_sipush (v := nI 400) hx hb dX4_make_20 (by decide +kernel) ?_
  refine lv_icmp_ge (tgt := 30) hx hb dX4_make_23 (by decide) (fun c_23 => absurd c_23 (nI_ge (by omega) (by omega))) (fun c_23 => ?_)
  refine lv_iconst (v := nI 1) hx hb dX4_make_26 (by decide +kernel) ?_
  refine lv_goto (tgt := 31) hx hb dX4_make_27 (by decide) ?_
  have hPc := hP.sub (ws' := [(y0, .inr (4, [.int (nI th), .int (nI N), .int (nI af), .ref s1, .ref s2, .ref s3, .ref s4, .ref s5, .int (nI pl), .int (pm_b go), .int (pm_b qu), .int (nI cy), .int (nI qc), .int (pm_b fr), .int (pm_b wq)])), (s1, .inl (t1, 401, .inl (pm_nf9 sm))), (s2, .inl (t2, 8000, .inl (pm_nf9 gv))), (s3, .inl (t3, 16, .inl (pm_nf9 gr))), (s4, .inl (t4, 400, .inl rc)), (s5, .inl (t5, 400, .inl mq))]) [0, 1, 2, 3, 4, 5] rfl
  have hDc := hD.sub (ws' := [(y0, .inr (4, [.int (nI th), .int (nI N), .int (nI af), .ref s1, .ref s2, .ref s3, .ref s4, .ref s5, .int (nI pl), .int (pm_b go), .int (pm_b qu), .int (nI cy), .int (nI qc), .int (pm_b fr), .int (pm_b wq)])), (s1, .inl (t1, 401, .inl (pm_nf9 sm))), (s2, .inl (t2, 8000, .inl (pm_nf9 gv))), (s3, .inl (t3, 16, .inl (pm_nf9 gr))), (s4, .inl (t4, 400, .inl rc)), (s5, .inl (t5, 400, .inl mq))]) [0, 1, 2, 3, 4, 5] (by decide) rfl
  have hKc := hK.sub (tys' := [(t1, .int), (t2, .int), (t3, .int), (t4, .boolean), (t5, .boolean)]) [0, 1, 2, 3, 4] rfl
  have hFc := va_free (wc := [(y0, .inr (4, [.int (nI th), .int (nI N), .int (nI af), .ref s1, .ref s2, .ref s3, .ref s4, .ref s5, .int (nI pl), .int (pm_b go), .int (pm_b qu), .int (nI cy), .int (nI qc), .int (pm_b fr), .int (pm_b wq)])), (s1, .inl (t1, 401, .inl (pm_nf9 sm))), (s2, .inl (t2, 8000, .inl (pm_nf9 gv))), (s3, .inl (t3, 16, .inl (pm_nf9 gr))), (s4, .inl (t4, 400, .inl rc)), (s5, .inl (t5, 400, .inl mq))]) hD hS hA [0, 1, 2, 3, 4, 5] rfl
  refine va_calli (va_runV (As := [.int (nI 1), .int (nI 1)]) (rest := []) ⟨hx, hb, hml, hown, hts⟩ (c_Q_goes l dC dI y0 s1 s2 s3 s4 s5 t1 t2 t3 t4 t5 th N af sm gv gr rc mq pl go qu cy qc fr wq true true H.size) (cwV 2 hts (gw_V ml_X4_47 mi_X4_goes ms_X4_goes mn_X4 mc_X4_goes) rfl rfl rfl (by decide +kernel) ⟨Nat.le_of_ble_eq_true rfl, Nat.le_of_ble_eq_true rfl⟩) ⟨fun a U g mk q => by obtain ⟨q0, q1, qP, qK, qD⟩ := q; exact ⟨q0, q1, qP, va_K.moved (u := U) (U := U.calling g mk a) (Vm.Alike.refl U.vm) qK, qD⟩, va_recv hKc hPc (ci := 4) (q0 := 0) rfl rfl, fun U hU hW => ⟨rfl, by rw [hU], by rw [hU]; exact hPc, va_K.moved hW.alike hKc, hDc.weaken (fun _ _ _ _ => trivial)⟩⟩ rfl rfl hl.1 rfl (lv_room (Nat.le_of_ble_eq_true rfl)) dX4_make_31 ⟨Nat.le_of_ble_eq_true rfl, Nat.le_of_ble_eq_true rfl⟩) hS (fun q _ h => hFc q h) hFc (fun r_1 u t H1 locs ht hvm hw hB hz1 hk1 hS => ?_)
  obtain ⟨hP1, hK1, hD1⟩ := hB
  rw [ht] at hP1
  have hK1 := va_K.moved hvm.symm hK1
  obtain ⟨hP, hD⟩ := va_join (wr := []) (w1 := [(y0, .inr (4, [.int (nI 0), .int (nI N), .int (nI af), .ref s1, .ref s2, .ref s3, .ref s4, .ref s5, .int (nI pl), .int (pm_b go), .int (pm_b qu), .int (nI cy), .int (nI qc), .int (pm_b fr), .int (pm_b wq)])), (s1, .inl (t1, 401, .inl (pm_nf9 sm))), (s2, .inl (t2, 8000, .inl (pm_nf9 gv))), (s3, .inl (t3, 16, .inl (pm_nf9 gr))), (s4, .inl (t4, 400, .inl rc)), (s5, .inl (t5, 400, .inl mq))]) hP hD [0, 1, 2, 3, 4, 5] [] rfl rfl (by decide) (by decide) hk1 hFc hP1 hD1
  clear hPc hDc hKc hFc hP1 hK1 hD1
  generalize H1 = H at hP hS ⊢
  have hP : va_P (dC, dI) vwCl [(y0, .inr (4, [.int (nI 0), .int (nI N), .int (nI af), .ref s1, .ref s2, .ref s3, .ref s4, .ref s5, .int (nI pl), .int (pm_b go), .int (pm_b qu), .int (nI cy), .int (nI qc), .int (pm_b fr), .int (pm_b wq)])), (s1, .inl (t1, 401, .inl (pm_nf9 sm))), (s2, .inl (t2, 8000, .inl (pm_nf9 gv))), (s3, .inl (t3, 16, .inl (pm_nf9 gr))), (s4, .inl (t4, 400, .inl rc)), (s5, .inl (t5, 400, .inl mq))] H := hP.sub [0, 1, 2, 3, 4, 5] rfl
  have hD : va_D A [(y0, .inr (4, [.int (nI 0), .int (nI N), .int (nI af), .ref s1, .ref s2, .ref s3, .ref s4, .ref s5, .int (nI pl), .int (pm_b go), .int (pm_b qu), .int (nI cy), .int (nI qc), .int (pm_b fr), .int (pm_b wq)])), (s1, .inl (t1, 401, .inl (pm_nf9 sm))), (s2, .inl (t2, 8000, .inl (pm_nf9 gv))), (s3, .inl (t3, 16, .inl (pm_nf9 gr))), (s4, .inl (t4, 400, .inl rc)), (s5, .inl (t5, 400, .inl mq))] := hD.sub [0, 1, 2, 3, 4, 5] (by decide) rfl
  obtain rfl : r_1 = nI 1 := hw
  refine lv_if_ne (tgt := 39) hx hb dX4_make_34 (by decide) (fun c_34 => ?_) (fun c_34 => absurd c_34 (by decide +kernel))
  refine lv_aload_n hx hb dX4_make_39 rfl (lv_at hl 0 rfl) ?_
  refine lv_aload_n hx hb dX4_make_40 rfl (lv_at hl 0 rfl) ?_
  refine va_get (D := (dC, dI)) (ci := 4) (v := .int (nI af)) (C := RX4) (T := TX4) (N := 15) hx hb hts iw_X4 hown hK hP 0 rfl rfl 2 (by decide) (hts _ mf_X4_51) (fun _ h9 => h9) rfl dX4_make_41 ?_
  refine lv_iload_n hx hb dX4_make_44 rfl (lv_at hl 1 rfl) ?_
  refine lv_iadd hx hb dX4_make_45 ?_
  refine lv_topi (fun x_2 ex_2 => ?_)
  obtain rfl : x_2 = nI (af + F) := ex_2.trans (nI_add _ _)
  refine va_put (D := (dC, dI)) (ci := 4) (v := .int (nI (af + F))) (ty := .int) (C := RX4) (T := TX4) (N := 15) hx hb hts iw_X4 tyX4 tyX4_ok nmX4 hown hK hP hD hS 0 rfl rfl 2 (by decide) (hts _ mf_X4_51) (fun _ h9 => h9) rfl (by decide +kernel) (rfl) (rfl) (Nat.le_of_ble_eq_true rfl) dX4_make_46 (fun H locs hP hD hS => ?_)
  have hP : va_P (dC, dI) vwCl [(y0, .inr (4, [.int (nI 0), .int (nI N), .int (nI (af + F)), .ref s1, .ref s2, .ref s3, .ref s4, .ref s5, .int (nI pl), .int (pm_b go), .int (pm_b qu), .int (nI cy), .int (nI qc), .int (pm_b fr), .int (pm_b wq)])), (s1, .inl (t1, 401, .inl (pm_nf9 sm))), (s2, .inl (t2, 8000, .inl (pm_nf9 gv))), (s3, .inl (t3, 16, .inl (pm_nf9 gr))), (s4, .inl (t4, 400, .inl rc)), (s5, .inl (t5, 400, .inl mq))] H := hP
  have hD : va_D A [(y0, .inr (4, [.int (nI 0), .int (nI N), .int (nI (af + F)), .ref s1, .ref s2, .ref s3, .ref s4, .ref s5, .int (nI pl), .int (pm_b go), .int (pm_b qu), .int (nI cy), .int (nI qc), .int (pm_b fr), .int (pm_b wq)])), (s1, .inl (t1, 401, .inl (pm_nf9 sm))), (s2, .inl (t2, 8000, .inl (pm_nf9 gv))), (s3, .inl (t3, 16, .inl (pm_nf9 gr))), (s4, .inl (t4, 400, .inl rc)), (s5, .inl (t5, 400, .inl mq))] := hD
  refine lv_aload_n hx hb dX4_make_49 rfl (lv_at hl 0 rfl) ?_
  refine lv_dup hx hb dX4_make_50 rfl ?_
  refine va_get (D := (dC, dI)) (ci := 4) (v := .int (nI N)) (C := RX4) (T := TX4) (N := 15) hx hb hts iw_X4 hown hK hP 0 rfl rfl 1 (by decide) (hts _ mf_X4_33) (fun _ h9 => h9) rfl dX4_make_51 ?_
  refine lv_iconst (v := nI 1) hx hb dX4_make_54 (by decide +kernel) ?_
  refine lv_iadd hx hb dX4_make_55 ?_
  refine lv_topi (fun x_3 ex_3 => ?_)
  obtain rfl : x_3 = nI (N + 1) := ex_3.trans (nI_add _ _)
  refine va_put (D := (dC, dI)) (ci := 4) (v := .int (nI (N + 1))) (ty := .int) (C := RX4) (T := TX4) (N := 15) hx hb hts iw_X4 tyX4 tyX4_ok nmX4 hown hK hP hD hS 0 rfl rfl 1 (by decide) (hts _ mf_X4_33) (fun _ h9 => h9) rfl (by decide +kernel) (rfl) (rfl) (Nat.le_of_ble_eq_true rfl) dX4_make_56 (fun H locs hP hD hS => ?_)
  have hP : va_P (dC, dI) vwCl [(y0, .inr (4, [.int (nI 0), .int (nI (N + 1)), .int (nI (af + F)), .ref s1, .ref s2, .ref s3, .ref s4, .ref s5, .int (nI pl), .int (pm_b go), .int (pm_b qu), .int (nI cy), .int (nI qc), .int (pm_b fr), .int (pm_b wq)])), (s1, .inl (t1, 401, .inl (pm_nf9 sm))), (s2, .inl (t2, 8000, .inl (pm_nf9 gv))), (s3, .inl (t3, 16, .inl (pm_nf9 gr))), (s4, .inl (t4, 400, .inl rc)), (s5, .inl (t5, 400, .inl mq))] H := hP
  have hD : va_D A [(y0, .inr (4, [.int (nI 0), .int (nI (N + 1)), .int (nI (af + F)), .ref s1, .ref s2, .ref s3, .ref s4, .ref s5, .int (nI pl), .int (pm_b go), .int (pm_b qu), .int (nI cy), .int (nI qc), .int (pm_b fr), .int (pm_b wq)])), (s1, .inl (t1, 401, .inl (pm_nf9 sm))), (s2, .inl (t2, 8000, .inl (pm_nf9 gv))), (s3, .inl (t3, 16, .inl (pm_nf9 gr))), (s4, .inl (t4, 400, .inl rc)), (s5, .inl (t5, 400, .inl mq))] := hD
  refine lv_aload_n hx hb dX4_make_59 rfl (lv_at hl 0 rfl) ?_
  refine va_get (D := (dC, dI)) (ci := 4) (v := .ref s1) (C := RX4) (T := TX4) (N := 15) hx hb hts iw_X4 hown hK hP 0 rfl rfl 3 (by decide) (hts _ mf_X4_7) (fun _ h9 => h9) rfl dX4_make_60 ?_
  refine lv_aload_n hx hb dX4_make_63 rfl (lv_at hl 0 rfl) ?_
  refine va_get (D := (dC, dI)) (ci := 4) (v := .int (nI (N + 1))) (C := RX4) (T := TX4) (N := 15) hx hb hts iw_X4 hown hK hP 0 rfl rfl 1 (by decide) (hts _ mf_X4_33) (fun _ h9 => h9) rfl dX4_make_64 ?_
  refine lv_aload_n hx hb dX4_make_67 rfl (lv_at hl 0 rfl) ?_
  refine va_get (D := (dC, dI)) (ci := 4) (v := .int (nI (af + F))) (C := RX4) (T := TX4) (N := 15) hx hb hts iw_X4 hown hK hP 0 rfl rfl 2 (by decide) (hts _ mf_X4_51) (fun _ h9 => h9) rfl dX4_make_68 ?_
  refine va_iast hx hb hK hP hD hS 1 0 rfl rfl (vp_in_nI (by omega) (by omega)) dX4_make_71 (fun H locs hP hD hS => ?_)
  rw [nI_clamp (by omega)] at hP hD
  have hP : va_P (dC, dI) vwCl [(y0, .inr (4, [.int (nI 0), .int (nI (N + 1)), .int (nI (af + F)), .ref s1, .ref s2, .ref s3, .ref s4, .ref s5, .int (nI pl), .int (pm_b go), .int (pm_b qu), .int (nI cy), .int (nI qc), .int (pm_b fr), .int (pm_b wq)])), (s1, .inl (t1, 401, .inl (upd (pm_nf9 sm) ((N + 1)) (nI (af + F))))), (s2, .inl (t2, 8000, .inl (pm_nf9 gv))), (s3, .inl (t3, 16, .inl (pm_nf9 gr))), (s4, .inl (t4, 400, .inl rc)), (s5, .inl (t5, 400, .inl mq))] H := hP
  have hD : va_D A [(y0, .inr (4, [.int (nI 0), .int (nI (N + 1)), .int (nI (af + F)), .ref s1, .ref s2, .ref s3, .ref s4, .ref s5, .int (nI pl), .int (pm_b go), .int (pm_b qu), .int (nI cy), .int (nI qc), .int (pm_b fr), .int (pm_b wq)])), (s1, .inl (t1, 401, .inl (upd (pm_nf9 sm) ((N + 1)) (nI (af + F))))), (s2, .inl (t2, 8000, .inl (pm_nf9 gv))), (s3, .inl (t3, 16, .inl (pm_nf9 gr))), (s4, .inl (t4, 400, .inl rc)), (s5, .inl (t5, 400, .inl mq))] := hD
  rw [show upd (pm_nf9 sm) ((N + 1)) (nI (af + F)) = pm_nf9 (pm_un sm (N + 1) (af + F)) from pm_nf9_up sm (N + 1) (af + F)] at hP hD
  refine lv_aload_n hx hb dX4_make_72 rfl (lv_at hl 0 rfl) ?_
  have hPc := hP.sub (ws' := [(y0, .inr (4, [.int (nI 0), .int (nI (N + 1)), .int (nI (af + F)), .ref s1, .ref s2, .ref s3, .ref s4, .ref s5, .int (nI pl), .int (pm_b go), .int (pm_b qu), .int (nI cy), .int (nI qc), .int (pm_b fr), .int (pm_b wq)])), (s1, .inl (t1, 401, .inl (pm_nf9 (pm_un sm (N + 1) (af + F))))), (s2, .inl (t2, 8000, .inl (pm_nf9 gv))), (s3, .inl (t3, 16, .inl (pm_nf9 gr))), (s4, .inl (t4, 400, .inl rc)), (s5, .inl (t5, 400, .inl mq))]) [0, 1, 2, 3, 4, 5] rfl
  have hDc := hD.sub (ws' := [(y0, .inr (4, [.int (nI 0), .int (nI (N + 1)), .int (nI (af + F)), .ref s1, .ref s2, .ref s3, .ref s4, .ref s5, .int (nI pl), .int (pm_b go), .int (pm_b qu), .int (nI cy), .int (nI qc), .int (pm_b fr), .int (pm_b wq)])), (s1, .inl (t1, 401, .inl (pm_nf9 (pm_un sm (N + 1) (af + F))))), (s2, .inl (t2, 8000, .inl (pm_nf9 gv))), (s3, .inl (t3, 16, .inl (pm_nf9 gr))), (s4, .inl (t4, 400, .inl rc)), (s5, .inl (t5, 400, .inl mq))]) [0, 1, 2, 3, 4, 5] (by decide) rfl
  have hKc := hK.sub (tys' := [(t1, .int), (t2, .int), (t3, .int), (t4, .boolean), (t5, .boolean)]) [0, 1, 2, 3, 4] rfl
  have hFc := va_free (wc := [(y0, .inr (4, [.int (nI 0), .int (nI (N + 1)), .int (nI (af + F)), .ref s1, .ref s2, .ref s3, .ref s4, .ref s5, .int (nI pl), .int (pm_b go), .int (pm_b qu), .int (nI cy), .int (nI qc), .int (pm_b fr), .int (pm_b wq)])), (s1, .inl (t1, 401, .inl (pm_nf9 (pm_un sm (N + 1) (af + F))))), (s2, .inl (t2, 8000, .inl (pm_nf9 gv))), (s3, .inl (t3, 16, .inl (pm_nf9 gr))), (s4, .inl (t4, 400, .inl rc)), (s5, .inl (t5, 400, .inl mq))]) hD hS hA [0, 1, 2, 3, 4, 5] rfl
  refine va_callv (va_runV (As := []) (rest := []) ⟨hx, hb, hml, hown, hts⟩ (c_Q_changed l dC dI y0 s1 s2 s3 s4 s5 t1 t2 t3 t4 t5 0 (N + 1) (af + F) (pm_un sm (N + 1) (af + F)) gv gr rc mq pl go qu cy qc fr wq H.size) (cwV 0 hts (gw_V ml_X4_54 mi_X4_changed ms_X4_changed mn_X4 mc_X4_changed) rfl rfl rfl (by decide +kernel) ⟨Nat.le_of_ble_eq_true rfl, Nat.le_of_ble_eq_true rfl⟩) ⟨fun a U g mk q => by obtain ⟨q0, q1, qP, qK, qD⟩ := q; exact ⟨q0, q1, qP, va_K.moved (u := U) (U := U.calling g mk a) (Vm.Alike.refl U.vm) qK, qD⟩, va_recv hKc hPc (ci := 4) (q0 := 0) rfl rfl, fun U hU hW => ⟨rfl, by rw [hU], by rw [hU]; exact hPc, va_K.moved hW.alike hKc, hDc.weaken (fun _ _ _ _ => trivial)⟩⟩ rfl rfl hl.1 rfl (lv_room (Nat.le_of_ble_eq_true rfl)) dX4_make_73 ⟨Nat.le_of_ble_eq_true rfl, Nat.le_of_ble_eq_true rfl⟩) hS (fun q _ h => hFc q h) hFc (fun u t H1 locs ht hvm hw hB hz1 hk1 hS => ?_)
  obtain ⟨hP1, hK1, hD1⟩ := hB
  rw [ht] at hP1
  have hK1 := va_K.moved hvm.symm hK1
  obtain ⟨hP, hD⟩ := va_join (wr := []) (w1 := [(y0, .inr (4, [.int (nI 0), .int (nI (N + 1)), .int (nI (af + F)), .ref s1, .ref s2, .ref s3, .ref s4, .ref s5, .int (nI pl), .int (pm_b go), .int (nI 0), .int (nI cy), .int (nI qc), .int (nI 0), .int (pm_b wq)])), (s1, .inl (t1, 401, .inl (pm_nf9 (pm_un sm (N + 1) (af + F))))), (s2, .inl (t2, 8000, .inl (pm_nf9 gv))), (s3, .inl (t3, 16, .inl (pm_nf9 gr))), (s4, .inl (t4, 400, .inl rc)), (s5, .inl (t5, 400, .inl mq))]) hP hD [0, 1, 2, 3, 4, 5] [] rfl rfl (by decide) (by decide) hk1 hFc hP1 hD1
  clear hPc hDc hKc hFc hP1 hK1 hD1
  generalize H1 = H at hP hS ⊢
  have hP : va_P (dC, dI) vwCl [(y0, .inr (4, [.int (nI 0), .int (nI (N + 1)), .int (nI (af + F)), .ref s1, .ref s2, .ref s3, .ref s4, .ref s5, .int (nI pl), .int (pm_b go), .int (nI 0), .int (nI cy), .int (nI qc), .int (nI 0), .int (pm_b wq)])), (s1, .inl (t1, 401, .inl (pm_nf9 (pm_un sm (N + 1) (af + F))))), (s2, .inl (t2, 8000, .inl (pm_nf9 gv))), (s3, .inl (t3, 16, .inl (pm_nf9 gr))), (s4, .inl (t4, 400, .inl rc)), (s5, .inl (t5, 400, .inl mq))] H := hP.sub [0, 1, 2, 3, 4, 5] rfl
  have hD : va_D A [(y0, .inr (4, [.int (nI 0), .int (nI (N + 1)), .int (nI (af + F)), .ref s1, .ref s2, .ref s3, .ref s4, .ref s5, .int (nI pl), .int (pm_b go), .int (nI 0), .int (nI cy), .int (nI qc), .int (nI 0), .int (pm_b wq)])), (s1, .inl (t1, 401, .inl (pm_nf9 (pm_un sm (N + 1) (af + F))))), (s2, .inl (t2, 8000, .inl (pm_nf9 gv))), (s3, .inl (t3, 16, .inl (pm_nf9 gr))), (s4, .inl (t4, 400, .inl rc)), (s5, .inl (t5, 400, .inl mq))] := hD.sub [0, 1, 2, 3, 4, 5] (by decide) rfl
  refine lv_aload_n hx hb dX4_make_76 rfl (lv_at hl 0 rfl) ?_
  refine va_get (D := (dC, dI)) (ci := 4) (v := .int (nI (N + 1))) (C := RX4) (T := TX4) (N := 15) hx hb hts iw_X4 hown hK hP 0 rfl rfl 1 (by decide) (hts _ mf_X4_33) (fun _ h9 => h9) rfl dX4_make_77 ?_
  refine lv_iconst (v := nI 1) hx hb dX4_make_80 (by decide +kernel) ?_
  refine lv_isub hx hb dX4_make_81 ?_
  refine lv_topi (fun x_5 ex_5 => ?_)
  obtain rfl : x_5 = nI ((N + 1) - 1) := ex_5.trans (pk_sub (by omega))
  exact W.iret (v := nI ((N + 1) - 1)) hx hb hr (fun t ht hW => ⟨⟨nI ((N + 1) - 1), (), rfl, rfl, by rw [ht]; exact hP, va_K.moved hW.alike hK, hD⟩, hS.F ht⟩) hS.2.2 dX4_make_82

set_option maxHeartbeats 4000000 in
set_option maxRecDepth 100000 in
/-- make: refused, 1 -/
theorem c_Q_make_b1 (l : Launch) (dC : Nat → ClassId) (dI : Nat → Nat → Nat) (y0 s1 s2 s3 s4 s5 : Nat) (t1 t2 t3 t4 t5 : ClassId) (th N af : Nat) (sm gv gr : Nat → Nat) (rc mq : Nat → Int32) (pl : Nat) (go qu : Bool) (cy qc : Nat) (fr wq : Bool) (p0 : Int32) (sz : Nat) (hM : pq_MO N sm gv gr af) (hg : pm_rng 0 20 p0 = false) : Met l yX4_make wsX4_make ({ frames := 1, cells := 0, slots := 0, locals := 22 }) (va_Pc [.ref y0, .int p0] (fun U => U.heap.size = sz ∧ va_P (dC, dI) vwCl [(y0, .inr (4, [.int (nI th), .int (nI N), .int (nI af), .ref s1, .ref s2, .ref s3, .ref s4, .ref s5, .int (nI pl), .int (pm_b go), .int (pm_b qu), .int (nI cy), .int (nI qc), .int (pm_b fr), .int (pm_b wq)])), (s1, .inl (t1, 401, .inl (pm_nf9 sm))), (s2, .inl (t2, 8000, .inl (pm_nf9 gv))), (s3, .inl (t3, 16, .inl (pm_nf9 gr))), (s4, .inl (t4, 400, .inl rc)), (s5, .inl (t5, 400, .inl mq))] U.heap ∧ va_K (dC, dI) vwCl [(t1, .int), (t2, .int), (t3, .int), (t4, .boolean), (t5, .boolean)] U ∧ va_D (fun _ => True) [(y0, .inr (4, [.int (nI th), .int (nI N), .int (nI af), .ref s1, .ref s2, .ref s3, .ref s4, .ref s5, .int (nI pl), .int (pm_b go), .int (pm_b qu), .int (nI cy), .int (nI qc), .int (pm_b fr), .int (pm_b wq)])), (s1, .inl (t1, 401, .inl (pm_nf9 sm))), (s2, .inl (t2, 8000, .inl (pm_nf9 gv))), (s3, .inl (t3, 16, .inl (pm_nf9 gr))), (s4, .inl (t4, 400, .inl rc)), (s5, .inl (t5, 400, .inl mq))])) (va_Qi (fun (_ : Int32) (_ : Unit) => True) (fun (_ : Unit) (t : State) => va_P (dC, dI) vwCl [(y0, .inr (4, [.int (nI 1), .int (nI N), .int (nI af), .ref s1, .ref s2, .ref s3, .ref s4, .ref s5, .int (nI pl), .int (pm_b go), .int (pm_b qu), .int (nI cy), .int (nI qc), .int (pm_b fr), .int (pm_b wq)])), (s1, .inl (t1, 401, .inl (pm_nf9 sm))), (s2, .inl (t2, 8000, .inl (pm_nf9 gv))), (s3, .inl (t3, 16, .inl (pm_nf9 gr))), (s4, .inl (t4, 400, .inl rc)), (s5, .inl (t5, 400, .inl mq))] t.heap ∧ va_K (dC, dI) vwCl [(t1, .int), (t2, .int), (t3, .int), (t4, .boolean), (t5, .boolean)] t ∧ va_D (va_A [(y0, .inr (4, [.int (nI th), .int (nI N), .int (nI af), .ref s1, .ref s2, .ref s3, .ref s4, .ref s5, .int (nI pl), .int (pm_b go), .int (pm_b qu), .int (nI cy), .int (nI qc), .int (pm_b fr), .int (pm_b wq)])), (s1, .inl (t1, 401, .inl (pm_nf9 sm))), (s2, .inl (t2, 8000, .inl (pm_nf9 gv))), (s3, .inl (t3, 16, .inl (pm_nf9 gr))), (s4, .inl (t4, 400, .inl rc)), (s5, .inl (t5, 400, .inl mq))] sz) [(y0, .inr (4, [.int (nI 1), .int (nI N), .int (nI af), .ref s1, .ref s2, .ref s3, .ref s4, .ref s5, .int (nI pl), .int (pm_b go), .int (pm_b qu), .int (nI cy), .int (nI qc), .int (pm_b fr), .int (pm_b wq)])), (s1, .inl (t1, 401, .inl (pm_nf9 sm))), (s2, .inl (t2, 8000, .inl (pm_nf9 gv))), (s3, .inl (t3, 16, .inl (pm_nf9 gr))), (s4, .inl (t4, 400, .inl rc)), (s5, .inl (t5, 400, .inl mq))]) (va_A [(y0, .inr (4, [.int (nI th), .int (nI N), .int (nI af), .ref s1, .ref s2, .ref s3, .ref s4, .ref s5, .int (nI pl), .int (pm_b go), .int (pm_b qu), .int (nI cy), .int (nI qc), .int (pm_b fr), .int (pm_b wq)])), (s1, .inl (t1, 401, .inl (pm_nf9 sm))), (s2, .inl (t2, 8000, .inl (pm_nf9 gv))), (s3, .inl (t3, 16, .inl (pm_nf9 gr))), (s4, .inl (t4, 400, .inl rc)), (s5, .inl (t5, 400, .inl mq))] sz)) 0 0 (va_A [(y0, .inr (4, [.int (nI th), .int (nI N), .int (nI af), .ref s1, .ref s2, .ref s3, .ref s4, .ref s5, .int (nI pl), .int (pm_b go), .int (pm_b qu), .int (nI cy), .int (nI qc), .int (pm_b fr), .int (pm_b wq)])), (s1, .inl (t1, 401, .inl (pm_nf9 sm))), (s2, .inl (t2, 8000, .inl (pm_nf9 gv))), (s3, .inl (t3, 16, .inl (pm_nf9 gr))), (s4, .inl (t4, 400, .inl rc)), (s5, .inl (t5, 400, .inl mq))] sz) := by
  refine Met.ofW (cc := cX4_make) (maxL := 2) (ret := (some .int)) (by decide) rfl ?_
  intro p e s m args below meth c s₁ B hml hv
  obtain ⟨rfl, hsz, hP, hK, hD0⟩ := hv
  have hx := B.exec
  have hb := B.bytes
  have hr := B.returns
  have hts : ∀ w ∈ gw, w.before _ s = true := fun w h => atoms_spec (ws := wsX4_make) B.pre w (List.mem_cons_of_mem _ h)
  have hown : s.vm.findClass RX4 = some m.cls := findClass_of_methodNamed B.named
  have hlocks := B.notSynchronized
  subst hsz
  have hD := hD0.self (sz := s.heap.size)
  generalize hAe : va_A [(y0, .inr (4, [.int (nI th), .int (nI N), .int (nI af), .ref s1, .ref s2, .ref s3, .ref s4, .ref s5, .int (nI pl), .int (pm_b go), .int (pm_b qu), .int (nI cy), .int (nI qc), .int (pm_b fr), .int (pm_b wq)])), (s1, .inl (t1, 401, .inl (pm_nf9 sm))), (s2, .inl (t2, 8000, .inl (pm_nf9 gv))), (s3, .inl (t3, 16, .inl (pm_nf9 gr))), (s4, .inl (t4, 400, .inl rc)), (s5, .inl (t5, 400, .inl mq))] s.heap.size = A at hD ⊢
  have hA : ∀ q : Nat, s.heap.size ≤ q → A q := fun q h => by rw [← hAe]; exact Or.inr h
  have hP : va_P (dC, dI) vwCl [(y0, .inr (4, [.int (nI th), .int (nI N), .int (nI af), .ref s1, .ref s2, .ref s3, .ref s4, .ref s5, .int (nI pl), .int (pm_b go), .int (pm_b qu), .int (nI cy), .int (nI qc), .int (pm_b fr), .int (pm_b wq)])), (s1, .inl (t1, 401, .inl (pm_nf9 sm))), (s2, .inl (t2, 8000, .inl (pm_nf9 gv))), (s3, .inl (t3, 16, .inl (pm_nf9 gr))), (s4, .inl (t4, 400, .inl rc)), (s5, .inl (t5, 400, .inl mq))] s.heap := hP
  have hl := lv_entry ([.ref y0, .int p0]) (n := 2) (Nat.le_of_ble_eq_true rfl)
  rw [lg_entry_eq]
  generalize (lg_sl ([.ref y0, .int p0]) ++ List.replicate (2 - (lg_sl ([.ref y0, .int p0])).length) Slot.unset).toArray = ls at hl ⊢
  have hl : lv_has ls 2 [(0, .ref y0), (1, .int p0)] := hl
  obtain ⟨H, hH⟩ : ∃ H : Heap, H = s.heap := ⟨_, rfl⟩
  rw [← hH]
  rw [← hH] at hP
  have hS : va_S A s.heap H [] := by rw [hH]; exact va_S.rf
  clear hH
  have hN := hM.1
  refine lv_aload_n hx hb dX4_make_0 rfl (lv_at hl 0 rfl) ?_
  refine lv_iload_n hx hb dX4_make_1 rfl (lv_at hl 1 rfl) ?_
  refine lv_if_lt (tgt := 15) hx hb dX4_make_2 (by decide) (fun c_2 => ?_) (fun c_2 => ?_)
  · refine lv_iconst (v := nI 0) hx hb dX4_make_15 (by decide +kernel) ?_
    refine lv_aload_n hx hb dX4_make_16 rfl (lv_at hl 0 rfl) ?_
    refine va_get (D := (dC, dI)) (ci := 4) (v := .int (nI N)) (C := RX4) (T := TX4) (N := 15) hx hb hts iw_X4 hown hK hP 0 rfl rfl 1 (by decide) (hts _ mf_X4_33) (fun _ h9 => h9) rfl dX4_make_17 ?_
    refine lv_sipush (v := nI 400) hx hb dX4_make_20 (by decide +kernel) ?_
    refine lv_icmp_ge (tgt := 30) hx hb dX4_make_23 (by decide) (fun c_23 => ?_) (fun c_23 => ?_)
    · refine lv_iconst (v := nI 0) hx hb dX4_make_30 (by decide +kernel) ?_
      have hPc := hP.sub (ws' := [(y0, .inr (4, [.int (nI th), .int (nI N), .int (nI af), .ref s1, .ref s2, .ref s3, .ref s4, .ref s5, .int (nI pl), .int (pm_b go), .int (pm_b qu), .int (nI cy), .int (nI qc), .int (pm_b fr), .int (pm_b wq)])), (s1, .inl (t1, 401, .inl (pm_nf9 sm))), (s2, .inl (t2, 8000, .inl (pm_nf9 gv))), (s3, .inl (t3, 16, .inl (pm_nf9 gr))), (s4, .inl (t4, 400, .inl rc)), (s5, .inl (t5, 400, .inl mq))]) [0, 1, 2, 3, 4, 5] rfl
      have hDc := hD.sub (ws' := [(y0, .inr (4, [.int (nI th), .int (nI N), .int (nI af), .ref s1, .ref s2, .ref s3, .ref s4, .ref s5, .int (nI pl), .int (pm_b go), .int (pm_b qu), .int (nI cy), .int (nI qc), .int (pm_b fr), .int (pm_b wq)])), (s1, .inl (t1, 401, .inl (pm_nf9 sm))), (s2, .inl (t2, 8000, .inl (pm_nf9 gv))), (s3, .inl (t3, 16, .inl (pm_nf9 gr))), (s4, .inl (t4, 400, .inl rc)), (s5, .inl (t5, 400, .inl mq))]) [0, 1, 2, 3, 4, 5] (by decide) rfl
      have hKc := hK.sub (tys' := [(t1, .int), (t2, .int), (t3, .int), (t4, .boolean), (t5, .boolean)]) [0, 1, 2, 3, 4] rfl
      have hFc := va_free (wc := [(y0, .inr (4, [.int (nI th), .int (nI N), .int (nI af), .ref s1, .ref s2, .ref s3, .ref s4, .ref s5, .int (nI pl), .int (pm_b go), .int (pm_b qu), .int (nI cy), .int (nI qc), .int (pm_b fr), .int (pm_b wq)])), (s1, .inl (t1, 401, .inl (pm_nf9 sm))), (s2, .inl (t2, 8000, .inl (pm_nf9 gv))), (s3, .inl (t3, 16, .inl (pm_nf9 gr))), (s4, .inl (t4, 400, .inl rc)), (s5, .inl (t5, 400, .inl mq))]) hD hS hA [0, 1, 2, 3, 4, 5] rfl
      refine va_calli (va_runV (As := [.int (nI 0), .int (nI 0)]) (rest := []) ⟨hx, hb, hml, hown, hts⟩ (c_Q_goes l dC dI y0 s1 s2 s3 s4 s5 t1 t2 t3 t4 t5 th N af sm gv gr rc mq pl go qu cy qc fr wq false false H.size) (cwV 2 hts (gw_V ml_X4_47 mi_X4_goes ms_X4_goes mn_X4 mc_X4_goes) rfl rfl rfl (by decide +kernel) ⟨Nat.le_of_ble_eq_true rfl, Nat.le_of_ble_eq_true rfl⟩) ⟨fun a U g mk q => by obtain ⟨q0, q1, qP, qK, qD⟩ := q; exact ⟨q0, q1, qP, va_K.moved (u := U) (U := U.calling g mk a) (Vm.Alike.refl U.vm) qK, qD⟩, va_recv hKc hPc (ci := 4) (q0 := 0) rfl rfl, fun U hU hW => ⟨rfl, by rw [hU], by rw [hU]; exact hPc, va_K.moved hW.alike hKc, hDc.weaken (fun _ _ _ _ => trivial)⟩⟩ rfl rfl hl.1 rfl (lv_room (Nat.le_of_ble_eq_true rfl)) dX4_make_31 ⟨Nat.le_of_ble_eq_true rfl, Nat.le_of_ble_eq_true rfl⟩) hS (fun q _ h => hFc q h) hFc (fun r_1 u t H1 locs ht hvm hw hB hz1 hk1 hS => ?_)
      obtain ⟨hP1, hK1, hD1⟩ := hB
      rw [ht] at hP1
      have hK1 := va_K.moved hvm.symm hK1
      obtain ⟨hP, hD⟩ := va_join (wr := []) (w1 := [(y0, .inr (4, [.int (nI 1), .int (nI N), .int (nI af), .ref s1, .ref s2, .ref s3, .ref s4, .ref s5, .int (nI pl), .int (pm_b go), .int (pm_b qu), .int (nI cy), .int (nI qc), .int (pm_b fr), .int (pm_b wq)])), (s1, .inl (t1, 401, .inl (pm_nf9 sm))), (s2, .inl (t2, 8000, .inl (pm_nf9 gv))), (s3, .inl (t3, 16, .inl (pm_nf9 gr))), (s4, .inl (t4, 400, .inl rc)), (s5, .inl (t5, 400, .inl mq))]) hP hD [0, 1, 2, 3, 4, 5] [] rfl rfl (by decide) (by decide) hk1 hFc hP1 hD1
      clear hPc hDc hKc hFc hP1 hK1 hD1
      generalize H1 = H at hP hS ⊢
      have hP : va_P (dC, dI) vwCl [(y0, .inr (4, [.int (nI 1), .int (nI N), .int (nI af), .ref s1, .ref s2, .ref s3, .ref s4, .ref s5, .int (nI pl), .int (pm_b go), .int (pm_b qu), .int (nI cy), .int (nI qc), .int (pm_b fr), .int (pm_b wq)])), (s1, .inl (t1, 401, .inl (pm_nf9 sm))), (s2, .inl (t2, 8000, .inl (pm_nf9 gv))), (s3, .inl (t3, 16, .inl (pm_nf9 gr))), (s4, .inl (t4, 400, .inl rc)), (s5, .inl (t5, 400, .inl mq))] H := hP.sub [0, 1, 2, 3, 4, 5] rfl
      have hD : va_D A [(y0, .inr (4, [.int (nI 1), .int (nI N), .int (nI af), .ref s1, .ref s2, .ref s3, .ref s4, .ref s5, .int (nI pl), .int (pm_b go), .int (pm_b qu), .int (nI cy), .int (nI qc), .int (pm_b fr), .int (pm_b wq)])), (s1, .inl (t1, 401, .inl (pm_nf9 sm))), (s2, .inl (t2, 8000, .inl (pm_nf9 gv))), (s3, .inl (t3, 16, .inl (pm_nf9 gr))), (s4, .inl (t4, 400, .inl rc)), (s5, .inl (t5, 400, .inl mq))] := hD.sub [0, 1, 2, 3, 4, 5] (by decide) rfl
      obtain rfl : r_1 = nI 0 := hw
      refine lv_if_ne (tgt := 39) hx hb dX4_make_34 (by decide) (fun c_34 => absurd c_34 (by decide +kernel)) (fun c_34 => ?_)
      refine lv_iconst (v := nI 0) hx hb dX4_make_37 (by decide +kernel) ?_
      exact W.iret (v := nI 0) hx hb hr (fun t ht hW => ⟨⟨nI 0, (), rfl, trivial, by rw [ht]; exact hP, va_K.moved hW.alike hK, hD⟩, hS.F ht⟩) hS.2.2 dX4_make_38
    · refine lv_iconst (v := nI 1) hx hb dX4_make_26 (by decide +kernel) ?_
      refine lv_goto (tgt := 31) hx hb dX4_make_27 (by decide) ?_
      have hPc := hP.sub (ws' := [(y0, .inr (4, [.int (nI th), .int (nI N), .int (nI af), .ref s1, .ref s2, .ref s3, .ref s4, .ref s5, .int (nI pl), .int (pm_b go), .int (pm_b qu), .int (nI cy), .int (nI qc), .int (pm_b fr), .int (pm_b wq)])), (s1, .inl (t1, 401, .inl (pm_nf9 sm))), (s2, .inl (t2, 8000, .inl (pm_nf9 gv))), (s3, .inl (t3, 16, .inl (pm_nf9 gr))), (s4, .inl (t4, 400, .inl rc)), (s5, .inl (t5, 400, .inl mq))]) [0, 1, 2, 3, 4, 5] rfl
      have hDc := hD.sub (ws' := [(y0, .inr (4, [.int (nI th), .int (nI N), .int (nI af), .ref s1, .ref s2, .ref s3, .ref s4, .ref s5, .int (nI pl), .int (pm_b go), .int (pm_b qu), .int (nI cy), .int (nI qc), .int (pm_b fr), .int (pm_b wq)])), (s1, .inl (t1, 401, .inl (pm_nf9 sm))), (s2, .inl (t2, 8000, .inl (pm_nf9 gv))), (s3, .inl (t3, 16, .inl (pm_nf9 gr))), (s4, .inl (t4, 400, .inl rc)), (s5, .inl (t5, 400, .inl mq))]) [0, 1, 2, 3, 4, 5] (by decide) rfl
      have hKc := hK.sub (tys' := [(t1, .int), (t2, .int), (t3, .int), (t4, .boolean), (t5, .boolean)]) [0, 1, 2, 3, 4] rfl
      have hFc := va_free (wc := [(y0, .inr (4, [.int (nI th), .int (nI N), .int (nI af), .ref s1, .ref s2, .ref s3, .ref s4, .ref s5, .int (nI pl), .int (pm_b go), .int (pm_b qu), .int (nI cy), .int (nI qc), .int (pm_b fr), .int (pm_b wq)])), (s1, .inl (t1, 401, .inl (pm_nf9 sm))), (s2, .inl (t2, 8000, .inl (pm_nf9 gv))), (s3, .inl (t3, 16, .inl (pm_nf9 gr))), (s4, .inl (t4, 400, .inl rc)), (s5, .inl (t5, 400, .inl mq))]) hD hS hA [0, 1, 2, 3, 4, 5] rfl
      refine va_calli (va_runV (As := [.int (nI 0), .int (nI 1)]) (rest := []) ⟨hx, hb, hml, hown, hts⟩ (c_Q_goes l dC dI y0 s1 s2 s3 s4 s5 t1 t2 t3 t4 t5 th N af sm gv gr rc mq pl go qu cy qc fr wq false true H.size) (cwV 2 hts (gw_V ml_X4_47 mi_X4_goes ms_X4_goes mn_X4 mc_X4_goes) rfl rfl rfl (by decide +kernel) ⟨Nat.le_of_ble_eq_true rfl, Nat.le_of_ble_eq_true rfl⟩) ⟨fun a U g mk q => by obtain ⟨q0, q1, qP, qK, qD⟩ := q; exact ⟨q0, q1, qP, va_K.moved (u := U) (U := U.calling g mk a) (Vm.Alike.refl U.vm) qK, qD⟩, va_recv hKc hPc (ci := 4) (q0 := 0) rfl rfl, fun U hU hW => ⟨rfl, by rw [hU], by rw [hU]; exact hPc, va_K.moved hW.alike hKc, hDc.weaken (fun _ _ _ _ => trivial)⟩⟩ rfl rfl hl.1 rfl (lv_room (Nat.le_of_ble_eq_true rfl)) dX4_make_31 ⟨Nat.le_of_ble_eq_true rfl, Nat.le_of_ble_eq_true rfl⟩) hS (fun q _ h => hFc q h) hFc (fun r_2 u t H1 locs ht hvm hw hB hz1 hk1 hS => ?_)
      obtain ⟨hP1, hK1, hD1⟩ := hB
      rw [ht] at hP1
      have hK1 := va_K.moved hvm.symm hK1
      obtain ⟨hP, hD⟩ := va_join (wr := []) (w1 := [(y0, .inr (4, [.int (nI 1), .int (nI N), .int (nI af), .ref s1, .ref s2, .ref s3, .ref s4, .ref s5, .int (nI pl), .int (pm_b go), .int (pm_b qu), .int (nI cy), .int (nI qc), .int (pm_b fr), .int (pm_b wq)])), (s1, .inl (t1, 401, .inl (pm_nf9 sm))), (s2, .inl (t2, 8000, .inl (pm_nf9 gv))), (s3, .inl (t3, 16, .inl (pm_nf9 gr))), (s4, .inl (t4, 400, .inl rc)), (s5, .inl (t5, 400, .inl mq))]) hP hD [0, 1, 2, 3, 4, 5] [] rfl rfl (by decide) (by decide) hk1 hFc hP1 hD1
      clear hPc hDc hKc hFc hP1 hK1 hD1
      generalize H1 = H at hP hS ⊢
      have hP : va_P (dC, dI) vwCl [(y0, .inr (4, [.int (nI 1), .int (nI N), .int (nI af), .ref s1, .ref s2, .ref s3, .ref s4, .ref s5, .int (nI pl), .int (pm_b go), .int (pm_b qu), .int (nI cy), .int (nI qc), .int (pm_b fr), .int (pm_b wq)])), (s1, .inl (t1, 401, .inl (pm_nf9 sm))), (s2, .inl (t2, 8000, .inl (pm_nf9 gv))), (s3, .inl (t3, 16, .inl (pm_nf9 gr))), (s4, .inl (t4, 400, .inl rc)), (s5, .inl (t5, 400, .inl mq))] H := hP.sub [0, 1, 2, 3, 4, 5] rfl
      have hD : va_D A [(y0, .inr (4, [.int (nI 1), .int (nI N), .int (nI af), .ref s1, .ref s2, .ref s3, .ref s4, .ref s5, .int (nI pl), .int (pm_b go), .int (pm_b qu), .int (nI cy), .int (nI qc), .int (pm_b fr), .int (pm_b wq)])), (s1, .inl (t1, 401, .inl (pm_nf9 sm))), (s2, .inl (t2, 8000, .inl (pm_nf9 gv))), (s3, .inl (t3, 16, .inl (pm_nf9 gr))), (s4, .inl (t4, 400, .inl rc)), (s5, .inl (t5, 400, .inl mq))] := hD.sub [0, 1, 2, 3, 4, 5] (by decide) rfl
      obtain rfl : r_2 = nI 0 := hw
      refine lv_if_ne (tgt := 39) hx hb dX4_make_34 (by decide) (fun c_34 => absurd c_34 (by decide +kernel)) (fun c_34 => ?_)
      refine lv_iconst (v := nI 0) hx hb dX4_make_37 (by decide +kernel) ?_
      exact W.iret (v := nI 0) hx hb hr (fun t ht hW => ⟨⟨nI 0, (), rfl, trivial, by rw [ht]; exact hP, va_K.moved hW.alike hK, hD⟩, hS.F ht⟩) hS.2.2 dX4_make_38
  · refine lv_iload_n hx hb dX4_make_5 rfl (lv_at hl 1 rfl) ?_
    refine lv_bipush (v := nI 20) hx hb dX4_make_6 (by decide +kernel) ?_
    refine lv_icmp_gt (tgt := 15) hx hb dX4_make_8 (by decide) (fun c_8 => ?_) (fun c_8 => ?_)
    · refine lv_iconst (v := nI 0) hx hb dX4_make_15 (by decide +kernel) ?_
      refine lv_aload_n hx hb dX4_make_16 rfl (lv_at hl 0 rfl) ?_
      refine va_get (D := (dC, dI)) (ci := 4) (v := .int (nI N)) (C := RX4) (T := TX4) (N := 15) hx hb hts iw_X4 hown hK hP 0 rfl rfl 1 (by decide) (hts _ mf_X4_33) (fun _ h9 => h9) rfl dX4_make_17 ?_
      refine lv_sipush (v := nI 400) hx hb dX4_make_20 (by decide +kernel) ?_
      refine lv_icmp_ge (tgt := 30) hx hb dX4_make_23 (by decide) (fun c_23 => ?_) (fun c_23 => ?_)
      · refine lv_iconst (v := nI 0) hx hb dX4_make_30 (by decide +kernel) ?_
        have hPc := hP.sub (ws' := [(y0, .inr (4, [.int (nI th), .int (nI N), .int (nI af), .ref s1, .ref s2, .ref s3, .ref s4, .ref s5, .int (nI pl), .int (pm_b go), .int (pm_b qu), .int (nI cy), .int (nI qc), .int (pm_b fr), .int (pm_b wq)])), (s1, .inl (t1, 401, .inl (pm_nf9 sm))), (s2, .inl (t2, 8000, .inl (pm_nf9 gv))), (s3, .inl (t3, 16, .inl (pm_nf9 gr))), (s4, .inl (t4, 400, .inl rc)), (s5, .inl (t5, 400, .inl mq))]) [0, 1, 2, 3, 4, 5] rfl
        have hDc := hD.sub (ws' := [(y0, .inr (4, [.int (nI th), .int (nI N), .int (nI af), .ref s1, .ref s2, .ref s3, .ref s4, .ref s5, .int (nI pl), .int (pm_b go), .int (pm_b qu), .int (nI cy), .int (nI qc), .int (pm_b fr), .int (pm_b wq)])), (s1, .inl (t1, 401, .inl (pm_nf9 sm))), (s2, .inl (t2, 8000, .inl (pm_nf9 gv))), (s3, .inl (t3, 16, .inl (pm_nf9 gr))), (s4, .inl (t4, 400, .inl rc)), (s5, .inl (t5, 400, .inl mq))]) [0, 1, 2, 3, 4, 5] (by decide) rfl
        have hKc := hK.sub (tys' := [(t1, .int), (t2, .int), (t3, .int), (t4, .boolean), (t5, .boolean)]) [0, 1, 2, 3, 4] rfl
        have hFc := va_free (wc := [(y0, .inr (4, [.int (nI th), .int (nI N), .int (nI af), .ref s1, .ref s2, .ref s3, .ref s4, .ref s5, .int (nI pl), .int (pm_b go), .int (pm_b qu), .int (nI cy), .int (nI qc), .int (pm_b fr), .int (pm_b wq)])), (s1, .inl (t1, 401, .inl (pm_nf9 sm))), (s2, .inl (t2, 8000, .inl (pm_nf9 gv))), (s3, .inl (t3, 16, .inl (pm_nf9 gr))), (s4, .inl (t4, 400, .inl rc)), (s5, .inl (t5, 400, .inl mq))]) hD hS hA [0, 1, 2, 3, 4, 5] rfl
        refine va_calli (va_runV (As := [.int (nI 0), .int (nI 0)]) (rest := []) ⟨hx, hb, hml, hown, hts⟩ (c_Q_goes l dC dI y0 s1 s2 s3 s4 s5 t1 t2 t3 t4 t5 th N af sm gv gr rc mq pl go qu cy qc fr wq false false H.size) (cwV 2 hts (gw_V ml_X4_47 mi_X4_goes ms_X4_goes mn_X4 mc_X4_goes) rfl rfl rfl (by decide +kernel) ⟨Nat.le_of_ble_eq_true rfl, Nat.le_of_ble_eq_true rfl⟩) ⟨fun a U g mk q => by obtain ⟨q0, q1, qP, qK, qD⟩ := q; exact ⟨q0, q1, qP, va_K.moved (u := U) (U := U.calling g mk a) (Vm.Alike.refl U.vm) qK, qD⟩, va_recv hKc hPc (ci := 4) (q0 := 0) rfl rfl, fun U hU hW => ⟨rfl, by rw [hU], by rw [hU]; exact hPc, va_K.moved hW.alike hKc, hDc.weaken (fun _ _ _ _ => trivial)⟩⟩ rfl rfl hl.1 rfl (lv_room (Nat.le_of_ble_eq_true rfl)) dX4_make_31 ⟨Nat.le_of_ble_eq_true rfl, Nat.le_of_ble_eq_true rfl⟩) hS (fun q _ h => hFc q h) hFc (fun r_3 u t H1 locs ht hvm hw hB hz1 hk1 hS => ?_)
        obtain ⟨hP1, hK1, hD1⟩ := hB
        rw [ht] at hP1
        have hK1 := va_K.moved hvm.symm hK1
        obtain ⟨hP, hD⟩ := va_join (wr := []) (w1 := [(y0, .inr (4, [.int (nI 1), .int (nI N), .int (nI af), .ref s1, .ref s2, .ref s3, .ref s4, .ref s5, .int (nI pl), .int (pm_b go), .int (pm_b qu), .int (nI cy), .int (nI qc), .int (pm_b fr), .int (pm_b wq)])), (s1, .inl (t1, 401, .inl (pm_nf9 sm))), (s2, .inl (t2, 8000, .inl (pm_nf9 gv))), (s3, .inl (t3, 16, .inl (pm_nf9 gr))), (s4, .inl (t4, 400, .inl rc)), (s5, .inl (t5, 400, .inl mq))]) hP hD [0, 1, 2, 3, 4, 5] [] rfl rfl (by decide) (by decide) hk1 hFc hP1 hD1
        clear hPc hDc hKc hFc hP1 hK1 hD1
        generalize H1 = H at hP hS ⊢
        have hP : va_P (dC, dI) vwCl [(y0, .inr (4, [.int (nI 1), .int (nI N), .int (nI af), .ref s1, .ref s2, .ref s3, .ref s4, .ref s5, .int (nI pl), .int (pm_b go), .int (pm_b qu), .int (nI cy), .int (nI qc), .int (pm_b fr), .int (pm_b wq)])), (s1, .inl (t1, 401, .inl (pm_nf9 sm))), (s2, .inl (t2, 8000, .inl (pm_nf9 gv))), (s3, .inl (t3, 16, .inl (pm_nf9 gr))), (s4, .inl (t4, 400, .inl rc)), (s5, .inl (t5, 400, .inl mq))] H := hP.sub [0, 1, 2, 3, 4, 5] rfl
        have hD : va_D A [(y0, .inr (4, [.int (nI 1), .int (nI N), .int (nI af), .ref s1, .ref s2, .ref s3, .ref s4, .ref s5, .int (nI pl), .int (pm_b go), .int (pm_b qu), .int (nI cy), .int (nI qc), .int (pm_b fr), .int (pm_b wq)])), (s1, .inl (t1, 401, .inl (pm_nf9 sm))), (s2, .inl (t2, 8000, .inl (pm_nf9 gv))), (s3, .inl (t3, 16, .inl (pm_nf9 gr))), (s4, .inl (t4, 400, .inl rc)), (s5, .inl (t5, 400, .inl mq))] := hD.sub [0, 1, 2, 3, 4, 5] (by decide) rfl
        obtain rfl : r_3 = nI 0 := hw
        refine lv_if_ne (tgt := 39) hx hb dX4_make_34 (by decide) (fun c_34 => absurd c_34 (by decide +kernel)) (fun c_34 => ?_)
        refine lv_iconst (v := nI 0) hx hb dX4_make_37 (by decide +kernel) ?_
        exact W.iret (v := nI 0) hx hb hr (fun t ht hW => ⟨⟨nI 0, (), rfl, trivial, by rw [ht]; exact hP, va_K.moved hW.alike hK, hD⟩, hS.F ht⟩) hS.2.2 dX4_make_38
      · refine lv_iconst (v := nI 1) hx hb dX4_make_26 (by decide +kernel) ?_
        refine lv_goto (tgt := 31) hx hb dX4_make_27 (by decide) ?_
        have hPc := hP.sub (ws' := [(y0, .inr (4, [.int (nI th), .int (nI N), .int (nI af), .ref s1, .ref s2, .ref s3, .ref s4, .ref s5, .int (nI pl), .int (pm_b go), .int (pm_b qu), .int (nI cy), .int (nI qc), .int (pm_b fr), .int (pm_b wq)])), (s1, .inl (t1, 401, .inl (pm_nf9 sm))), (s2, .inl (t2, 8000, .inl (pm_nf9 gv))), (s3, .inl (t3, 16, .inl (pm_nf9 gr))), (s4, .inl (t4, 400, .inl rc)), (s5, .inl (t5, 400, .inl mq))]) [0, 1, 2, 3, 4, 5] rfl
        have hDc := hD.sub (ws' := [(y0, .inr (4, [.int (nI th), .int (nI N), .int (nI af), .ref s1, .ref s2, .ref s3, .ref s4, .ref s5, .int (nI pl), .int (pm_b go), .int (pm_b qu), .int (nI cy), .int (nI qc), .int (pm_b fr), .int (pm_b wq)])), (s1, .inl (t1, 401, .inl (pm_nf9 sm))), (s2, .inl (t2, 8000, .inl (pm_nf9 gv))), (s3, .inl (t3, 16, .inl (pm_nf9 gr))), (s4, .inl (t4, 400, .inl rc)), (s5, .inl (t5, 400, .inl mq))]) [0, 1, 2, 3, 4, 5] (by decide) rfl
        have hKc := hK.sub (tys' := [(t1, .int), (t2, .int), (t3, .int), (t4, .boolean), (t5, .boolean)]) [0, 1, 2, 3, 4] rfl
        have hFc := va_free (wc := [(y0, .inr (4, [.int (nI th), .int (nI N), .int (nI af), .ref s1, .ref s2, .ref s3, .ref s4, .ref s5, .int (nI pl), .int (pm_b go), .int (pm_b qu), .int (nI cy), .int (nI qc), .int (pm_b fr), .int (pm_b wq)])), (s1, .inl (t1, 401, .inl (pm_nf9 sm))), (s2, .inl (t2, 8000, .inl (pm_nf9 gv))), (s3, .inl (t3, 16, .inl (pm_nf9 gr))), (s4, .inl (t4, 400, .inl rc)), (s5, .inl (t5, 400, .inl mq))]) hD hS hA [0, 1, 2, 3, 4, 5] rfl
        refine va_calli (va_runV (As := [.int (nI 0), .int (nI 1)]) (rest := []) ⟨hx, hb, hml, hown, hts⟩ (c_Q_goes l dC dI y0 s1 s2 s3 s4 s5 t1 t2 t3 t4 t5 th N af sm gv gr rc mq pl go qu cy qc fr wq false true H.size) (cwV 2 hts (gw_V ml_X4_47 mi_X4_goes ms_X4_goes mn_X4 mc_X4_goes) rfl rfl rfl (by decide +kernel) ⟨Nat.le_of_ble_eq_true rfl, Nat.le_of_ble_eq_true rfl⟩) ⟨fun a U g mk q => by obtain ⟨q0, q1, qP, qK, qD⟩ := q; exact ⟨q0, q1, qP, va_K.moved (u := U) (U := U.calling g mk a) (Vm.Alike.refl U.vm) qK, qD⟩, va_recv hKc hPc (ci := 4) (q0 := 0) rfl rfl, fun U hU hW => ⟨rfl, by rw [hU], by rw [hU]; exact hPc, va_K.moved hW.alike hKc, hDc.weaken (fun _ _ _ _ => trivial)⟩⟩ rfl rfl hl.1 rfl (lv_room (Nat.le_of_ble_eq_true rfl)) dX4_make_31 ⟨Nat.le_of_ble_eq_true rfl, Nat.le_of_ble_eq_true rfl⟩) hS (fun q _ h => hFc q h) hFc (fun r_4 u t H1 locs ht hvm hw hB hz1 hk1 hS => ?_)
        obtain ⟨hP1, hK1, hD1⟩ := hB
        rw [ht] at hP1
        have hK1 := va_K.moved hvm.symm hK1
        obtain ⟨hP, hD⟩ := va_join (wr := []) (w1 := [(y0, .inr (4, [.int (nI 1), .int (nI N), .int (nI af), .ref s1, .ref s2, .ref s3, .ref s4, .ref s5, .int (nI pl), .int (pm_b go), .int (pm_b qu), .int (nI cy), .int (nI qc), .int (pm_b fr), .int (pm_b wq)])), (s1, .inl (t1, 401, .inl (pm_nf9 sm))), (s2, .inl (t2, 8000, .inl (pm_nf9 gv))), (s3, .inl (t3, 16, .inl (pm_nf9 gr))), (s4, .inl (t4, 400, .inl rc)), (s5, .inl (t5, 400, .inl mq))]) hP hD [0, 1, 2, 3, 4, 5] [] rfl rfl (by decide) (by decide) hk1 hFc hP1 hD1
        clear hPc hDc hKc hFc hP1 hK1 hD1
        generalize H1 = H at hP hS ⊢
        have hP : va_P (dC, dI) vwCl [(y0, .inr (4, [.int (nI 1), .int (nI N), .int (nI af), .ref s1, .ref s2, .ref s3, .ref s4, .ref s5, .int (nI pl), .int (pm_b go), .int (pm_b qu), .int (nI cy), .int (nI qc), .int (pm_b fr), .int (pm_b wq)])), (s1, .inl (t1, 401, .inl (pm_nf9 sm))), (s2, .inl (t2, 8000, .inl (pm_nf9 gv))), (s3, .inl (t3, 16, .inl (pm_nf9 gr))), (s4, .inl (t4, 400, .inl rc)), (s5, .inl (t5, 400, .inl mq))] H := hP.sub [0, 1, 2, 3, 4, 5] rfl
        have hD : va_D A [(y0, .inr (4, [.int (nI 1), .int (nI N), .int (nI af), .ref s1, .ref s2, .ref s3, .ref s4, .ref s5, .int (nI pl), .int (pm_b go), .int (pm_b qu), .int (nI cy), .int (nI qc), .int (pm_b fr), .int (pm_b wq)])), (s1, .inl (t1, 401, .inl (pm_nf9 sm))), (s2, .inl (t2, 8000, .inl (pm_nf9 gv))), (s3, .inl (t3, 16, .inl (pm_nf9 gr))), (s4, .inl (t4, 400, .inl rc)), (s5, .inl (t5, 400, .inl mq))] := hD.sub [0, 1, 2, 3, 4, 5] (by decide) rfl
        obtain rfl : r_4 = nI 0 := hw
        refine lv_if_ne (tgt := 39) hx hb dX4_make_34 (by decide) (fun c_34 => absurd c_34 (by decide +kernel)) (fun c_34 => ?_)
        refine lv_iconst (v := nI 0) hx hb dX4_make_37 (by decide +kernel) ?_
        exact W.iret (v := nI 0) hx hb hr (fun t ht hW => ⟨⟨nI 0, (), rfl, trivial, by rw [ht]; exact hP, va_K.moved hW.alike hK, hD⟩, hS.F ht⟩) hS.2.2 dX4_make_38
    · exact absurd hg (by rw [pm_rng_t (pm_ge0 c_2) (pm_len c_8)]; decide)

set_option maxHeartbeats 4000000 in
set_option maxRecDepth 100000 in
/-- make: refused, 2 -/
theorem c_Q_make_b2 (l : Launch) (dC : Nat → ClassId) (dI : Nat → Nat → Nat) (y0 s1 s2 s3 s4 s5 : Nat) (t1 t2 t3 t4 t5 : ClassId) (th N af : Nat) (sm gv gr : Nat → Nat) (rc mq : Nat → Int32) (pl : Nat) (go qu : Bool) (cy qc : Nat) (fr wq : Bool) (F : Nat) (sz : Nat) (hM : pq_MO N sm gv gr af) (hF : F ≤ 20) (hN4 : 400 ≤ N) : Met l yX4_make wsX4_make ({ frames := 1, cells := 0, slots := 0, locals := 22 }) (va_Pc [.ref y0, .int (nI F)] (fun U => U.heap.size = sz ∧ va_P (dC, dI) vwCl [(y0, .inr (4, [.int (nI th), .int (nI N), .int (nI af), .ref s1, .ref s2, .ref s3, .ref s4, .ref s5, .int (nI pl), .int (pm_b go), .int (pm_b qu), .int (nI cy), .int (nI qc), .int (pm_b fr), .int (pm_b wq)])), (s1, .inl (t1, 401, .inl (pm_nf9 sm))), (s2, .inl (t2, 8000, .inl (pm_nf9 gv))), (s3, .inl (t3, 16, .inl (pm_nf9 gr))), (s4, .inl (t4, 400, .inl rc)), (s5, .inl (t5, 400, .inl mq))] U.heap ∧ va_K (dC, dI) vwCl [(t1, .int), (t2, .int), (t3, .int), (t4, .boolean), (t5, .boolean)] U ∧ va_D (fun _ => True) [(y0, .inr (4, [.int (nI th), .int (nI N), .int (nI af), .ref s1, .ref s2, .ref s3, .ref s4, .ref s5, .int (nI pl), .int (pm_b go), .int (pm_b qu), .int (nI cy), .int (nI qc), .int (pm_b fr), .int (pm_b wq)])), (s1, .inl (t1, 401, .inl (pm_nf9 sm))), (s2, .inl (t2, 8000, .inl (pm_nf9 gv))), (s3, .inl (t3, 16, .inl (pm_nf9 gr))), (s4, .inl (t4, 400, .inl rc)), (s5, .inl (t5, 400, .inl mq))])) (va_Qi (fun (_ : Int32) (_ : Unit) => True) (fun (_ : Unit) (t : State) => va_P (dC, dI) vwCl [(y0, .inr (4, [.int (nI 2), .int (nI N), .int (nI af), .ref s1, .ref s2, .ref s3, .ref s4, .ref s5, .int (nI pl), .int (pm_b go), .int (pm_b qu), .int (nI cy), .int (nI qc), .int (pm_b fr), .int (pm_b wq)])), (s1, .inl (t1, 401, .inl (pm_nf9 sm))), (s2, .inl (t2, 8000, .inl (pm_nf9 gv))), (s3, .inl (t3, 16, .inl (pm_nf9 gr))), (s4, .inl (t4, 400, .inl rc)), (s5, .inl (t5, 400, .inl mq))] t.heap ∧ va_K (dC, dI) vwCl [(t1, .int), (t2, .int), (t3, .int), (t4, .boolean), (t5, .boolean)] t ∧ va_D (va_A [(y0, .inr (4, [.int (nI th), .int (nI N), .int (nI af), .ref s1, .ref s2, .ref s3, .ref s4, .ref s5, .int (nI pl), .int (pm_b go), .int (pm_b qu), .int (nI cy), .int (nI qc), .int (pm_b fr), .int (pm_b wq)])), (s1, .inl (t1, 401, .inl (pm_nf9 sm))), (s2, .inl (t2, 8000, .inl (pm_nf9 gv))), (s3, .inl (t3, 16, .inl (pm_nf9 gr))), (s4, .inl (t4, 400, .inl rc)), (s5, .inl (t5, 400, .inl mq))] sz) [(y0, .inr (4, [.int (nI 2), .int (nI N), .int (nI af), .ref s1, .ref s2, .ref s3, .ref s4, .ref s5, .int (nI pl), .int (pm_b go), .int (pm_b qu), .int (nI cy), .int (nI qc), .int (pm_b fr), .int (pm_b wq)])), (s1, .inl (t1, 401, .inl (pm_nf9 sm))), (s2, .inl (t2, 8000, .inl (pm_nf9 gv))), (s3, .inl (t3, 16, .inl (pm_nf9 gr))), (s4, .inl (t4, 400, .inl rc)), (s5, .inl (t5, 400, .inl mq))]) (va_A [(y0, .inr (4, [.int (nI th), .int (nI N), .int (nI af), .ref s1, .ref s2, .ref s3, .ref s4, .ref s5, .int (nI pl), .int (pm_b go), .int (pm_b qu), .int (nI cy), .int (nI qc), .int (pm_b fr), .int (pm_b wq)])), (s1, .inl (t1, 401, .inl (pm_nf9 sm))), (s2, .inl (t2, 8000, .inl (pm_nf9 gv))), (s3, .inl (t3, 16, .inl (pm_nf9 gr))), (s4, .inl (t4, 400, .inl rc)), (s5, .inl (t5, 400, .inl mq))] sz)) 0 0 (va_A [(y0, .inr (4, [.int (nI th), .int (nI N), .int (nI af), .ref s1, .ref s2, .ref s3, .ref s4, .ref s5, .int (nI pl), .int (pm_b go), .int (pm_b qu), .int (nI cy), .int (nI qc), .int (pm_b fr), .int (pm_b wq)])), (s1, .inl (t1, 401, .inl (pm_nf9 sm))), (s2, .inl (t2, 8000, .inl (pm_nf9 gv))), (s3, .inl (t3, 16, .inl (pm_nf9 gr))), (s4, .inl (t4, 400, .inl rc)), (s5, .inl (t5, 400, .inl mq))] sz) := by
  refine Met.ofW (cc := cX4_make) (maxL := 2) (ret := (some .int)) (by decide) rfl ?_
  intro p e s m args below meth c s₁ B hml hv
  obtain ⟨rfl, hsz, hP, hK, hD0⟩ := hv
  have hx := B.exec
  have hb := B.bytes
  have hr := B.returns
  have hts : ∀ w ∈ gw, w.before _ s = true := fun w h => atoms_spec (ws := wsX4_make) B.pre w (List.mem_cons_of_mem _ h)
  have hown : s.vm.findClass RX4 = some m.cls := findClass_of_methodNamed B.named
  have hlocks := B.notSynchronized
  subst hsz
  have hD := hD0.self (sz := s.heap.size)
  generalize hAe : va_A [(y0, .inr (4, [.int (nI th), .int (nI N), .int (nI af), .ref s1, .ref s2, .ref s3, .ref s4, .ref s5, .int (nI pl), .int (pm_b go), .int (pm_b qu), .int (nI cy), .int (nI qc), .int (pm_b fr), .int (pm_b wq)])), (s1, .inl (t1, 401, .inl (pm_nf9 sm))), (s2, .inl (t2, 8000, .inl (pm_nf9 gv))), (s3, .inl (t3, 16, .inl (pm_nf9 gr))), (s4, .inl (t4, 400, .inl rc)), (s5, .inl (t5, 400, .inl mq))] s.heap.size = A at hD ⊢
  have hA : ∀ q : Nat, s.heap.size ≤ q → A q := fun q h => by rw [← hAe]; exact Or.inr h
  have hP : va_P (dC, dI) vwCl [(y0, .inr (4, [.int (nI th), .int (nI N), .int (nI af), .ref s1, .ref s2, .ref s3, .ref s4, .ref s5, .int (nI pl), .int (pm_b go), .int (pm_b qu), .int (nI cy), .int (nI qc), .int (pm_b fr), .int (pm_b wq)])), (s1, .inl (t1, 401, .inl (pm_nf9 sm))), (s2, .inl (t2, 8000, .inl (pm_nf9 gv))), (s3, .inl (t3, 16, .inl (pm_nf9 gr))), (s4, .inl (t4, 400, .inl rc)), (s5, .inl (t5, 400, .inl mq))] s.heap := hP
  have hl := lv_entry ([.ref y0, .int (nI F)]) (n := 2) (Nat.le_of_ble_eq_true rfl)
  rw [lg_entry_eq]
  generalize (lg_sl ([.ref y0, .int (nI F)]) ++ List.replicate (2 - (lg_sl ([.ref y0, .int (nI F)])).length) Slot.unset).toArray = ls at hl ⊢
  have hl : lv_has ls 2 [(0, .ref y0), (1, .int (nI F))] := hl
  obtain ⟨H, hH⟩ : ∃ H : Heap, H = s.heap := ⟨_, rfl⟩
  rw [← hH]
  rw [← hH] at hP
  have hS : va_S A s.heap H [] := by rw [hH]; exact va_S.rf
  clear hH
  have hN := hM.1
  refine lv_aload_n hx hb dX4_make_0 rfl (lv_at hl 0 rfl) ?_
  refine lv_iload_n hx hb dX4_make_1 rfl (lv_at hl 1 rfl) ?_
  refine lv_if_lt (tgt := 15) hx hb dX4_make_2 (by decide) (fun c_2 => absurd c_2 (nI_pos (by omega))) (fun c_2 => ?_)
  refine lv_iload_n hx hb dX4_make_5 rfl (lv_at hl 1 rfl) ?_
  refine lv_bipush (v := nI 20) hx hb dX4_make_6 (by decide +kernel) ?_
  refine lv_icmp_gt (tgt := 15) hx hb dX4_make_8 (by decide) (fun c_8 => absurd c_8 (nI_nlt (by omega) (by omega))) (fun c_8 => ?_)
  refine lv_iconst (v := nI 1) hx hb dX4_make_11 (by decide +kernel) ?_
  refine lv_goto (tgt := 16) hx hb dX4_make_12 (by decide) ?_
  refine lv_aload_n hx hb dX4_make_16 rfl (lv_at hl 0 rfl) ?_
  refine va_get (D := (dC, dI)) (ci := 4) (v := .int (nI N)) (C := RX4) (T := TX4) (N := 15) hx hb hts iw_X4 hown hK hP 0 rfl rfl 1 (by decide) (hts _ mf_X4_33) (fun _ h9 => h9) rfl dX4_make_17 ?_
  refine lv_sipush (v := nI 400) hx hb dX4_make_20 (by decide +kernel) ?_
  refine lv_icmp_ge (tgt := 30) hx hb dX4_make_23 (by decide) (fun c_23 => ?_) (fun c_23 => absurd (nI_le (by omega) (by omega)) c_23)
  refine lv_iconst (v := nI 0) hx hb dX4_make_30 (by decide +kernel) ?_
  have hPc := hP.sub (ws' := [(y0, .inr (4, [.int (nI th), .int (nI N), .int (nI af), .ref s1, .ref s2, .ref s3, .ref s4, .ref s5, .int (nI pl), .int (pm_b go), .int (pm_b qu), .int (nI cy), .int (nI qc), .int (pm_b fr), .int (pm_b wq)])), (s1, .inl (t1, 401, .inl (pm_nf9 sm))), (s2, .inl (t2, 8000, .inl (pm_nf9 gv))), (s3, .inl (t3, 16, .inl (pm_nf9 gr))), (s4, .inl (t4, 400, .inl rc)), (s5, .inl (t5, 400, .inl mq))]) [0, 1, 2, 3, 4, 5] rfl
  have hDc := hD.sub (ws' := [(y0, .inr (4, [.int (nI th), .int (nI N), .int (nI af), .ref s1, .ref s2, .ref s3, .ref s4, .ref s5, .int (nI pl), .int (pm_b go), .int (pm_b qu), .int (nI cy), .int (nI qc), .int (pm_b fr), .int (pm_b wq)])), (s1, .inl (t1, 401, .inl (pm_nf9 sm))), (s2, .inl (t2, 8000, .inl (pm_nf9 gv))), (s3, .inl (t3, 16, .inl (pm_nf9 gr))), (s4, .inl (t4, 400, .inl rc)), (s5, .inl (t5, 400, .inl mq))]) [0, 1, 2, 3, 4, 5] (by decide) rfl
  have hKc := hK.sub (tys' := [(t1, .int), (t2, .int), (t3, .int), (t4, .boolean), (t5, .boolean)]) [0, 1, 2, 3, 4] rfl
  have hFc := va_free (wc := [(y0, .inr (4, [.int (nI th), .int (nI N), .int (nI af), .ref s1, .ref s2, .ref s3, .ref s4, .ref s5, .int (nI pl), .int (pm_b go), .int (pm_b qu), .int (nI cy), .int (nI qc), .int (pm_b fr), .int (pm_b wq)])), (s1, .inl (t1, 401, .inl (pm_nf9 sm))), (s2, .inl (t2, 8000, .inl (pm_nf9 gv))), (s3, .inl (t3, 16, .inl (pm_nf9 gr))), (s4, .inl (t4, 400, .inl rc)), (s5, .inl (t5, 400, .inl mq))]) hD hS hA [0, 1, 2, 3, 4, 5] rfl
  refine va_calli (va_runV (As := [.int (nI 1), .int (nI 0)]) (rest := []) ⟨hx, hb, hml, hown, hts⟩ (c_Q_goes l dC dI y0 s1 s2 s3 s4 s5 t1 t2 t3 t4 t5 th N af sm gv gr rc mq pl go qu cy qc fr wq true false H.size) (cwV 2 hts (gw_V ml_X4_47 mi_X4_goes ms_X4_goes mn_X4 mc_X4_goes) rfl rfl rfl (by decide +kernel) ⟨Nat.le_of_ble_eq_true rfl, Nat.le_of_ble_eq_true rfl⟩) ⟨fun a U g mk q => by obtain ⟨q0, q1, qP, qK, qD⟩ := q; exact ⟨q0, q1, qP, va_K.moved (u := U) (U := U.calling g mk a) (Vm.Alike.refl U.vm) qK, qD⟩, va_recv hKc hPc (ci := 4) (q0 := 0) rfl rfl, fun U hU hW => ⟨rfl, by rw [hU], by rw [hU]; exact hPc, va_K.moved hW.alike hKc, hDc.weaken (fun _ _ _ _ => trivial)⟩⟩ rfl rfl hl.1 rfl (lv_room (Nat.le_of_ble_eq_true rfl)) dX4_make_31 ⟨Nat.le_of_ble_eq_true rfl, Nat.le_of_ble_eq_true rfl⟩) hS (fun q _ h => hFc q h) hFc (fun r_1 u t H1 locs ht hvm hw hB hz1 hk1 hS => ?_)
  obtain ⟨hP1, hK1, hD1⟩ := hB
  rw [ht] at hP1
  have hK1 := va_K.moved hvm.symm hK1
  obtain ⟨hP, hD⟩ := va_join (wr := []) (w1 := [(y0, .inr (4, [.int (nI 2), .int (nI N), .int (nI af), .ref s1, .ref s2, .ref s3, .ref s4, .ref s5, .int (nI pl), .int (pm_b go), .int (pm_b qu), .int (nI cy), .int (nI qc), .int (pm_b fr), .int (pm_b wq)])), (s1, .inl (t1, 401, .inl (pm_nf9 sm))), (s2, .inl (t2, 8000, .inl (pm_nf9 gv))), (s3, .inl (t3, 16, .inl (pm_nf9 gr))), (s4, .inl (t4, 400, .inl rc)), (s5, .inl (t5, 400, .inl mq))]) hP hD [0, 1, 2, 3, 4, 5] [] rfl rfl (by decide) (by decide) hk1 hFc hP1 hD1
  clear hPc hDc hKc hFc hP1 hK1 hD1
  generalize H1 = H at hP hS ⊢
  have hP : va_P (dC, dI) vwCl [(y0, .inr (4, [.int (nI 2), .int (nI N), .int (nI af), .ref s1, .ref s2, .ref s3, .ref s4, .ref s5, .int (nI pl), .int (pm_b go), .int (pm_b qu), .int (nI cy), .int (nI qc), .int (pm_b fr), .int (pm_b wq)])), (s1, .inl (t1, 401, .inl (pm_nf9 sm))), (s2, .inl (t2, 8000, .inl (pm_nf9 gv))), (s3, .inl (t3, 16, .inl (pm_nf9 gr))), (s4, .inl (t4, 400, .inl rc)), (s5, .inl (t5, 400, .inl mq))] H := hP.sub [0, 1, 2, 3, 4, 5] rfl
  have hD : va_D A [(y0, .inr (4, [.int (nI 2), .int (nI N), .int (nI af), .ref s1, .ref s2, .ref s3, .ref s4, .ref s5, .int (nI pl), .int (pm_b go), .int (pm_b qu), .int (nI cy), .int (nI qc), .int (pm_b fr), .int (pm_b wq)])), (s1, .inl (t1, 401, .inl (pm_nf9 sm))), (s2, .inl (t2, 8000, .inl (pm_nf9 gv))), (s3, .inl (t3, 16, .inl (pm_nf9 gr))), (s4, .inl (t4, 400, .inl rc)), (s5, .inl (t5, 400, .inl mq))] := hD.sub [0, 1, 2, 3, 4, 5] (by decide) rfl
  obtain rfl : r_1 = nI 0 := hw
  refine lv_if_ne (tgt := 39) hx hb dX4_make_34 (by decide) (fun c_34 => absurd c_34 (by decide +kernel)) (fun c_34 => ?_)
  refine lv_iconst (v := nI 0) hx hb dX4_make_37 (by decide +kernel) ?_
  exact W.iret (v := nI 0) hx hb hr (fun t ht hW => ⟨⟨nI 0, (), rfl, trivial, by rw [ht]; exact hP, va_K.moved hW.alike hK, hD⟩, hS.F ht⟩) hS.2.2 dX4_make_38

set_option maxHeartbeats 4000000 in
set_option maxRecDepth 100000 in
/-- set: done -/
theorem c_Q_set_ok (l : Launch) (dC : Nat → ClassId) (dI : Nat → Nat → Nat) (y0 s1 s2 s3 s4 s5 : Nat) (t1 t2 t3 t4 t5 : ClassId) (th N af : Nat) (sm gv gr : Nat → Nat) (rc mq : Nat → Int32) (pl : Nat) (go qu : Bool) (cy qc : Nat) (fr wq : Bool) (a j : Nat) (p2 : Int32) (sz : Nat) (hM : pq_MO N sm gv gr af) (ha : a < N) (hj : j < sm (a + 1) - sm a) (hp : (decide (p2 = -1) || pm_has N p2) = true) : Met l yX4_set wsX4_set ({ frames := 2, cells := 0, slots := 0, locals := 43 }) (va_Pc [.ref y0, .int (nI a), .int (nI j), .int p2] (fun U => U.heap.size = sz ∧ va_P (dC, dI) vwCl [(y0, .inr (4, [.int (nI th), .int (nI N), .int (nI af), .ref s1, .ref s2, .ref s3, .ref s4, .ref s5, .int (nI pl), .int (pm_b go), .int (pm_b qu), .int (nI cy), .int (nI qc), .int (pm_b fr), .int (pm_b wq)])), (s1, .inl (t1, 401, .inl (pm_nf9 sm))), (s2, .inl (t2, 8000, .inl (pm_nf9 gv))), (s3, .inl (t3, 16, .inl (pm_nf9 gr))), (s4, .inl (t4, 400, .inl rc)), (s5, .inl (t5, 400, .inl mq))] U.heap ∧ va_K (dC, dI) vwCl [(t1, .int), (t2, .int), (t3, .int), (t4, .boolean), (t5, .boolean)] U ∧ va_D (fun _ => True) [(y0, .inr (4, [.int (nI th), .int (nI N), .int (nI af), .ref s1, .ref s2, .ref s3, .ref s4, .ref s5, .int (nI pl), .int (pm_b go), .int (pm_b qu), .int (nI cy), .int (nI qc), .int (pm_b fr), .int (pm_b wq)])), (s1, .inl (t1, 401, .inl (pm_nf9 sm))), (s2, .inl (t2, 8000, .inl (pm_nf9 gv))), (s3, .inl (t3, 16, .inl (pm_nf9 gr))), (s4, .inl (t4, 400, .inl rc)), (s5, .inl (t5, 400, .inl mq))])) (va_Qi (fun (r : Int32) (_ : Unit) => r = nI (gv (sm a + j)) - nI 1) (fun (_ : Unit) (t : State) => va_P (dC, dI) vwCl [(y0, .inr (4, [.int (nI 0), .int (nI N), .int (nI af), .ref s1, .ref s2, .ref s3, .ref s4, .ref s5, .int (nI pl), .int (pm_b go), .int (pm_b false), .int (nI cy), .int (nI qc), .int (pm_b false), .int (pm_b wq)])), (s1, .inl (t1, 401, .inl (pm_nf9 sm))), (s2, .inl (t2, 8000, .inl (pm_nf9 ((pm_un gv (sm a + j) (pm_v p2)))))), (s3, .inl (t3, 16, .inl (pm_nf9 gr))), (s4, .inl (t4, 400, .inl rc)), (s5, .inl (t5, 400, .inl mq))] t.heap ∧ va_K (dC, dI) vwCl [(t1, .int), (t2, .int), (t3, .int), (t4, .boolean), (t5, .boolean)] t ∧ va_D (va_A [(y0, .inr (4, [.int (nI th), .int (nI N), .int (nI af), .ref s1, .ref s2, .ref s3, .ref s4, .ref s5, .int (nI pl), .int (pm_b go), .int (pm_b qu), .int (nI cy), .int (nI qc), .int (pm_b fr), .int (pm_b wq)])), (s1, .inl (t1, 401, .inl (pm_nf9 sm))), (s2, .inl (t2, 8000, .inl (pm_nf9 gv))), (s3, .inl (t3, 16, .inl (pm_nf9 gr))), (s4, .inl (t4, 400, .inl rc)), (s5, .inl (t5, 400, .inl mq))] sz) [(y0, .inr (4, [.int (nI 0), .int (nI N), .int (nI af), .ref s1, .ref s2, .ref s3, .ref s4, .ref s5, .int (nI pl), .int (pm_b go), .int (pm_b false), .int (nI cy), .int (nI qc), .int (pm_b false), .int (pm_b wq)])), (s1, .inl (t1, 401, .inl (pm_nf9 sm))), (s2, .inl (t2, 8000, .inl (pm_nf9 ((pm_un gv (sm a + j) (pm_v p2)))))), (s3, .inl (t3, 16, .inl (pm_nf9 gr))), (s4, .inl (t4, 400, .inl rc)), (s5, .inl (t5, 400, .inl mq))]) (va_A [(y0, .inr (4, [.int (nI th), .int (nI N), .int (nI af), .ref s1, .ref s2, .ref s3, .ref s4, .ref s5, .int (nI pl), .int (pm_b go), .int (pm_b qu), .int (nI cy), .int (nI qc), .int (pm_b fr), .int (pm_b wq)])), (s1, .inl (t1, 401, .inl (pm_nf9 sm))), (s2, .inl (t2, 8000, .inl (pm_nf9 gv))), (s3, .inl (t3, 16, .inl (pm_nf9 gr))), (s4, .inl (t4, 400, .inl rc)), (s5, .inl (t5, 400, .inl mq))] sz)) 0 0 (va_A [(y0, .inr (4, [.int (nI th), .int (nI N), .int (nI af), .ref s1, .ref s2, .ref s3, .ref s4, .ref s5, .int (nI pl), .int (pm_b go), .int (pm_b qu), .int (nI cy), .int (nI qc), .int (pm_b fr), .int (pm_b wq)])), (s1, .inl (t1, 401, .inl (pm_nf9 sm))), (s2, .inl (t2, 8000, .inl (pm_nf9 gv))), (s3, .inl (t3, 16, .inl (pm_nf9 gr))), (s4, .inl (t4, 400, .inl rc)), (s5, .inl (t5, 400, .inl mq))] sz) := by
  refine Met.ofW (cc := cX4_set) (maxL := 5) (ret := (some .int)) (by decide) rfl ?_
  intro p e s m args below meth c s₁ B hml hv
  obtain ⟨rfl, hsz, hP, hK, hD0⟩ := hv
  have hx := B.exec
  have hb := B.bytes
  have hr := B.returns
  have hts : ∀ w ∈ gw, w.before _ s = true := fun w h => atoms_spec (ws := wsX4_set) B.pre w (List.mem_cons_of_mem _ h)
  have hown : s.vm.findClass RX4 = some m.cls := findClass_of_methodNamed B.named
  have hlocks := B.notSynchronized
  subst hsz
  have hD := hD0.self (sz := s.heap.size)
  generalize hAe : va_A [(y0, .inr (4, [.int (nI th), .int (nI N), .int (nI af), .ref s1, .ref s2, .ref s3, .ref s4, .ref s5, .int (nI pl), .int (pm_b go), .int (pm_b qu), .int (nI cy), .int (nI qc), .int (pm_b fr), .int (pm_b wq)])), (s1, .inl (t1, 401, .inl (pm_nf9 sm))), (s2, .inl (t2, 8000, .inl (pm_nf9 gv))), (s3, .inl (t3, 16, .inl (pm_nf9 gr))), (s4, .inl (t4, 400, .inl rc)), (s5, .inl (t5, 400, .inl mq))] s.heap.size = A at hD ⊢
  have hA : ∀ q : Nat, s.heap.size ≤ q → A q := fun q h => by rw [← hAe]; exact Or.inr h
  have hP : va_P (dC, dI) vwCl [(y0, .inr (4, [.int (nI th), .int (nI N), .int (nI af), .ref s1, .ref s2, .ref s3, .ref s4, .ref s5, .int (nI pl), .int (pm_b go), .int (pm_b qu), .int (nI cy), .int (nI qc), .int (pm_b fr), .int (pm_b wq)])), (s1, .inl (t1, 401, .inl (pm_nf9 sm))), (s2, .inl (t2, 8000, .inl (pm_nf9 gv))), (s3, .inl (t3, 16, .inl (pm_nf9 gr))), (s4, .inl (t4, 400, .inl rc)), (s5, .inl (t5, 400, .inl mq))] s.heap := hP
  have hl := lv_entry ([.ref y0, .int (nI a), .int (nI j), .int p2]) (n := 5) (Nat.le_of_ble_eq_true rfl)
  rw [lg_entry_eq]
  generalize (lg_sl ([.ref y0, .int (nI a), .int (nI j), .int p2]) ++ List.replicate (5 - (lg_sl ([.ref y0, .int (nI a), .int (nI j), .int p2])).length) Slot.unset).toArray = ls at hl ⊢
  have hl : lv_has ls 5 [(0, .ref y0), (1, .int (nI a)), (2, .int (nI j)), (3, .int p2)] := hl
  obtain ⟨H, hH⟩ : ∃ H : Heap, H = s.heap := ⟨_, rfl⟩
  rw [← hH]
  rw [← hH] at hP
  have hS : va_S A s.heap H [] := by rw [hH]; exact va_S.rf
  clear hH
  have hN := hM.1
  have hms := hM.2.2.2.1 a ha
  have hsa := pq_le hM (a + 1) (by omega)
  have hv9 := pm_v_ok hN hp
  refine lv_aload_n hx hb dX4_set_0 rfl (lv_at hl 0 rfl) ?_
  refine lv_aload_n hx hb dX4_set_1 rfl (lv_at hl 0 rfl) ?_
  refine lv_iload_n hx hb dX4_set_2 rfl (lv_at hl 1 rfl) ?_
  refine lv_iload_n hx hb dX4_set_3 rfl (lv_at hl 2 rfl) ?_
  have hPc := hP.sub (ws' := [(y0, .inr (4, [.int (nI th), .int (nI N), .int (nI af), .ref s1, .ref s2, .ref s3, .ref s4, .ref s5, .int (nI pl), .int (pm_b go), .int (pm_b qu), .int (nI cy), .int (nI qc), .int (pm_b fr), .int (pm_b wq)])), (s1, .inl (t1, 401, .inl (pm_nf9 sm))), (s2, .inl (t2, 8000, .inl (pm_nf9 gv))), (s3, .inl (t3, 16, .inl (pm_nf9 gr))), (s4, .inl (t4, 400, .inl rc)), (s5, .inl (t5, 400, .inl mq))]) [0, 1, 2, 3, 4, 5] rfl
  have hDc := hD.sub (ws' := [(y0, .inr (4, [.int (nI th), .int (nI N), .int (nI af), .ref s1, .ref s2, .ref s3, .ref s4, .ref s5, .int (nI pl), .int (pm_b go), .int (pm_b qu), .int (nI cy), .int (nI qc), .int (pm_b fr), .int (pm_b wq)])), (s1, .inl (t1, 401, .inl (pm_nf9 sm))), (s2, .inl (t2, 8000, .inl (pm_nf9 gv))), (s3, .inl (t3, 16, .inl (pm_nf9 gr))), (s4, .inl (t4, 400, .inl rc)), (s5, .inl (t5, 400, .inl mq))]) [0, 1, 2, 3, 4, 5] (by decide) rfl
  have hKc := hK.sub (tys' := [(t1, .int), (t2, .int), (t3, .int), (t4, .boolean), (t5, .boolean)]) [0, 1, 2, 3, 4] rfl
  have hFc := va_free (wc := [(y0, .inr (4, [.int (nI th), .int (nI N), .int (nI af), .ref s1, .ref s2, .ref s3, .ref s4, .ref s5, .int (nI pl), .int (pm_b go), .int (pm_b qu), .int (nI cy), .int (nI qc), .int (pm_b fr), .int (pm_b wq)])), (s1, .inl (t1, 401, .inl (pm_nf9 sm))), (s2, .inl (t2, 8000, .inl (pm_nf9 gv))), (s3, .inl (t3, 16, .inl (pm_nf9 gr))), (s4, .inl (t4, 400, .inl rc)), (s5, .inl (t5, 400, .inl mq))]) hD hS hA [0, 1, 2, 3, 4, 5] rfl
  refine va_calli (va_runV (As := [.int (nI a), .int (nI j)]) (rest := [.ref y0]) ⟨hx, hb, hml, hown, hts⟩ (c_Q_isField l dC dI y0 s1 s2 s3 s4 s5 t1 t2 t3 t4 t5 th N af sm gv gr rc mq pl go qu cy qc fr wq (nI a) (nI j) H.size (hM)) (cwV 2 hts (gw_V ml_X4_57 mi_X4_isField ms_X4_isField mn_X4 mc_X4_isField) rfl rfl rfl (by decide +kernel) ⟨Nat.le_of_ble_eq_true rfl, Nat.le_of_ble_eq_true rfl⟩) ⟨fun a U g mk q => by obtain ⟨q0, q1, qP, qK, qD⟩ := q; exact ⟨q0, q1, qP, va_K.moved (u := U) (U := U.calling g mk a) (Vm.Alike.refl U.vm) qK, qD⟩, va_recv hKc hPc (ci := 4) (q0 := 0) rfl rfl, fun U hU hW => ⟨rfl, by rw [hU], by rw [hU]; exact hPc, va_K.moved hW.alike hKc, hDc.weaken (fun _ _ _ _ => trivial)⟩⟩ rfl rfl hl.1 rfl (lv_room (Nat.le_of_ble_eq_true rfl)) dX4_set_4 ⟨Nat.le_of_ble_eq_true rfl, Nat.le_of_ble_eq_true rfl⟩) hS (fun q _ h => hFc q h) hFc (fun r_1 u t H1 locs ht hvm hw hB hz1 hk1 hS => ?_)
  obtain ⟨hP1, hK1, hD1⟩ := hB
  rw [ht] at hP1
  have hK1 := va_K.moved hvm.symm hK1
  obtain ⟨hP, hD⟩ := va_join (wr := []) (w1 := [(y0, .inr (4, [.int (nI th), .int (nI N), .int (nI af), .ref s1, .ref s2, .ref s3, .ref s4, .ref s5, .int (nI pl), .int (pm_b go), .int (pm_b qu), .int (nI cy), .int (nI qc), .int (pm_b fr), .int (pm_b wq)])), (s1, .inl (t1, 401, .inl (pm_nf9 sm))), (s2, .inl (t2, 8000, .inl (pm_nf9 gv))), (s3, .inl (t3, 16, .inl (pm_nf9 gr))), (s4, .inl (t4, 400, .inl rc)), (s5, .inl (t5, 400, .inl mq))]) hP hD [0, 1, 2, 3, 4, 5] [] rfl rfl (by decide) (by decide) hk1 hFc hP1 hD1
  clear hPc hDc hKc hFc hP1 hK1 hD1
  generalize H1 = H at hP hS ⊢
  have hP : va_P (dC, dI) vwCl [(y0, .inr (4, [.int (nI th), .int (nI N), .int (nI af), .ref s1, .ref s2, .ref s3, .ref s4, .ref s5, .int (nI pl), .int (pm_b go), .int (pm_b qu), .int (nI cy), .int (nI qc), .int (pm_b fr), .int (pm_b wq)])), (s1, .inl (t1, 401, .inl (pm_nf9 sm))), (s2, .inl (t2, 8000, .inl (pm_nf9 gv))), (s3, .inl (t3, 16, .inl (pm_nf9 gr))), (s4, .inl (t4, 400, .inl rc)), (s5, .inl (t5, 400, .inl mq))] H := hP.sub [0, 1, 2, 3, 4, 5] rfl
  have hD : va_D A [(y0, .inr (4, [.int (nI th), .int (nI N), .int (nI af), .ref s1, .ref s2, .ref s3, .ref s4, .ref s5, .int (nI pl), .int (pm_b go), .int (pm_b qu), .int (nI cy), .int (nI qc), .int (pm_b fr), .int (pm_b wq)])), (s1, .inl (t1, 401, .inl (pm_nf9 sm))), (s2, .inl (t2, 8000, .inl (pm_nf9 gv))), (s3, .inl (t3, 16, .inl (pm_nf9 gr))), (s4, .inl (t4, 400, .inl rc)), (s5, .inl (t5, 400, .inl mq))] := hD.sub [0, 1, 2, 3, 4, 5] (by decide) rfl
  obtain rfl : r_1 = nI 1 := hw.trans (by rw [pm_hf_nI (cn := pq_dn sm) (by omega) (by show sm (a + 1) - sm a < 2 ^ 31; omega) ha hj]; rfl)
  refine lv_if_eq (tgt := 27) hx hb dX4_set_7 (by decide) (fun c_7 => absurd c_7 (by decide +kernel)) (fun c_7 => ?_)
  refine lv_iload_n hx hb dX4_set_10 rfl (lv_at hl 3 rfl) ?_
  refine lv_iconst (v := -1) hx hb dX4_set_11 (by decide +kernel) ?_
  refine lv_icmp_eq (tgt := 23) hx hb dX4_set_12 (by decide) (fun c_12 => ?_) (fun c_12 => ?_)
  · refine lv_iconst (v := nI 1) hx hb dX4_set_23 (by decide +kernel) ?_
    refine lv_goto (tgt := 28) hx hb dX4_set_24 (by decide) ?_
    refine lv_iconst (v := nI 1) hx hb dX4_set_28 (by decide +kernel) ?_
    have hPc := hP.sub (ws' := [(y0, .inr (4, [.int (nI th), .int (nI N), .int (nI af), .ref s1, .ref s2, .ref s3, .ref s4, .ref s5, .int (nI pl), .int (pm_b go), .int (pm_b qu), .int (nI cy), .int (nI qc), .int (pm_b fr), .int (pm_b wq)])), (s1, .inl (t1, 401, .inl (pm_nf9 sm))), (s2, .inl (t2, 8000, .inl (pm_nf9 gv))), (s3, .inl (t3, 16, .inl (pm_nf9 gr))), (s4, .inl (t4, 400, .inl rc)), (s5, .inl (t5, 400, .inl mq))]) [0, 1, 2, 3, 4, 5] rfl
    have hDc := hD.sub (ws' := [(y0, .inr (4, [.int (nI th), .int (nI N), .int (nI af), .ref s1, .ref s2, .ref s3, .ref s4, .ref s5, .int (nI pl), .int (pm_b go), .int (pm_b qu), .int (nI cy), .int (nI qc), .int (pm_b fr), .int (pm_b wq)])), (s1, .inl (t1, 401, .inl (pm_nf9 sm))), (s2, .inl (t2, 8000, .inl (pm_nf9 gv))), (s3, .inl (t3, 16, .inl (pm_nf9 gr))), (s4, .inl (t4, 400, .inl rc)), (s5, .inl (t5, 400, .inl mq))]) [0, 1, 2, 3, 4, 5] (by decide) rfl
    have hKc := hK.sub (tys' := [(t1, .int), (t2, .int), (t3, .int), (t4, .boolean), (t5, .boolean)]) [0, 1, 2, 3, 4] rfl
    have hFc := va_free (wc := [(y0, .inr (4, [.int (nI th), .int (nI N), .int (nI af), .ref s1, .ref s2, .ref s3, .ref s4, .ref s5, .int (nI pl), .int (pm_b go), .int (pm_b qu), .int (nI cy), .int (nI qc), .int (pm_b fr), .int (pm_b wq)])), (s1, .inl (t1, 401, .inl (pm_nf9 sm))), (s2, .inl (t2, 8000, .inl (pm_nf9 gv))), (s3, .inl (t3, 16, .inl (pm_nf9 gr))), (s4, .inl (t4, 400, .inl rc)), (s5, .inl (t5, 400, .inl mq))]) hD hS hA [0, 1, 2, 3, 4, 5] rfl
    refine va_calli (va_runV (As := [.int (nI 1), .int (nI 1)]) (rest := []) ⟨hx, hb, hml, hown, hts⟩ (c_Q_goes l dC dI y0 s1 s2 s3 s4 s5 t1 t2 t3 t4 t5 th N af sm gv gr rc mq pl go qu cy qc fr wq true true H.size) (cwV 2 hts (gw_V ml_X4_47 mi_X4_goes ms_X4_goes mn_X4 mc_X4_goes) rfl rfl rfl (by decide +kernel) ⟨Nat.le_of_ble_eq_true rfl, Nat.le_of_ble_eq_true rfl⟩) ⟨fun a U g mk q => by obtain ⟨q0, q1, qP, qK, qD⟩ := q; exact ⟨q0, q1, qP, va_K.moved (u := U) (U := U.calling g mk a) (Vm.Alike.refl U.vm) qK, qD⟩, va_recv hKc hPc (ci := 4) (q0 := 0) rfl rfl, fun U hU hW => ⟨rfl, by rw [hU], by rw [hU]; exact hPc, va_K.moved hW.alike hKc, hDc.weaken (fun _ _ _ _ => trivial)⟩⟩ rfl rfl hl.1 rfl (lv_room (Nat.le_of_ble_eq_true rfl)) dX4_set_29 ⟨Nat.le_of_ble_eq_true rfl, Nat.le_of_ble_eq_true rfl⟩) hS (fun q _ h => hFc q h) hFc (fun r_2 u t H1 locs ht hvm hw hB hz1 hk1 hS => ?_)
    obtain ⟨hP1, hK1, hD1⟩ := hB
    rw [ht] at hP1
    have hK1 := va_K.moved hvm.symm hK1
    obtain ⟨hP, hD⟩ := va_join (wr := []) (w1 := [(y0, .inr (4, [.int (nI 0), .int (nI N), .int (nI af), .ref s1, .ref s2, .ref s3, .ref s4, .ref s5, .int (nI pl), .int (pm_b go), .int (pm_b qu), .int (nI cy), .int (nI qc), .int (pm_b fr), .int (pm_b wq)])), (s1, .inl (t1, 401, .inl (pm_nf9 sm))), (s2, .inl (t2, 8000, .inl (pm_nf9 gv))), (s3, .inl (t3, 16, .inl (pm_nf9 gr))), (s4, .inl (t4, 400, .inl rc)), (s5, .inl (t5, 400, .inl mq))]) hP hD [0, 1, 2, 3, 4, 5] [] rfl rfl (by decide) (by decide) hk1 hFc hP1 hD1
    clear hPc hDc hKc hFc hP1 hK1 hD1
    generalize H1 = H at hP hS ⊢
    have hP : va_P (dC, dI) vwCl [(y0, .inr (4, [.int (nI 0), .int (nI N), .int (nI af), .ref s1, .ref s2, .ref s3, .ref s4, .ref s5, .int (nI pl), .int (pm_b go), .int (pm_b qu), .int (nI cy), .int (nI qc), .int (pm_b fr), .int (pm_b wq)])), (s1, .inl (t1, 401, .inl (pm_nf9 sm))), (s2, .inl (t2, 8000, .inl (pm_nf9 gv))), (s3, .inl (t3, 16, .inl (pm_nf9 gr))), (s4, .inl (t4, 400, .inl rc)), (s5, .inl (t5, 400, .inl mq))] H := hP.sub [0, 1, 2, 3, 4, 5] rfl
    have hD : va_D A [(y0, .inr (4, [.int (nI 0), .int (nI N), .int (nI af), .ref s1, .ref s2, .ref s3, .ref s4, .ref s5, .int (nI pl), .int (pm_b go), .int (pm_b qu), .int (nI cy), .int (nI qc), .int (pm_b fr), .int (pm_b wq)])), (s1, .inl (t1, 401, .inl (pm_nf9 sm))), (s2, .inl (t2, 8000, .inl (pm_nf9 gv))), (s3, .inl (t3, 16, .inl (pm_nf9 gr))), (s4, .inl (t4, 400, .inl rc)), (s5, .inl (t5, 400, .inl mq))] := hD.sub [0, 1, 2, 3, 4, 5] (by decide) rfl
    obtain rfl : r_2 = nI 1 := hw
    refine lv_if_ne (tgt := 37) hx hb dX4_set_32 (by decide) (fun c_32 => ?_) (fun c_32 => absurd c_32 (by decide +kernel))
    refine lv_aload_n hx hb dX4_set_37 rfl (lv_at hl 0 rfl) ?_
    refine va_get (D := (dC, dI)) (ci := 4) (v := .ref s2) (C := RX4) (T := TX4) (N := 15) hx hb hts iw_X4 hown hK hP 0 rfl rfl 4 (by decide) (hts _ mf_X4_13) (fun _ h9 => h9) rfl dX4_set_38 ?_
    refine lv_aload_n hx hb dX4_set_41 rfl (lv_at hl 0 rfl) ?_
    refine va_get (D := (dC, dI)) (ci := 4) (v := .ref s1) (C := RX4) (T := TX4) (N := 15) hx hb hts iw_X4 hown hK hP 0 rfl rfl 3 (by decide) (hts _ mf_X4_7) (fun _ h9 => h9) rfl dX4_set_42 ?_
    refine lv_iload_n hx hb dX4_set_45 rfl (lv_at hl 1 rfl) ?_
    refine va_iald hx hb hK hP 1 0 rfl rfl (vp_in_nI (by omega) (by omega)) dX4_set_46 ?_
    refine lv_topi (fun x_3 ex_3 => ?_)
    rw [nI_clamp (by omega)] at ex_3
    obtain rfl : x_3 = nI (sm a) := ex_3
    refine lv_iload_n hx hb dX4_set_47 rfl (lv_at hl 2 rfl) ?_
    refine lv_iadd hx hb dX4_set_48 ?_
    refine lv_topi (fun x_4 ex_4 => ?_)
    obtain rfl : x_4 = nI ((sm a) + j) := ex_4.trans (nI_add _ _)
    refine va_iald hx hb hK hP 2 1 rfl rfl (vp_in_nI (by omega) (by omega)) dX4_set_49 ?_
    refine lv_topi (fun x_5 ex_5 => ?_)
    rw [nI_clamp (by omega)] at ex_5
    obtain rfl : x_5 = nI (gv (((sm a) + j))) := ex_5
    refine lv_iconst (v := nI 1) hx hb dX4_set_50 (by decide +kernel) ?_
    refine lv_isub hx hb dX4_set_51 ?_
    refine lv_istore (lv' := [(4, .int (nI (gv (((sm a) + j))) - nI 1)), (0, .ref y0), (1, .int (nI a)), (2, .int (nI j)), (3, .int p2)]) hx hb dX4_set_52 hl (by decide) rfl (fun ls hl => ?_)
    refine lv_aload_n hx hb dX4_set_54 rfl (lv_at hl 1 rfl) ?_
    refine va_get (D := (dC, dI)) (ci := 4) (v := .ref s2) (C := RX4) (T := TX4) (N := 15) hx hb hts iw_X4 hown hK hP 0 rfl rfl 4 (by decide) (hts _ mf_X4_13) (fun _ h9 => h9) rfl dX4_set_55 ?_
    refine lv_aload_n hx hb dX4_set_58 rfl (lv_at hl 1 rfl) ?_
    refine va_get (D := (dC, dI)) (ci := 4) (v := .ref s1) (C := RX4) (T := TX4) (N := 15) hx hb hts iw_X4 hown hK hP 0 rfl rfl 3 (by decide) (hts _ mf_X4_7) (fun _ h9 => h9) rfl dX4_set_59 ?_
    refine lv_iload_n hx hb dX4_set_62 rfl (lv_at hl 2 rfl) ?_
    refine va_iald hx hb hK hP 1 0 rfl rfl (vp_in_nI (by omega) (by omega)) dX4_set_63 ?_
    refine lv_topi (fun x_6 ex_6 => ?_)
    rw [nI_clamp (by omega)] at ex_6
    obtain rfl : x_6 = nI (sm a) := ex_6
    refine lv_iload_n hx hb dX4_set_64 rfl (lv_at hl 3 rfl) ?_
    refine lv_iadd hx hb dX4_set_65 ?_
    refine lv_topi (fun x_7 ex_7 => ?_)
    obtain rfl : x_7 = nI ((sm a) + j) := ex_7.trans (nI_add _ _)
    refine lv_iload_n hx hb dX4_set_66 rfl (lv_at hl 4 rfl) ?_
    refine lv_iconst (v := nI 1) hx hb dX4_set_67 (by decide +kernel) ?_
    refine lv_iadd hx hb dX4_set_68 ?_
    refine va_iast hx hb hK hP hD hS 2 1 rfl rfl (vp_in_nI (by omega) (by omega)) dX4_set_69 (fun H locs hP hD hS => ?_)
    rw [nI_clamp (by omega)] at hP hD
    have hP : va_P (dC, dI) vwCl [(y0, .inr (4, [.int (nI 0), .int (nI N), .int (nI af), .ref s1, .ref s2, .ref s3, .ref s4, .ref s5, .int (nI pl), .int (pm_b go), .int (pm_b qu), .int (nI cy), .int (nI qc), .int (pm_b fr), .int (pm_b wq)])), (s1, .inl (t1, 401, .inl (pm_nf9 sm))), (s2, .inl (t2, 8000, .inl (upd (pm_nf9 gv) (((sm a) + j)) (p2 + nI 1)))), (s3, .inl (t3, 16, .inl (pm_nf9 gr))), (s4, .inl (t4, 400, .inl rc)), (s5, .inl (t5, 400, .inl mq))] H := hP
    have hD : va_D A [(y0, .inr (4, [.int (nI 0), .int (nI N), .int (nI af), .ref s1, .ref s2, .ref s3, .ref s4, .ref s5, .int (nI pl), .int (pm_b go), .int (pm_b qu), .int (nI cy), .int (nI qc), .int (pm_b fr), .int (pm_b wq)])), (s1, .inl (t1, 401, .inl (pm_nf9 sm))), (s2, .inl (t2, 8000, .inl (upd (pm_nf9 gv) (((sm a) + j)) (p2 + nI 1)))), (s3, .inl (t3, 16, .inl (pm_nf9 gr))), (s4, .inl (t4, 400, .inl rc)), (s5, .inl (t5, 400, .inl mq))] := hD
    rw [show upd (pm_nf9 gv) (((sm a) + j)) (p2 + nI 1) = pm_nf9 (pm_un gv (sm a + j) (pm_v p2)) from by rw [hv9.1]; exact pm_nf9_up gv _ _] at hP hD
    refine lv_aload_n hx hb dX4_set_70 rfl (lv_at hl 1 rfl) ?_
    have hPc := hP.sub (ws' := [(y0, .inr (4, [.int (nI 0), .int (nI N), .int (nI af), .ref s1, .ref s2, .ref s3, .ref s4, .ref s5, .int (nI pl), .int (pm_b go), .int (pm_b qu), .int (nI cy), .int (nI qc), .int (pm_b fr), .int (pm_b wq)])), (s1, .inl (t1, 401, .inl (pm_nf9 sm))), (s2, .inl (t2, 8000, .inl (pm_nf9 (pm_un gv (sm a + j) (pm_v p2))))), (s3, .inl (t3, 16, .inl (pm_nf9 gr))), (s4, .inl (t4, 400, .inl rc)), (s5, .inl (t5, 400, .inl mq))]) [0, 1, 2, 3, 4, 5] rfl
    have hDc := hD.sub (ws' := [(y0, .inr (4, [.int (nI 0), .int (nI N), .int (nI af), .ref s1, .ref s2, .ref s3, .ref s4, .ref s5, .int (nI pl), .int (pm_b go), .int (pm_b qu), .int (nI cy), .int (nI qc), .int (pm_b fr), .int (pm_b wq)])), (s1, .inl (t1, 401, .inl (pm_nf9 sm))), (s2, .inl (t2, 8000, .inl (pm_nf9 (pm_un gv (sm a + j) (pm_v p2))))), (s3, .inl (t3, 16, .inl (pm_nf9 gr))), (s4, .inl (t4, 400, .inl rc)), (s5, .inl (t5, 400, .inl mq))]) [0, 1, 2, 3, 4, 5] (by decide) rfl
    have hKc := hK.sub (tys' := [(t1, .int), (t2, .int), (t3, .int), (t4, .boolean), (t5, .boolean)]) [0, 1, 2, 3, 4] rfl
    have hFc := va_free (wc := [(y0, .inr (4, [.int (nI 0), .int (nI N), .int (nI af), .ref s1, .ref s2, .ref s3, .ref s4, .ref s5, .int (nI pl), .int (pm_b go), .int (pm_b qu), .int (nI cy), .int (nI qc), .int (pm_b fr), .int (pm_b wq)])), (s1, .inl (t1, 401, .inl (pm_nf9 sm))), (s2, .inl (t2, 8000, .inl (pm_nf9 (pm_un gv (sm a + j) (pm_v p2))))), (s3, .inl (t3, 16, .inl (pm_nf9 gr))), (s4, .inl (t4, 400, .inl rc)), (s5, .inl (t5, 400, .inl mq))]) hD hS hA [0, 1, 2, 3, 4, 5] rfl
    refine va_callv (va_runV (As := []) (rest := []) ⟨hx, hb, hml, hown, hts⟩ (c_Q_changed l dC dI y0 s1 s2 s3 s4 s5 t1 t2 t3 t4 t5 0 N af sm (pm_un gv (sm a + j) (pm_v p2)) gr rc mq pl go qu cy qc fr wq H.size) (cwV 0 hts (gw_V ml_X4_54 mi_X4_changed ms_X4_changed mn_X4 mc_X4_changed) rfl rfl rfl (by decide +kernel) ⟨Nat.le_of_ble_eq_true rfl, Nat.le_of_ble_eq_true rfl⟩) ⟨fun a U g mk q => by obtain ⟨q0, q1, qP, qK, qD⟩ := q; exact ⟨q0, q1, qP, va_K.moved (u := U) (U := U.calling g mk a) (Vm.Alike.refl U.vm) qK, qD⟩, va_recv hKc hPc (ci := 4) (q0 := 0) rfl rfl, fun U hU hW => ⟨rfl, by rw [hU], by rw [hU]; exact hPc, va_K.moved hW.alike hKc, hDc.weaken (fun _ _ _ _ => trivial)⟩⟩ rfl rfl hl.1 rfl (lv_room (Nat.le_of_ble_eq_true rfl)) dX4_set_71 ⟨Nat.le_of_ble_eq_true rfl, Nat.le_of_ble_eq_true rfl⟩) hS (fun q _ h => hFc q h) hFc (fun u t H1 locs ht hvm hw hB hz1 hk1 hS => ?_)
    obtain ⟨hP1, hK1, hD1⟩ := hB
    rw [ht] at hP1
    have hK1 := va_K.moved hvm.symm hK1
    obtain ⟨hP, hD⟩ := va_join (wr := []) (w1 := [(y0, .inr (4, [.int (nI 0), .int (nI N), .int (nI af), .ref s1, .ref s2, .ref s3, .ref s4, .ref s5, .int (nI pl), .int (pm_b go), .int (nI 0), .int (nI cy), .int (nI qc), .int (nI 0), .int (pm_b wq)])), (s1, .inl (t1, 401, .inl (pm_nf9 sm))), (s2, .inl (t2, 8000, .inl (pm_nf9 (pm_un gv (sm a + j) (pm_v p2))))), (s3, .inl (t3, 16, .inl (pm_nf9 gr))), (s4, .inl (t4, 400, .inl rc)), (s5, .inl (t5, 400, .inl mq))]) hP hD [0, 1, 2, 3, 4, 5] [] rfl rfl (by decide) (by decide) hk1 hFc hP1 hD1
    clear hPc hDc hKc hFc hP1 hK1 hD1
    generalize H1 = H at hP hS ⊢
    have hP : va_P (dC, dI) vwCl [(y0, .inr (4, [.int (nI 0), .int (nI N), .int (nI af), .ref s1, .ref s2, .ref s3, .ref s4, .ref s5, .int (nI pl), .int (pm_b go), .int (nI 0), .int (nI cy), .int (nI qc), .int (nI 0), .int (pm_b wq)])), (s1, .inl (t1, 401, .inl (pm_nf9 sm))), (s2, .inl (t2, 8000, .inl (pm_nf9 (pm_un gv (sm a + j) (pm_v p2))))), (s3, .inl (t3, 16, .inl (pm_nf9 gr))), (s4, .inl (t4, 400, .inl rc)), (s5, .inl (t5, 400, .inl mq))] H := hP.sub [0, 1, 2, 3, 4, 5] rfl
    have hD : va_D A [(y0, .inr (4, [.int (nI 0), .int (nI N), .int (nI af), .ref s1, .ref s2, .ref s3, .ref s4, .ref s5, .int (nI pl), .int (pm_b go), .int (nI 0), .int (nI cy), .int (nI qc), .int (nI 0), .int (pm_b wq)])), (s1, .inl (t1, 401, .inl (pm_nf9 sm))), (s2, .inl (t2, 8000, .inl (pm_nf9 (pm_un gv (sm a + j) (pm_v p2))))), (s3, .inl (t3, 16, .inl (pm_nf9 gr))), (s4, .inl (t4, 400, .inl rc)), (s5, .inl (t5, 400, .inl mq))] := hD.sub [0, 1, 2, 3, 4, 5] (by decide) rfl
    refine lv_iload hx hb dX4_set_74 (lv_at hl 0 rfl) ?_
    exact W.iret (v := nI (gv (((sm a) + j))) - nI 1) hx hb hr (fun t ht hW => ⟨⟨nI (gv (((sm a) + j))) - nI 1, (), rfl, rfl, by rw [ht]; exact hP, va_K.moved hW.alike hK, hD⟩, hS.F ht⟩) hS.2.2 dX4_set_76
  · refine lv_aload_n hx hb dX4_set_15 rfl (lv_at hl 0 rfl) ?_
    refine lv_iload_n hx hb dX4_set_16 rfl (lv_at hl 3 rfl) ?_
    have hPc := hP.sub (ws' := [(y0, .inr (4, [.int (nI th), .int (nI N), .int (nI af), .ref s1, .ref s2, .ref s3, .ref s4, .ref s5, .int (nI pl), .int (pm_b go), .int (pm_b qu), .int (nI cy), .int (nI qc), .int (pm_b fr), .int (pm_b wq)])), (s1, .inl (t1, 401, .inl (pm_nf9 sm))), (s2, .inl (t2, 8000, .inl (pm_nf9 gv))), (s3, .inl (t3, 16, .inl (pm_nf9 gr))), (s4, .inl (t4, 400, .inl rc)), (s5, .inl (t5, 400, .inl mq))]) [0, 1, 2, 3, 4, 5] rfl
    have hDc := hD.sub (ws' := [(y0, .inr (4, [.int (nI th), .int (nI N), .int (nI af), .ref s1, .ref s2, .ref s3, .ref s4, .ref s5, .int (nI pl), .int (pm_b go), .int (pm_b qu), .int (nI cy), .int (nI qc), .int (pm_b fr), .int (pm_b wq)])), (s1, .inl (t1, 401, .inl (pm_nf9 sm))), (s2, .inl (t2, 8000, .inl (pm_nf9 gv))), (s3, .inl (t3, 16, .inl (pm_nf9 gr))), (s4, .inl (t4, 400, .inl rc)), (s5, .inl (t5, 400, .inl mq))]) [0, 1, 2, 3, 4, 5] (by decide) rfl
    have hKc := hK.sub (tys' := [(t1, .int), (t2, .int), (t3, .int), (t4, .boolean), (t5, .boolean)]) [0, 1, 2, 3, 4] rfl
    have hFc := va_free (wc := [(y0, .inr (4, [.int (nI th), .int (nI N), .int (nI af), .ref s1, .ref s2, .ref s3, .ref s4, .ref s5, .int (nI pl), .int (pm_b go), .int (pm_b qu), .int (nI cy), .int (nI qc), .int (pm_b fr), .int (pm_b wq)])), (s1, .inl (t1, 401, .inl (pm_nf9 sm))), (s2, .inl (t2, 8000, .inl (pm_nf9 gv))), (s3, .inl (t3, 16, .inl (pm_nf9 gr))), (s4, .inl (t4, 400, .inl rc)), (s5, .inl (t5, 400, .inl mq))]) hD hS hA [0, 1, 2, 3, 4, 5] rfl
    refine va_calli (va_runV (As := [.int p2]) (rest := [.ref y0]) ⟨hx, hb, hml, hown, hts⟩ (c_Q_isObject l dC dI y0 s1 s2 s3 s4 s5 t1 t2 t3 t4 t5 th N af sm gv gr rc mq pl go qu cy qc fr wq p2 H.size) (cwV 1 hts (gw_V ml_X4_36 mi_X4_isObject ms_X4_isObject mn_X4 mc_X4_isObject) rfl rfl rfl (by decide +kernel) ⟨Nat.le_of_ble_eq_true rfl, Nat.le_of_ble_eq_true rfl⟩) ⟨fun a U g mk q => by obtain ⟨q0, q1, qP, qK, qD⟩ := q; exact ⟨q0, q1, qP, va_K.moved (u := U) (U := U.calling g mk a) (Vm.Alike.refl U.vm) qK, qD⟩, va_recv hKc hPc (ci := 4) (q0 := 0) rfl rfl, fun U hU hW => ⟨rfl, by rw [hU], by rw [hU]; exact hPc, va_K.moved hW.alike hKc, hDc.weaken (fun _ _ _ _ => trivial)⟩⟩ rfl rfl hl.1 rfl (lv_room (Nat.le_of_ble_eq_true rfl)) dX4_set_17 ⟨Nat.le_of_ble_eq_true rfl, Nat.le_of_ble_eq_true rfl⟩) hS (fun q _ h => hFc q h) hFc (fun r_9 u t H1 locs ht hvm hw hB hz1 hk1 hS => ?_)
    obtain ⟨hP1, hK1, hD1⟩ := hB
    rw [ht] at hP1
    have hK1 := va_K.moved hvm.symm hK1
    obtain ⟨hP, hD⟩ := va_join (wr := []) (w1 := [(y0, .inr (4, [.int (nI th), .int (nI N), .int (nI af), .ref s1, .ref s2, .ref s3, .ref s4, .ref s5, .int (nI pl), .int (pm_b go), .int (pm_b qu), .int (nI cy), .int (nI qc), .int (pm_b fr), .int (pm_b wq)])), (s1, .inl (t1, 401, .inl (pm_nf9 sm))), (s2, .inl (t2, 8000, .inl (pm_nf9 gv))), (s3, .inl (t3, 16, .inl (pm_nf9 gr))), (s4, .inl (t4, 400, .inl rc)), (s5, .inl (t5, 400, .inl mq))]) hP hD [0, 1, 2, 3, 4, 5] [] rfl rfl (by decide) (by decide) hk1 hFc hP1 hD1
    clear hPc hDc hKc hFc hP1 hK1 hD1
    generalize H1 = H at hP hS ⊢
    have hP : va_P (dC, dI) vwCl [(y0, .inr (4, [.int (nI th), .int (nI N), .int (nI af), .ref s1, .ref s2, .ref s3, .ref s4, .ref s5, .int (nI pl), .int (pm_b go), .int (pm_b qu), .int (nI cy), .int (nI qc), .int (pm_b fr), .int (pm_b wq)])), (s1, .inl (t1, 401, .inl (pm_nf9 sm))), (s2, .inl (t2, 8000, .inl (pm_nf9 gv))), (s3, .inl (t3, 16, .inl (pm_nf9 gr))), (s4, .inl (t4, 400, .inl rc)), (s5, .inl (t5, 400, .inl mq))] H := hP.sub [0, 1, 2, 3, 4, 5] rfl
    have hD : va_D A [(y0, .inr (4, [.int (nI th), .int (nI N), .int (nI af), .ref s1, .ref s2, .ref s3, .ref s4, .ref s5, .int (nI pl), .int (pm_b go), .int (pm_b qu), .int (nI cy), .int (nI qc), .int (pm_b fr), .int (pm_b wq)])), (s1, .inl (t1, 401, .inl (pm_nf9 sm))), (s2, .inl (t2, 8000, .inl (pm_nf9 gv))), (s3, .inl (t3, 16, .inl (pm_nf9 gr))), (s4, .inl (t4, 400, .inl rc)), (s5, .inl (t5, 400, .inl mq))] := hD.sub [0, 1, 2, 3, 4, 5] (by decide) rfl
    rcases pm_tf (pm_has N p2) with hh_17 | hh_17
    · obtain rfl : r_9 = nI 1 := hw.trans (by rw [hh_17]; rfl)
      refine lv_if_eq (tgt := 27) hx hb dX4_set_20 (by decide) (fun c_20 => absurd c_20 (by decide +kernel)) (fun c_20 => ?_)
      refine lv_iconst (v := nI 1) hx hb dX4_set_23 (by decide +kernel) ?_
      refine lv_goto (tgt := 28) hx hb dX4_set_24 (by decide) ?_
      refine lv_iconst (v := nI 1) hx hb dX4_set_28 (by decide +kernel) ?_
      have hPc := hP.sub (ws' := [(y0, .inr (4, [.int (nI th), .int (nI N), .int (nI af), .ref s1, .ref s2, .ref s3, .ref s4, .ref s5, .int (nI pl), .int (pm_b go), .int (pm_b qu), .int (nI cy), .int (nI qc), .int (pm_b fr), .int (pm_b wq)])), (s1, .inl (t1, 401, .inl (pm_nf9 sm))), (s2, .inl (t2, 8000, .inl (pm_nf9 gv))), (s3, .inl (t3, 16, .inl (pm_nf9 gr))), (s4, .inl (t4, 400, .inl rc)), (s5, .inl (t5, 400, .inl mq))]) [0, 1, 2, 3, 4, 5] rfl
      have hDc := hD.sub (ws' := [(y0, .inr (4, [.int (nI th), .int (nI N), .int (nI af), .ref s1, .ref s2, .ref s3, .ref s4, .ref s5, .int (nI pl), .int (pm_b go), .int (pm_b qu), .int (nI cy), .int (nI qc), .int (pm_b fr), .int (pm_b wq)])), (s1, .inl (t1, 401, .inl (pm_nf9 sm))), (s2, .inl (t2, 8000, .inl (pm_nf9 gv))), (s3, .inl (t3, 16, .inl (pm_nf9 gr))), (s4, .inl (t4, 400, .inl rc)), (s5, .inl (t5, 400, .inl mq))]) [0, 1, 2, 3, 4, 5] (by decide) rfl
      have hKc := hK.sub (tys' := [(t1, .int), (t2, .int), (t3, .int), (t4, .boolean), (t5, .boolean)]) [0, 1, 2, 3, 4] rfl
      have hFc := va_free (wc := [(y0, .inr (4, [.int (nI th), .int (nI N), .int (nI af), .ref s1, .ref s2, .ref s3, .ref s4, .ref s5, .int (nI pl), .int (pm_b go), .int (pm_b qu), .int (nI cy), .int (nI qc), .int (pm_b fr), .int (pm_b wq)])), (s1, .inl (t1, 401, .inl (pm_nf9 sm))), (s2, .inl (t2, 8000, .inl (pm_nf9 gv))), (s3, .inl (t3, 16, .inl (pm_nf9 gr))), (s4, .inl (t4, 400, .inl rc)), (s5, .inl (t5, 400, .inl mq))]) hD hS hA [0, 1, 2, 3, 4, 5] rfl
      refine va_calli (va_runV (As := [.int (nI 1), .int (nI 1)]) (rest := []) ⟨hx, hb, hml, hown, hts⟩ (c_Q_goes l dC dI y0 s1 s2 s3 s4 s5 t1 t2 t3 t4 t5 th N af sm gv gr rc mq pl go qu cy qc fr wq true true H.size) (cwV 2 hts (gw_V ml_X4_47 mi_X4_goes ms_X4_goes mn_X4 mc_X4_goes) rfl rfl rfl (by decide +kernel) ⟨Nat.le_of_ble_eq_true rfl, Nat.le_of_ble_eq_true rfl⟩) ⟨fun a U g mk q => by obtain ⟨q0, q1, qP, qK, qD⟩ := q; exact ⟨q0, q1, qP, va_K.moved (u := U) (U := U.calling g mk a) (Vm.Alike.refl U.vm) qK, qD⟩, va_recv hKc hPc (ci := 4) (q0 := 0) rfl rfl, fun U hU hW => ⟨rfl, by rw [hU], by rw [hU]; exact hPc, va_K.moved hW.alike hKc, hDc.weaken (fun _ _ _ _ => trivial)⟩⟩ rfl rfl hl.1 rfl (lv_room (Nat.le_of_ble_eq_true rfl)) dX4_set_29 ⟨Nat.le_of_ble_eq_true rfl, Nat.le_of_ble_eq_true rfl⟩) hS (fun q _ h => hFc q h) hFc (fun r_10 u t H1 locs ht hvm hw hB hz1 hk1 hS => ?_)
      obtain ⟨hP1, hK1, hD1⟩ := hB
      rw [ht] at hP1
      have hK1 := va_K.moved hvm.symm hK1
      obtain ⟨hP, hD⟩ := va_join (wr := []) (w1 := [(y0, .inr (4, [.int (nI 0), .int (nI N), .int (nI af), .ref s1, .ref s2, .ref s3, .ref s4, .ref s5, .int (nI pl), .int (pm_b go), .int (pm_b qu), .int (nI cy), .int (nI qc), .int (pm_b fr), .int (pm_b wq)])), (s1, .inl (t1, 401, .inl (pm_nf9 sm))), (s2, .inl (t2, 8000, .inl (pm_nf9 gv))), (s3, .inl (t3, 16, .inl (pm_nf9 gr))), (s4, .inl (t4, 400, .inl rc)), (s5, .inl (t5, 400, .inl mq))]) hP hD [0, 1, 2, 3, 4, 5] [] rfl rfl (by decide) (by decide) hk1 hFc hP1 hD1
      clear hPc hDc hKc hFc hP1 hK1 hD1
      generalize H1 = H at hP hS ⊢
      have hP : va_P (dC, dI) vwCl [(y0, .inr (4, [.int (nI 0), .int (nI N), .int (nI af), .ref s1, .ref s2, .ref s3, .ref s4, .ref s5, .int (nI pl), .int (pm_b go), .int (pm_b qu), .int (nI cy), .int (nI qc), .int (pm_b fr), .int (pm_b wq)])), (s1, .inl (t1, 401, .inl (pm_nf9 sm))), (s2, .inl (t2, 8000, .inl (pm_nf9 gv))), (s3, .inl (t3, 16, .inl (pm_nf9 gr))), (s4, .inl (t4, 400, .inl rc)), (s5, .inl (t5, 400, .inl mq))] H := hP.sub [0, 1, 2, 3, 4, 5] rfl
      have hD : va_D A [(y0, .inr (4, [.int (nI 0), .int (nI N), .int (nI af), .ref s1, .ref s2, .ref s3, .ref s4, .ref s5, .int (nI pl), .int (pm_b go), .int (pm_b qu), .int (nI cy), .int (nI qc), .int (pm_b fr), .int (pm_b wq)])), (s1, .inl (t1, 401, .inl (pm_nf9 sm))), (s2, .inl (t2, 8000, .inl (pm_nf9 gv))), (s3, .inl (t3, 16, .inl (pm_nf9 gr))), (s4, .inl (t4, 400, .inl rc)), (s5, .inl (t5, 400, .inl mq))] := hD.sub [0, 1, 2, 3, 4, 5] (by decide) rfl
      obtain rfl : r_10 = nI 1 := hw
      refine lv_if_ne (tgt := 37) hx hb dX4_set_32 (by decide) (fun c_32 => ?_) (fun c_32 => absurd c_32 (by decide +kernel))
      refine lv_aload_n hx hb dX4_set_37 rfl (lv_at hl 0 rfl) ?_
      refine va_get (D := (dC, dI)) (ci := 4) (v := .ref s2) (C := RX4) (T := TX4) (N := 15) hx hb hts iw_X4 hown hK hP 0 rfl rfl 4 (by decide) (hts _ mf_X4_13) (fun _ h9 => h9) rfl dX4_set_38 ?_
      refine lv_aload_n hx hb dX4_set_41 rfl (lv_at hl 0 rfl) ?_
      refine va_get (D := (dC, dI)) (ci := 4) (v := .ref s1) (C := RX4) (T := TX4) (N := 15) hx hb hts iw_X4 hown hK hP 0 rfl rfl 3 (by decide) (hts _ mf_X4_7) (fun _ h9 => h9) rfl dX4_set_42 ?_
      refine lv_iload_n hx hb dX4_set_45 rfl (lv_at hl 1 rfl) ?_
      refine va_iald hx hb hK hP 1 0 rfl rfl (vp_in_nI (by omega) (by omega)) dX4_set_46 ?_
      refine lv_topi (fun x_11 ex_11 => ?_)
      rw [nI_clamp (by omega)] at ex_11
      obtain rfl : x_11 = nI (sm a) := ex_11
      refine lv_iload_n hx hb dX4_set_47 rfl (lv_at hl 2 rfl) ?_
      refine lv_iadd hx hb dX4_set_48 ?_
      refine lv_topi (fun x_12 ex_12 => ?_)
      obtain rfl : x_12 = nI ((sm a) + j) := ex_12.trans (nI_add _ _)
      refine va_iald hx hb hK hP 2 1 rfl rfl (vp_in_nI (by omega) (by omega)) dX4_set_49 ?_
      refine lv_topi (fun x_13 ex_13 => ?_)
      rw [nI_clamp (by omega)] at ex_13
      obtain rfl : x_13 = nI (gv (((sm a) + j))) := ex_13
      refine lv_iconst (v := nI 1) hx hb dX4_set_50 (by decide +kernel) ?_
      refine lv_isub hx hb dX4_set_51 ?_
      refine lv_istore (lv' := [(4, .int (nI (gv (((sm a) + j))) - nI 1)), (0, .ref y0), (1, .int (nI a)), (2, .int (nI j)), (3, .int p2)]) hx hb dX4_set_52 hl (by decide) rfl (fun ls hl => ?_)
      refine lv_aload_n hx hb dX4_set_54 rfl (lv_at hl 1 rfl) ?_
      refine va_get (D := (dC, dI)) (ci := 4) (v := .ref s2) (C := RX4) (T := TX4) (N := 15) hx hb hts iw_X4 hown hK hP 0 rfl rfl 4 (by decide) (hts _ mf_X4_13) (fun _ h9 => h9) rfl dX4_set_55 ?_
      refine lv_aload_n hx hb dX4_set_58 rfl (lv_at hl 1 rfl) ?_
      refine va_get (D := (dC, dI)) (ci := 4) (v := .ref s1) (C := RX4) (T := TX4) (N := 15) hx hb hts iw_X4 hown hK hP 0 rfl rfl 3 (by decide) (hts _ mf_X4_7) (fun _ h9 => h9) rfl dX4_set_59 ?_
      refine lv_iload_n hx hb dX4_set_62 rfl (lv_at hl 2 rfl) ?_
      refine va_iald hx hb hK hP 1 0 rfl rfl (vp_in_nI (by omega) (by omega)) dX4_set_63 ?_
      refine lv_topi (fun x_14 ex_14 => ?_)
      rw [nI_clamp (by omega)] at ex_14
      obtain rfl : x_14 = nI (sm a) := ex_14
      refine lv_iload_n hx hb dX4_set_64 rfl (lv_at hl 3 rfl) ?_
      refine lv_iadd hx hb dX4_set_65 ?_
      refine lv_topi (fun x_15 ex_15 => ?_)
      obtain rfl : x_15 = nI ((sm a) + j) := ex_15.trans (nI_add _ _)
      refine lv_iload_n hx hb dX4_set_66 rfl (lv_at hl 4 rfl) ?_
      refine lv_iconst (v := nI 1) hx hb dX4_set_67 (by decide +kernel) ?_
      refine lv_iadd hx hb dX4_set_68 ?_
      refine va_iast hx hb hK hP hD hS 2 1 rfl rfl (vp_in_nI (by omega) (by omega)) dX4_set_69 (fun H locs hP hD hS => ?_)
      rw [nI_clamp (by omega)] at hP hD
      have hP : va_P (dC, dI) vwCl [(y0, .inr (4, [.int (nI 0), .int (nI N), .int (nI af), .ref s1, .ref s2, .ref s3, .ref s4, .ref s5, .int (nI pl), .int (pm_b go), .int (pm_b qu), .int (nI cy), .int (nI qc), .int (pm_b fr), .int (pm_b wq)])), (s1, .inl (t1, 401, .inl (pm_nf9 sm))), (s2, .inl (t2, 8000, .inl (upd (pm_nf9 gv) (((sm a) + j)) (p2 + nI 1)))), (s3, .inl (t3, 16, .inl (pm_nf9 gr))), (s4, .inl (t4, 400, .inl rc)), (s5, .inl (t5, 400, .inl mq))] H := hP
      have hD : va_D A [(y0, .inr (4, [.int (nI 0), .int (nI N), .int (nI af), .ref s1, .ref s2, .ref s3, .ref s4, .ref s5, .int (nI pl), .int (pm_b go), .int (pm_b qu), .int (nI cy), .int (nI qc), .int (pm_b fr), .int (pm_b wq)])), (s1, .inl (t1, 401, .inl (pm_nf9 sm))), (s2, .inl (t2, 8000, .inl (upd (pm_nf9 gv) (((sm a) + j)) (p2 + nI 1)))), (s3, .inl (t3, 16, .inl (pm_nf9 gr))), (s4, .inl (t4, 400, .inl rc)), (s5, .inl (t5, 400, .inl mq))] := hD
      rw [show upd (pm_nf9 gv) (((sm a) + j)) (p2 + nI 1) = pm_nf9 (pm_un gv (sm a + j) (pm_v p2)) from by rw [hv9.1]; exact pm_nf9_up gv _ _] at hP hD
      refine lv_aload_n hx hb dX4_set_70 rfl (lv_at hl 1 rfl) ?_
      have hPc := hP.sub (ws' := [(y0, .inr (4, [.int (nI 0), .int (nI N), .int (nI af), .ref s1, .ref s2, .ref s3, .ref s4, .ref s5, .int (nI pl), .int (pm_b go), .int (pm_b qu), .int (nI cy), .int (nI qc), .int (pm_b fr), .int (pm_b wq)])), (s1, .inl (t1, 401, .inl (pm_nf9 sm))), (s2, .inl (t2, 8000, .inl (pm_nf9 (pm_un gv (sm a + j) (pm_v p2))))), (s3, .inl (t3, 16, .inl (pm_nf9 gr))), (s4, .inl (t4, 400, .inl rc)), (s5, .inl (t5, 400, .inl mq))]) [0, 1, 2, 3, 4, 5] rfl
      have hDc := hD.sub (ws' := [(y0, .inr (4, [.int (nI 0), .int (nI N), .int (nI af), .ref s1, .ref s2, .ref s3, .ref s4, .ref s5, .int (nI pl), .int (pm_b go), .int (pm_b qu), .int (nI cy), .int (nI qc), .int (pm_b fr), .int (pm_b wq)])), (s1, .inl (t1, 401, .inl (pm_nf9 sm))), (s2, .inl (t2, 8000, .inl (pm_nf9 (pm_un gv (sm a + j) (pm_v p2))))), (s3, .inl (t3, 16, .inl (pm_nf9 gr))), (s4, .inl (t4, 400, .inl rc)), (s5, .inl (t5, 400, .inl mq))]) [0, 1, 2, 3, 4, 5] (by decide) rfl
      have hKc := hK.sub (tys' := [(t1, .int), (t2, .int), (t3, .int), (t4, .boolean), (t5, .boolean)]) [0, 1, 2, 3, 4] rfl
      have hFc := va_free (wc := [(y0, .inr (4, [.int (nI 0), .int (nI N), .int (nI af), .ref s1, .ref s2, .ref s3, .ref s4, .ref s5, .int (nI pl), .int (pm_b go), .int (pm_b qu), .int (nI cy), .int (nI qc), .int (pm_b fr), .int (pm_b wq)])), (s1, .inl (t1, 401, .inl (pm_nf9 sm))), (s2, .inl (t2, 8000, .inl (pm_nf9 (pm_un gv (sm a + j) (pm_v p2))))), (s3, .inl (t3, 16, .inl (pm_nf9 gr))), (s4, .inl (t4, 400, .inl rc)), (s5, .inl (t5, 400, .inl mq))]) hD hS hA [0, 1, 2, 3, 4, 5] rfl
      refine va_callv (va_runV (As := []) (rest := []) ⟨hx, hb, hml, hown, hts⟩ (c_Q_changed l dC dI y0 s1 s2 s3 s4 s5 t1 t2 t3 t4 t5 0 N af sm (pm_un gv (sm a + j) (pm_v p2)) gr rc mq pl go qu cy qc fr wq H.size) (cwV 0 hts (gw_V ml_X4_54 mi_X4_changed ms_X4_changed mn_X4 mc_X4_changed) rfl rfl rfl (by decide +kernel) ⟨Nat.le_of_ble_eq_true rfl, Nat.le_of_ble_eq_true rfl⟩) ⟨fun a U g mk q => by obtain ⟨q0, q1, qP, qK, qD⟩ := q; exact ⟨q0, q1, qP, va_K.moved (u := U) (U := U.calling g mk a) (Vm.Alike.refl U.vm) qK, qD⟩, va_recv hKc hPc (ci := 4) (q0 := 0) rfl rfl, fun U hU hW => ⟨rfl, by rw [hU], by rw [hU]; exact hPc, va_K.moved hW.alike hKc, hDc.weaken (fun _ _ _ _ => trivial)⟩⟩ rfl rfl hl.1 rfl (lv_room (Nat.le_of_ble_eq_true rfl)) dX4_set_71 ⟨Nat.le_of_ble_eq_true rfl, Nat.le_of_ble_eq_true rfl⟩) hS (fun q _ h => hFc q h) hFc (fun u t H1 locs ht hvm hw hB hz1 hk1 hS => ?_)
      obtain ⟨hP1, hK1, hD1⟩ := hB
      rw [ht] at hP1
      have hK1 := va_K.moved hvm.symm hK1
      obtain ⟨hP, hD⟩ := va_join (wr := []) (w1 := [(y0, .inr (4, [.int (nI 0), .int (nI N), .int (nI af), .ref s1, .ref s2, .ref s3, .ref s4, .ref s5, .int (nI pl), .int (pm_b go), .int (nI 0), .int (nI cy), .int (nI qc), .int (nI 0), .int (pm_b wq)])), (s1, .inl (t1, 401, .inl (pm_nf9 sm))), (s2, .inl (t2, 8000, .inl (pm_nf9 (pm_un gv (sm a + j) (pm_v p2))))), (s3, .inl (t3, 16, .inl (pm_nf9 gr))), (s4, .inl (t4, 400, .inl rc)), (s5, .inl (t5, 400, .inl mq))]) hP hD [0, 1, 2, 3, 4, 5] [] rfl rfl (by decide) (by decide) hk1 hFc hP1 hD1
      clear hPc hDc hKc hFc hP1 hK1 hD1
      generalize H1 = H at hP hS ⊢
      have hP : va_P (dC, dI) vwCl [(y0, .inr (4, [.int (nI 0), .int (nI N), .int (nI af), .ref s1, .ref s2, .ref s3, .ref s4, .ref s5, .int (nI pl), .int (pm_b go), .int (nI 0), .int (nI cy), .int (nI qc), .int (nI 0), .int (pm_b wq)])), (s1, .inl (t1, 401, .inl (pm_nf9 sm))), (s2, .inl (t2, 8000, .inl (pm_nf9 (pm_un gv (sm a + j) (pm_v p2))))), (s3, .inl (t3, 16, .inl (pm_nf9 gr))), (s4, .inl (t4, 400, .inl rc)), (s5, .inl (t5, 400, .inl mq))] H := hP.sub [0, 1, 2, 3, 4, 5] rfl
      have hD : va_D A [(y0, .inr (4, [.int (nI 0), .int (nI N), .int (nI af), .ref s1, .ref s2, .ref s3, .ref s4, .ref s5, .int (nI pl), .int (pm_b go), .int (nI 0), .int (nI cy), .int (nI qc), .int (nI 0), .int (pm_b wq)])), (s1, .inl (t1, 401, .inl (pm_nf9 sm))), (s2, .inl (t2, 8000, .inl (pm_nf9 (pm_un gv (sm a + j) (pm_v p2))))), (s3, .inl (t3, 16, .inl (pm_nf9 gr))), (s4, .inl (t4, 400, .inl rc)), (s5, .inl (t5, 400, .inl mq))] := hD.sub [0, 1, 2, 3, 4, 5] (by decide) rfl
      refine lv_iload hx hb dX4_set_74 (lv_at hl 0 rfl) ?_
      exact W.iret (v := nI (gv (((sm a) + j))) - nI 1) hx hb hr (fun t ht hW => ⟨⟨nI (gv (((sm a) + j))) - nI 1, (), rfl, rfl, by rw [ht]; exact hP, va_K.moved hW.alike hK, hD⟩, hS.F ht⟩) hS.2.2 dX4_set_76
    · exact absurd hp (by rw [decide_eq_false c_12, hh_17]; decide)

set_option maxHeartbeats 4000000 in
set_option maxRecDepth 100000 in
/-- set: refused -/
theorem c_Q_set_b (l : Launch) (dC : Nat → ClassId) (dI : Nat → Nat → Nat) (y0 s1 s2 s3 s4 s5 : Nat) (t1 t2 t3 t4 t5 : ClassId) (th N af : Nat) (sm gv gr : Nat → Nat) (rc mq : Nat → Int32) (pl : Nat) (go qu : Bool) (cy qc : Nat) (fr wq : Bool) (p0 p1 p2 : Int32) (sz : Nat) (hM : pq_MO N sm gv gr af) (hp : (pm_hf N (pq_dn sm) p0 p1 && (decide (p2 = -1) || pm_has N p2)) = false) : Met l yX4_set wsX4_set ({ frames := 2, cells := 0, slots := 0, locals := 43 }) (va_Pc [.ref y0, .int p0, .int p1, .int p2] (fun U => U.heap.size = sz ∧ va_P (dC, dI) vwCl [(y0, .inr (4, [.int (nI th), .int (nI N), .int (nI af), .ref s1, .ref s2, .ref s3, .ref s4, .ref s5, .int (nI pl), .int (pm_b go), .int (pm_b qu), .int (nI cy), .int (nI qc), .int (pm_b fr), .int (pm_b wq)])), (s1, .inl (t1, 401, .inl (pm_nf9 sm))), (s2, .inl (t2, 8000, .inl (pm_nf9 gv))), (s3, .inl (t3, 16, .inl (pm_nf9 gr))), (s4, .inl (t4, 400, .inl rc)), (s5, .inl (t5, 400, .inl mq))] U.heap ∧ va_K (dC, dI) vwCl [(t1, .int), (t2, .int), (t3, .int), (t4, .boolean), (t5, .boolean)] U ∧ va_D (fun _ => True) [(y0, .inr (4, [.int (nI th), .int (nI N), .int (nI af), .ref s1, .ref s2, .ref s3, .ref s4, .ref s5, .int (nI pl), .int (pm_b go), .int (pm_b qu), .int (nI cy), .int (nI qc), .int (pm_b fr), .int (pm_b wq)])), (s1, .inl (t1, 401, .inl (pm_nf9 sm))), (s2, .inl (t2, 8000, .inl (pm_nf9 gv))), (s3, .inl (t3, 16, .inl (pm_nf9 gr))), (s4, .inl (t4, 400, .inl rc)), (s5, .inl (t5, 400, .inl mq))])) (va_Qi (fun (_ : Int32) (_ : Unit) => True) (fun (_ : Unit) (t : State) => va_P (dC, dI) vwCl [(y0, .inr (4, [.int (nI 1), .int (nI N), .int (nI af), .ref s1, .ref s2, .ref s3, .ref s4, .ref s5, .int (nI pl), .int (pm_b go), .int (pm_b qu), .int (nI cy), .int (nI qc), .int (pm_b fr), .int (pm_b wq)])), (s1, .inl (t1, 401, .inl (pm_nf9 sm))), (s2, .inl (t2, 8000, .inl (pm_nf9 gv))), (s3, .inl (t3, 16, .inl (pm_nf9 gr))), (s4, .inl (t4, 400, .inl rc)), (s5, .inl (t5, 400, .inl mq))] t.heap ∧ va_K (dC, dI) vwCl [(t1, .int), (t2, .int), (t3, .int), (t4, .boolean), (t5, .boolean)] t ∧ va_D (va_A [(y0, .inr (4, [.int (nI th), .int (nI N), .int (nI af), .ref s1, .ref s2, .ref s3, .ref s4, .ref s5, .int (nI pl), .int (pm_b go), .int (pm_b qu), .int (nI cy), .int (nI qc), .int (pm_b fr), .int (pm_b wq)])), (s1, .inl (t1, 401, .inl (pm_nf9 sm))), (s2, .inl (t2, 8000, .inl (pm_nf9 gv))), (s3, .inl (t3, 16, .inl (pm_nf9 gr))), (s4, .inl (t4, 400, .inl rc)), (s5, .inl (t5, 400, .inl mq))] sz) [(y0, .inr (4, [.int (nI 1), .int (nI N), .int (nI af), .ref s1, .ref s2, .ref s3, .ref s4, .ref s5, .int (nI pl), .int (pm_b go), .int (pm_b qu), .int (nI cy), .int (nI qc), .int (pm_b fr), .int (pm_b wq)])), (s1, .inl (t1, 401, .inl (pm_nf9 sm))), (s2, .inl (t2, 8000, .inl (pm_nf9 gv))), (s3, .inl (t3, 16, .inl (pm_nf9 gr))), (s4, .inl (t4, 400, .inl rc)), (s5, .inl (t5, 400, .inl mq))]) (va_A [(y0, .inr (4, [.int (nI th), .int (nI N), .int (nI af), .ref s1, .ref s2, .ref s3, .ref s4, .ref s5, .int (nI pl), .int (pm_b go), .int (pm_b qu), .int (nI cy), .int (nI qc), .int (pm_b fr), .int (pm_b wq)])), (s1, .inl (t1, 401, .inl (pm_nf9 sm))), (s2, .inl (t2, 8000, .inl (pm_nf9 gv))), (s3, .inl (t3, 16, .inl (pm_nf9 gr))), (s4, .inl (t4, 400, .inl rc)), (s5, .inl (t5, 400, .inl mq))] sz)) 0 0 (va_A [(y0, .inr (4, [.int (nI th), .int (nI N), .int (nI af), .ref s1, .ref s2, .ref s3, .ref s4, .ref s5, .int (nI pl), .int (pm_b go), .int (pm_b qu), .int (nI cy), .int (nI qc), .int (pm_b fr), .int (pm_b wq)])), (s1, .inl (t1, 401, .inl (pm_nf9 sm))), (s2, .inl (t2, 8000, .inl (pm_nf9 gv))), (s3, .inl (t3, 16, .inl (pm_nf9 gr))), (s4, .inl (t4, 400, .inl rc)), (s5, .inl (t5, 400, .inl mq))] sz) := by
  refine Met.ofW (cc := cX4_set) (maxL := 5) (ret := (some .int)) (by decide) rfl ?_
  intro p e s m args below meth c s₁ B hml hv
  obtain ⟨rfl, hsz, hP, hK, hD0⟩ := hv
  have hx := B.exec
  have hb := B.bytes
  have hr := B.returns
  have hts : ∀ w ∈ gw, w.before _ s = true := fun w h => atoms_spec (ws := wsX4_set) B.pre w (List.mem_cons_of_mem _ h)
  have hown : s.vm.findClass RX4 = some m.cls := findClass_of_methodNamed B.named
  have hlocks := B.notSynchronized
  subst hsz
  have hD := hD0.self (sz := s.heap.size)
  generalize hAe : va_A [(y0, .inr (4, [.int (nI th), .int (nI N), .int (nI af), .ref s1, .ref s2, .ref s3, .ref s4, .ref s5, .int (nI pl), .int (pm_b go), .int (pm_b qu), .int (nI cy), .int (nI qc), .int (pm_b fr), .int (pm_b wq)])), (s1, .inl (t1, 401, .inl (pm_nf9 sm))), (s2, .inl (t2, 8000, .inl (pm_nf9 gv))), (s3, .inl (t3, 16, .inl (pm_nf9 gr))), (s4, .inl (t4, 400, .inl rc)), (s5, .inl (t5, 400, .inl mq))] s.heap.size = A at hD ⊢
  have hA : ∀ q : Nat, s.heap.size ≤ q → A q := fun q h => by rw [← hAe]; exact Or.inr h
  have hP : va_P (dC, dI) vwCl [(y0, .inr (4, [.int (nI th), .int (nI N), .int (nI af), .ref s1, .ref s2, .ref s3, .ref s4, .ref s5, .int (nI pl), .int (pm_b go), .int (pm_b qu), .int (nI cy), .int (nI qc), .int (pm_b fr), .int (pm_b wq)])), (s1, .inl (t1, 401, .inl (pm_nf9 sm))), (s2, .inl (t2, 8000, .inl (pm_nf9 gv))), (s3, .inl (t3, 16, .inl (pm_nf9 gr))), (s4, .inl (t4, 400, .inl rc)), (s5, .inl (t5, 400, .inl mq))] s.heap := hP
  have hl := lv_entry ([.ref y0, .int p0, .int p1, .int p2]) (n := 5) (Nat.le_of_ble_eq_true rfl)
  rw [lg_entry_eq]
  generalize (lg_sl ([.ref y0, .int p0, .int p1, .int p2]) ++ List.replicate (5 - (lg_sl ([.ref y0, .int p0, .int p1, .int p2])).length) Slot.unset).toArray = ls at hl ⊢
  have hl : lv_has ls 5 [(0, .ref y0), (1, .int p0), (2, .int p1), (3, .int p2)] := hl
  obtain ⟨H, hH⟩ : ∃ H : Heap, H = s.heap := ⟨_, rfl⟩
  rw [← hH]
  rw [← hH] at hP
  have hS : va_S A s.heap H [] := by rw [hH]; exact va_S.rf
  clear hH
  have hN := hM.1
  refine lv_aload_n hx hb dX4_set_0 rfl (lv_at hl 0 rfl) ?_
  refine lv_aload_n hx hb dX4_set_1 rfl (lv_at hl 0 rfl) ?_
  refine lv_iload_n hx hb dX4_set_2 rfl (lv_at hl 1 rfl) ?_
  refine lv_iload_n hx hb dX4_set_3 rfl (lv_at hl 2 rfl) ?_
  have hPc := hP.sub (ws' := [(y0, .inr (4, [.int (nI th), .int (nI N), .int (nI af), .ref s1, .ref s2, .ref s3, .ref s4, .ref s5, .int (nI pl), .int (pm_b go), .int (pm_b qu), .int (nI cy), .int (nI qc), .int (pm_b fr), .int (pm_b wq)])), (s1, .inl (t1, 401, .inl (pm_nf9 sm))), (s2, .inl (t2, 8000, .inl (pm_nf9 gv))), (s3, .inl (t3, 16, .inl (pm_nf9 gr))), (s4, .inl (t4, 400, .inl rc)), (s5, .inl (t5, 400, .inl mq))]) [0, 1, 2, 3, 4, 5] rfl
  have hDc := hD.sub (ws' := [(y0, .inr (4, [.int (nI th), .int (nI N), .int (nI af), .ref s1, .ref s2, .ref s3, .ref s4, .ref s5, .int (nI pl), .int (pm_b go), .int (pm_b qu), .int (nI cy), .int (nI qc), .int (pm_b fr), .int (pm_b wq)])), (s1, .inl (t1, 401, .inl (pm_nf9 sm))), (s2, .inl (t2, 8000, .inl (pm_nf9 gv))), (s3, .inl (t3, 16, .inl (pm_nf9 gr))), (s4, .inl (t4, 400, .inl rc)), (s5, .inl (t5, 400, .inl mq))]) [0, 1, 2, 3, 4, 5] (by decide) rfl
  have hKc := hK.sub (tys' := [(t1, .int), (t2, .int), (t3, .int), (t4, .boolean), (t5, .boolean)]) [0, 1, 2, 3, 4] rfl
  have hFc := va_free (wc := [(y0, .inr (4, [.int (nI th), .int (nI N), .int (nI af), .ref s1, .ref s2, .ref s3, .ref s4, .ref s5, .int (nI pl), .int (pm_b go), .int (pm_b qu), .int (nI cy), .int (nI qc), .int (pm_b fr), .int (pm_b wq)])), (s1, .inl (t1, 401, .inl (pm_nf9 sm))), (s2, .inl (t2, 8000, .inl (pm_nf9 gv))), (s3, .inl (t3, 16, .inl (pm_nf9 gr))), (s4, .inl (t4, 400, .inl rc)), (s5, .inl (t5, 400, .inl mq))]) hD hS hA [0, 1, 2, 3, 4, 5] rfl
  refine va_calli (va_runV (As := [.int p0, .int p1]) (rest := [.ref y0]) ⟨hx, hb, hml, hown, hts⟩ (c_Q_isField l dC dI y0 s1 s2 s3 s4 s5 t1 t2 t3 t4 t5 th N af sm gv gr rc mq pl go qu cy qc fr wq p0 p1 H.size (hM)) (cwV 2 hts (gw_V ml_X4_57 mi_X4_isField ms_X4_isField mn_X4 mc_X4_isField) rfl rfl rfl (by decide +kernel) ⟨Nat.le_of_ble_eq_true rfl, Nat.le_of_ble_eq_true rfl⟩) ⟨fun a U g mk q => by obtain ⟨q0, q1, qP, qK, qD⟩ := q; exact ⟨q0, q1, qP, va_K.moved (u := U) (U := U.calling g mk a) (Vm.Alike.refl U.vm) qK, qD⟩, va_recv hKc hPc (ci := 4) (q0 := 0) rfl rfl, fun U hU hW => ⟨rfl, by rw [hU], by rw [hU]; exact hPc, va_K.moved hW.alike hKc, hDc.weaken (fun _ _ _ _ => trivial)⟩⟩ rfl rfl hl.1 rfl (lv_room (Nat.le_of_ble_eq_true rfl)) dX4_set_4 ⟨Nat.le_of_ble_eq_true rfl, Nat.le_of_ble_eq_true rfl⟩) hS (fun q _ h => hFc q h) hFc (fun r_1 u t H1 locs ht hvm hw hB hz1 hk1 hS => ?_)
  obtain ⟨hP1, hK1, hD1⟩ := hB
  rw [ht] at hP1
  have hK1 := va_K.moved hvm.symm hK1
  obtain ⟨hP, hD⟩ := va_join (wr := []) (w1 := [(y0, .inr (4, [.int (nI th), .int (nI N), .int (nI af), .ref s1, .ref s2, .ref s3, .ref s4, .ref s5, .int (nI pl), .int (pm_b go), .int (pm_b qu), .int (nI cy), .int (nI qc), .int (pm_b fr), .int (pm_b wq)])), (s1, .inl (t1, 401, .inl (pm_nf9 sm))), (s2, .inl (t2, 8000, .inl (pm_nf9 gv))), (s3, .inl (t3, 16, .inl (pm_nf9 gr))), (s4, .inl (t4, 400, .inl rc)), (s5, .inl (t5, 400, .inl mq))]) hP hD [0, 1, 2, 3, 4, 5] [] rfl rfl (by decide) (by decide) hk1 hFc hP1 hD1
  clear hPc hDc hKc hFc hP1 hK1 hD1
  generalize H1 = H at hP hS ⊢
  have hP : va_P (dC, dI) vwCl [(y0, .inr (4, [.int (nI th), .int (nI N), .int (nI af), .ref s1, .ref s2, .ref s3, .ref s4, .ref s5, .int (nI pl), .int (pm_b go), .int (pm_b qu), .int (nI cy), .int (nI qc), .int (pm_b fr), .int (pm_b wq)])), (s1, .inl (t1, 401, .inl (pm_nf9 sm))), (s2, .inl (t2, 8000, .inl (pm_nf9 gv))), (s3, .inl (t3, 16, .inl (pm_nf9 gr))), (s4, .inl (t4, 400, .inl rc)), (s5, .inl (t5, 400, .inl mq))] H := hP.sub [0, 1, 2, 3, 4, 5] rfl
  have hD : va_D A [(y0, .inr (4, [.int (nI th), .int (nI N), .int (nI af), .ref s1, .ref s2, .ref s3, .ref s4, .ref s5, .int (nI pl), .int (pm_b go), .int (pm_b qu), .int (nI cy), .int (nI qc), .int (pm_b fr), .int (pm_b wq)])), (s1, .inl (t1, 401, .inl (pm_nf9 sm))), (s2, .inl (t2, 8000, .inl (pm_nf9 gv))), (s3, .inl (t3, 16, .inl (pm_nf9 gr))), (s4, .inl (t4, 400, .inl rc)), (s5, .inl (t5, 400, .inl mq))] := hD.sub [0, 1, 2, 3, 4, 5] (by decide) rfl
  rcases pm_tf (pm_hf N (pq_dn sm) p0 p1) with hh_4 | hh_4
  · obtain rfl : r_1 = nI 1 := hw.trans (by rw [hh_4]; rfl)
    refine lv_if_eq (tgt := 27) hx hb dX4_set_7 (by decide) (fun c_7 => absurd c_7 (by decide +kernel)) (fun c_7 => ?_)
    refine lv_iload_n hx hb dX4_set_10 rfl (lv_at hl 3 rfl) ?_
    refine lv_iconst (v := -1) hx hb dX4_set_11 (by decide +kernel) ?_
    refine lv_icmp_eq (tgt := 23) hx hb dX4_set_12 (by decide) (fun c_12 => ?_) (fun c_12 => ?_)
    · exact absurd hp (by rw [hh_4, decide_eq_true c_12, Bool.true_or]; decide)
    · refine lv_aload_n hx hb dX4_set_15 rfl (lv_at hl 0 rfl) ?_
      refine lv_iload_n hx hb dX4_set_16 rfl (lv_at hl 3 rfl) ?_
      have hPc := hP.sub (ws' := [(y0, .inr (4, [.int (nI th), .int (nI N), .int (nI af), .ref s1, .ref s2, .ref s3, .ref s4, .ref s5, .int (nI pl), .int (pm_b go), .int (pm_b qu), .int (nI cy), .int (nI qc), .int (pm_b fr), .int (pm_b wq)])), (s1, .inl (t1, 401, .inl (pm_nf9 sm))), (s2, .inl (t2, 8000, .inl (pm_nf9 gv))), (s3, .inl (t3, 16, .inl (pm_nf9 gr))), (s4, .inl (t4, 400, .inl rc)), (s5, .inl (t5, 400, .inl mq))]) [0, 1, 2, 3, 4, 5] rfl
      have hDc := hD.sub (ws' := [(y0, .inr (4, [.int (nI th), .int (nI N), .int (nI af), .ref s1, .ref s2, .ref s3, .ref s4, .ref s5, .int (nI pl), .int (pm_b go), .int (pm_b qu), .int (nI cy), .int (nI qc), .int (pm_b fr), .int (pm_b wq)])), (s1, .inl (t1, 401, .inl (pm_nf9 sm))), (s2, .inl (t2, 8000, .inl (pm_nf9 gv))), (s3, .inl (t3, 16, .inl (pm_nf9 gr))), (s4, .inl (t4, 400, .inl rc)), (s5, .inl (t5, 400, .inl mq))]) [0, 1, 2, 3, 4, 5] (by decide) rfl
      have hKc := hK.sub (tys' := [(t1, .int), (t2, .int), (t3, .int), (t4, .boolean), (t5, .boolean)]) [0, 1, 2, 3, 4] rfl
      have hFc := va_free (wc := [(y0, .inr (4, [.int (nI th), .int (nI N), .int (nI af), .ref s1, .ref s2, .ref s3, .ref s4, .ref s5, .int (nI pl), .int (pm_b go), .int (pm_b qu), .int (nI cy), .int (nI qc), .int (pm_b fr), .int (pm_b wq)])), (s1, .inl (t1, 401, .inl (pm_nf9 sm))), (s2, .inl (t2, 8000, .inl (pm_nf9 gv))), (s3, .inl (t3, 16, .inl (pm_nf9 gr))), (s4, .inl (t4, 400, .inl rc)), (s5, .inl (t5, 400, .inl mq))]) hD hS hA [0, 1, 2, 3, 4, 5] rfl
      refine va_calli (va_runV (As := [.int p2]) (rest := [.ref y0]) ⟨hx, hb, hml, hown, hts⟩ (c_Q_isObject l dC dI y0 s1 s2 s3 s4 s5 t1 t2 t3 t4 t5 th N af sm gv gr rc mq pl go qu cy qc fr wq p2 H.size) (cwV 1 hts (gw_V ml_X4_36 mi_X4_isObject ms_X4_isObject mn_X4 mc_X4_isObject) rfl rfl rfl (by decide +kernel) ⟨Nat.le_of_ble_eq_true rfl, Nat.le_of_ble_eq_true rfl⟩) ⟨fun a U g mk q => by obtain ⟨q0, q1, qP, qK, qD⟩ := q; exact ⟨q0, q1, qP, va_K.moved (u := U) (U := U.calling g mk a) (Vm.Alike.refl U.vm) qK, qD⟩, va_recv hKc hPc (ci := 4) (q0 := 0) rfl rfl, fun U hU hW => ⟨rfl, by rw [hU], by rw [hU]; exact hPc, va_K.moved hW.alike hKc, hDc.weaken (fun _ _ _ _ => trivial)⟩⟩ rfl rfl hl.1 rfl (lv_room (Nat.le_of_ble_eq_true rfl)) dX4_set_17 ⟨Nat.le_of_ble_eq_true rfl, Nat.le_of_ble_eq_true rfl⟩) hS (fun q _ h => hFc q h) hFc (fun r_2 u t H1 locs ht hvm hw hB hz1 hk1 hS => ?_)
      obtain ⟨hP1, hK1, hD1⟩ := hB
      rw [ht] at hP1
      have hK1 := va_K.moved hvm.symm hK1
      obtain ⟨hP, hD⟩ := va_join (wr := []) (w1 := [(y0, .inr (4, [.int (nI th), .int (nI N), .int (nI af), .ref s1, .ref s2, .ref s3, .ref s4, .ref s5, .int (nI pl), .int (pm_b go), .int (pm_b qu), .int (nI cy), .int (nI qc), .int (pm_b fr), .int (pm_b wq)])), (s1, .inl (t1, 401, .inl (pm_nf9 sm))), (s2, .inl (t2, 8000, .inl (pm_nf9 gv))), (s3, .inl (t3, 16, .inl (pm_nf9 gr))), (s4, .inl (t4, 400, .inl rc)), (s5, .inl (t5, 400, .inl mq))]) hP hD [0, 1, 2, 3, 4, 5] [] rfl rfl (by decide) (by decide) hk1 hFc hP1 hD1
      clear hPc hDc hKc hFc hP1 hK1 hD1
      generalize H1 = H at hP hS ⊢
      have hP : va_P (dC, dI) vwCl [(y0, .inr (4, [.int (nI th), .int (nI N), .int (nI af), .ref s1, .ref s2, .ref s3, .ref s4, .ref s5, .int (nI pl), .int (pm_b go), .int (pm_b qu), .int (nI cy), .int (nI qc), .int (pm_b fr), .int (pm_b wq)])), (s1, .inl (t1, 401, .inl (pm_nf9 sm))), (s2, .inl (t2, 8000, .inl (pm_nf9 gv))), (s3, .inl (t3, 16, .inl (pm_nf9 gr))), (s4, .inl (t4, 400, .inl rc)), (s5, .inl (t5, 400, .inl mq))] H := hP.sub [0, 1, 2, 3, 4, 5] rfl
      have hD : va_D A [(y0, .inr (4, [.int (nI th), .int (nI N), .int (nI af), .ref s1, .ref s2, .ref s3, .ref s4, .ref s5, .int (nI pl), .int (pm_b go), .int (pm_b qu), .int (nI cy), .int (nI qc), .int (pm_b fr), .int (pm_b wq)])), (s1, .inl (t1, 401, .inl (pm_nf9 sm))), (s2, .inl (t2, 8000, .inl (pm_nf9 gv))), (s3, .inl (t3, 16, .inl (pm_nf9 gr))), (s4, .inl (t4, 400, .inl rc)), (s5, .inl (t5, 400, .inl mq))] := hD.sub [0, 1, 2, 3, 4, 5] (by decide) rfl
      rcases pm_tf (pm_has N p2) with hh_17 | hh_17
      · exact absurd hp (by rw [hh_4, hh_17, Bool.or_true]; decide)
      · obtain rfl : r_2 = nI 0 := hw.trans (by rw [hh_17]; rfl)
        refine lv_if_eq (tgt := 27) hx hb dX4_set_20 (by decide) (fun c_20 => ?_) (fun c_20 => absurd c_20 (by decide +kernel))
        refine lv_iconst (v := nI 0) hx hb dX4_set_27 (by decide +kernel) ?_
        refine lv_iconst (v := nI 1) hx hb dX4_set_28 (by decide +kernel) ?_
        have hPc := hP.sub (ws' := [(y0, .inr (4, [.int (nI th), .int (nI N), .int (nI af), .ref s1, .ref s2, .ref s3, .ref s4, .ref s5, .int (nI pl), .int (pm_b go), .int (pm_b qu), .int (nI cy), .int (nI qc), .int (pm_b fr), .int (pm_b wq)])), (s1, .inl (t1, 401, .inl (pm_nf9 sm))), (s2, .inl (t2, 8000, .inl (pm_nf9 gv))), (s3, .inl (t3, 16, .inl (pm_nf9 gr))), (s4, .inl (t4, 400, .inl rc)), (s5, .inl (t5, 400, .inl mq))]) [0, 1, 2, 3, 4, 5] rfl
        have hDc := hD.sub (ws' := [(y0, .inr (4, [.int (nI th), .int (nI N), .int (nI af), .ref s1, .ref s2, .ref s3, .ref s4, .ref s5, .int (nI pl), .int (pm_b go), .int (pm_b qu), .int (nI cy), .int (nI qc), .int (pm_b fr), .int (pm_b wq)])), (s1, .inl (t1, 401, .inl (pm_nf9 sm))), (s2, .inl (t2, 8000, .inl (pm_nf9 gv))), (s3, .inl (t3, 16, .inl (pm_nf9 gr))), (s4, .inl (t4, 400, .inl rc)), (s5, .inl (t5, 400, .inl mq))]) [0, 1, 2, 3, 4, 5] (by decide) rfl
        have hKc := hK.sub (tys' := [(t1, .int), (t2, .int), (t3, .int), (t4, .boolean), (t5, .boolean)]) [0, 1, 2, 3, 4] rfl
        have hFc := va_free (wc := [(y0, .inr (4, [.int (nI th), .int (nI N), .int (nI af), .ref s1, .ref s2, .ref s3, .ref s4, .ref s5, .int (nI pl), .int (pm_b go), .int (pm_b qu), .int (nI cy), .int (nI qc), .int (pm_b fr), .int (pm_b wq)])), (s1, .inl (t1, 401, .inl (pm_nf9 sm))), (s2, .inl (t2, 8000, .inl (pm_nf9 gv))), (s3, .inl (t3, 16, .inl (pm_nf9 gr))), (s4, .inl (t4, 400, .inl rc)), (s5, .inl (t5, 400, .inl mq))]) hD hS hA [0, 1, 2, 3, 4, 5] rfl
        refine va_calli (va_runV (As := [.int (nI 0), .int (nI 1)]) (rest := []) ⟨hx, hb, hml, hown, hts⟩ (c_Q_goes l dC dI y0 s1 s2 s3 s4 s5 t1 t2 t3 t4 t5 th N af sm gv gr rc mq pl go qu cy qc fr wq false true H.size) (cwV 2 hts (gw_V ml_X4_47 mi_X4_goes ms_X4_goes mn_X4 mc_X4_goes) rfl rfl rfl (by decide +kernel) ⟨Nat.le_of_ble_eq_true rfl, Nat.le_of_ble_eq_true rfl⟩) ⟨fun a U g mk q => by obtain ⟨q0, q1, qP, qK, qD⟩ := q; exact ⟨q0, q1, qP, va_K.moved (u := U) (U := U.calling g mk a) (Vm.Alike.refl U.vm) qK, qD⟩, va_recv hKc hPc (ci := 4) (q0 := 0) rfl rfl, fun U hU hW => ⟨rfl, by rw [hU], by rw [hU]; exact hPc, va_K.moved hW.alike hKc, hDc.weaken (fun _ _ _ _ => trivial)⟩⟩ rfl rfl hl.1 rfl (lv_room (Nat.le_of_ble_eq_true rfl)) dX4_set_29 ⟨Nat.le_of_ble_eq_true rfl, Nat.le_of_ble_eq_true rfl⟩) hS (fun q _ h => hFc q h) hFc (fun r_3 u t H1 locs ht hvm hw hB hz1 hk1 hS => ?_)
        obtain ⟨hP1, hK1, hD1⟩ := hB
        rw [ht] at hP1
        have hK1 := va_K.moved hvm.symm hK1
        obtain ⟨hP, hD⟩ := va_join (wr := []) (w1 := [(y0, .inr (4, [.int (nI 1), .int (nI N), .int (nI af), .ref s1, .ref s2, .ref s3, .ref s4, .ref s5, .int (nI pl), .int (pm_b go), .int (pm_b qu), .int (nI cy), .int (nI qc), .int (pm_b fr), .int (pm_b wq)])), (s1, .inl (t1, 401, .inl (pm_nf9 sm))), (s2, .inl (t2, 8000, .inl (pm_nf9 gv))), (s3, .inl (t3, 16, .inl (pm_nf9 gr))), (s4, .inl (t4, 400, .inl rc)), (s5, .inl (t5, 400, .inl mq))]) hP hD [0, 1, 2, 3, 4, 5] [] rfl rfl (by decide) (by decide) hk1 hFc hP1 hD1
        clear hPc hDc hKc hFc hP1 hK1 hD1
        generalize H1 = H at hP hS ⊢
        have hP : va_P (dC, dI) vwCl [(y0, .inr (4, [.int (nI 1), .int (nI N), .int (nI af), .ref s1, .ref s2, .ref s3, .ref s4, .ref s5, .int (nI pl), .int (pm_b go), .int (pm_b qu), .int (nI cy), .int (nI qc), .int (pm_b fr), .int (pm_b wq)])), (s1, .inl (t1, 401, .inl (pm_nf9 sm))), (s2, .inl (t2, 8000, .inl (pm_nf9 gv))), (s3, .inl (t3, 16, .inl (pm_nf9 gr))), (s4, .inl (t4, 400, .inl rc)), (s5, .inl (t5, 400, .inl mq))] H := hP.sub [0, 1, 2, 3, 4, 5] rfl
        have hD : va_D A [(y0, .inr (4, [.int (nI 1), .int (nI N), .int (nI af), .ref s1, .ref s2, .ref s3, .ref s4, .ref s5, .int (nI pl), .int (pm_b go), .int (pm_b qu), .int (nI cy), .int (nI qc), .int (pm_b fr), .int (pm_b wq)])), (s1, .inl (t1, 401, .inl (pm_nf9 sm))), (s2, .inl (t2, 8000, .inl (pm_nf9 gv))), (s3, .inl (t3, 16, .inl (pm_nf9 gr))), (s4, .inl (t4, 400, .inl rc)), (s5, .inl (t5, 400, .inl mq))] := hD.sub [0, 1, 2, 3, 4, 5] (by decide) rfl
        obtain rfl : r_3 = nI 0 := hw
        refine lv_if_ne (tgt := 37) hx hb dX4_set_32 (by decide) (fun c_32 => absurd c_32 (by decide +kernel)) (fun c_32 => ?_)
        refine lv_iconst (v := nI 0) hx hb dX4_set_35 (by decide +kernel) ?_
        exact W.iret (v := nI 0) hx hb hr (fun t ht hW => ⟨⟨nI 0, (), rfl, trivial, by rw [ht]; exact hP, va_K.moved hW.alike hK, hD⟩, hS.F ht⟩) hS.2.2 dX4_set_36
  · obtain rfl : r_1 = nI 0 := hw.trans (by rw [hh_4]; rfl)
    refine lv_if_eq (tgt := 27) hx hb dX4_set_7 (by decide) (fun c_7 => ?_) (fun c_7 => absurd c_7 (by decide +kernel))
    refine lv_iconst (v := nI 0) hx hb dX4_set_27 (by decide +kernel) ?_
    refine lv_iconst (v := nI 1) hx hb dX4_set_28 (by decide +kernel) ?_
    have hPc := hP.sub (ws' := [(y0, .inr (4, [.int (nI th), .int (nI N), .int (nI af), .ref s1, .ref s2, .ref s3, .ref s4, .ref s5, .int (nI pl), .int (pm_b go), .int (pm_b qu), .int (nI cy), .int (nI qc), .int (pm_b fr), .int (pm_b wq)])), (s1, .inl (t1, 401, .inl (pm_nf9 sm))), (s2, .inl (t2, 8000, .inl (pm_nf9 gv))), (s3, .inl (t3, 16, .inl (pm_nf9 gr))), (s4, .inl (t4, 400, .inl rc)), (s5, .inl (t5, 400, .inl mq))]) [0, 1, 2, 3, 4, 5] rfl
    have hDc := hD.sub (ws' := [(y0, .inr (4, [.int (nI th), .int (nI N), .int (nI af), .ref s1, .ref s2, .ref s3, .ref s4, .ref s5, .int (nI pl), .int (pm_b go), .int (pm_b qu), .int (nI cy), .int (nI qc), .int (pm_b fr), .int (pm_b wq)])), (s1, .inl (t1, 401, .inl (pm_nf9 sm))), (s2, .inl (t2, 8000, .inl (pm_nf9 gv))), (s3, .inl (t3, 16, .inl (pm_nf9 gr))), (s4, .inl (t4, 400, .inl rc)), (s5, .inl (t5, 400, .inl mq))]) [0, 1, 2, 3, 4, 5] (by decide) rfl
    have hKc := hK.sub (tys' := [(t1, .int), (t2, .int), (t3, .int), (t4, .boolean), (t5, .boolean)]) [0, 1, 2, 3, 4] rfl
    have hFc := va_free (wc := [(y0, .inr (4, [.int (nI th), .int (nI N), .int (nI af), .ref s1, .ref s2, .ref s3, .ref s4, .ref s5, .int (nI pl), .int (pm_b go), .int (pm_b qu), .int (nI cy), .int (nI qc), .int (pm_b fr), .int (pm_b wq)])), (s1, .inl (t1, 401, .inl (pm_nf9 sm))), (s2, .inl (t2, 8000, .inl (pm_nf9 gv))), (s3, .inl (t3, 16, .inl (pm_nf9 gr))), (s4, .inl (t4, 400, .inl rc)), (s5, .inl (t5, 400, .inl mq))]) hD hS hA [0, 1, 2, 3, 4, 5] rfl
    refine va_calli (va_runV (As := [.int (nI 0), .int (nI 1)]) (rest := []) ⟨hx, hb, hml, hown, hts⟩ (c_Q_goes l dC dI y0 s1 s2 s3 s4 s5 t1 t2 t3 t4 t5 th N af sm gv gr rc mq pl go qu cy qc fr wq false true H.size) (cwV 2 hts (gw_V ml_X4_47 mi_X4_goes ms_X4_goes mn_X4 mc_X4_goes) rfl rfl rfl (by decide +kernel) ⟨Nat.le_of_ble_eq_true rfl, Nat.le_of_ble_eq_true rfl⟩) ⟨fun a U g mk q => by obtain ⟨q0, q1, qP, qK, qD⟩ := q; exact ⟨q0, q1, qP, va_K.moved (u := U) (U := U.calling g mk a) (Vm.Alike.refl U.vm) qK, qD⟩, va_recv hKc hPc (ci := 4) (q0 := 0) rfl rfl, fun U hU hW => ⟨rfl, by rw [hU], by rw [hU]; exact hPc, va_K.moved hW.alike hKc, hDc.weaken (fun _ _ _ _ => trivial)⟩⟩ rfl rfl hl.1 rfl (lv_room (Nat.le_of_ble_eq_true rfl)) dX4_set_29 ⟨Nat.le_of_ble_eq_true rfl, Nat.le_of_ble_eq_true rfl⟩) hS (fun q _ h => hFc q h) hFc (fun r_4 u t H1 locs ht hvm hw hB hz1 hk1 hS => ?_)
    obtain ⟨hP1, hK1, hD1⟩ := hB
    rw [ht] at hP1
    have hK1 := va_K.moved hvm.symm hK1
    obtain ⟨hP, hD⟩ := va_join (wr := []) (w1 := [(y0, .inr (4, [.int (nI 1), .int (nI N), .int (nI af), .ref s1, .ref s2, .ref s3, .ref s4, .ref s5, .int (nI pl), .int (pm_b go), .int (pm_b qu), .int (nI cy), .int (nI qc), .int (pm_b fr), .int (pm_b wq)])), (s1, .inl (t1, 401, .inl (pm_nf9 sm))), (s2, .inl (t2, 8000, .inl (pm_nf9 gv))), (s3, .inl (t3, 16, .inl (pm_nf9 gr))), (s4, .inl (t4, 400, .inl rc)), (s5, .inl (t5, 400, .inl mq))]) hP hD [0, 1, 2, 3, 4, 5] [] rfl rfl (by decide) (by decide) hk1 hFc hP1 hD1
    clear hPc hDc hKc hFc hP1 hK1 hD1
    generalize H1 = H at hP hS ⊢
    have hP : va_P (dC, dI) vwCl [(y0, .inr (4, [.int (nI 1), .int (nI N), .int (nI af), .ref s1, .ref s2, .ref s3, .ref s4, .ref s5, .int (nI pl), .int (pm_b go), .int (pm_b qu), .int (nI cy), .int (nI qc), .int (pm_b fr), .int (pm_b wq)])), (s1, .inl (t1, 401, .inl (pm_nf9 sm))), (s2, .inl (t2, 8000, .inl (pm_nf9 gv))), (s3, .inl (t3, 16, .inl (pm_nf9 gr))), (s4, .inl (t4, 400, .inl rc)), (s5, .inl (t5, 400, .inl mq))] H := hP.sub [0, 1, 2, 3, 4, 5] rfl
    have hD : va_D A [(y0, .inr (4, [.int (nI 1), .int (nI N), .int (nI af), .ref s1, .ref s2, .ref s3, .ref s4, .ref s5, .int (nI pl), .int (pm_b go), .int (pm_b qu), .int (nI cy), .int (nI qc), .int (pm_b fr), .int (pm_b wq)])), (s1, .inl (t1, 401, .inl (pm_nf9 sm))), (s2, .inl (t2, 8000, .inl (pm_nf9 gv))), (s3, .inl (t3, 16, .inl (pm_nf9 gr))), (s4, .inl (t4, 400, .inl rc)), (s5, .inl (t5, 400, .inl mq))] := hD.sub [0, 1, 2, 3, 4, 5] (by decide) rfl
    obtain rfl : r_4 = nI 0 := hw
    refine lv_if_ne (tgt := 37) hx hb dX4_set_32 (by decide) (fun c_32 => absurd c_32 (by decide +kernel)) (fun c_32 => ?_)
    refine lv_iconst (v := nI 0) hx hb dX4_set_35 (by decide +kernel) ?_
    exact W.iret (v := nI 0) hx hb hr (fun t ht hW => ⟨⟨nI 0, (), rfl, trivial, by rw [ht]; exact hP, va_K.moved hW.alike hK, hD⟩, hS.F ht⟩) hS.2.2 dX4_set_36

set_option maxHeartbeats 4000000 in
set_option maxRecDepth 100000 in
/-- get: answered -/
theorem c_Q_get_ok (l : Launch) (dC : Nat → ClassId) (dI : Nat → Nat → Nat) (y0 s1 s2 s3 s4 s5 : Nat) (t1 t2 t3 t4 t5 : ClassId) (th N af : Nat) (sm gv gr : Nat → Nat) (rc mq : Nat → Int32) (pl : Nat) (go qu : Bool) (cy qc : Nat) (fr wq : Bool) (a j : Nat) (sz : Nat) (hM : pq_MO N sm gv gr af) (ha : a < N) (hj : j < sm (a + 1) - sm a) : Met l yX4_get wsX4_get ({ frames := 2, cells := 0, slots := 0, locals := 43 }) (va_Pc [.ref y0, .int (nI a), .int (nI j)] (fun U => U.heap.size = sz ∧ va_P (dC, dI) vwCl [(y0, .inr (4, [.int (nI th), .int (nI N), .int (nI af), .ref s1, .ref s2, .ref s3, .ref s4, .ref s5, .int (nI pl), .int (pm_b go), .int (pm_b qu), .int (nI cy), .int (nI qc), .int (pm_b fr), .int (pm_b wq)])), (s1, .inl (t1, 401, .inl (pm_nf9 sm))), (s2, .inl (t2, 8000, .inl (pm_nf9 gv))), (s3, .inl (t3, 16, .inl (pm_nf9 gr))), (s4, .inl (t4, 400, .inl rc)), (s5, .inl (t5, 400, .inl mq))] U.heap ∧ va_K (dC, dI) vwCl [(t1, .int), (t2, .int), (t3, .int), (t4, .boolean), (t5, .boolean)] U ∧ va_D (fun _ => True) [(y0, .inr (4, [.int (nI th), .int (nI N), .int (nI af), .ref s1, .ref s2, .ref s3, .ref s4, .ref s5, .int (nI pl), .int (pm_b go), .int (pm_b qu), .int (nI cy), .int (nI qc), .int (pm_b fr), .int (pm_b wq)])), (s1, .inl (t1, 401, .inl (pm_nf9 sm))), (s2, .inl (t2, 8000, .inl (pm_nf9 gv))), (s3, .inl (t3, 16, .inl (pm_nf9 gr))), (s4, .inl (t4, 400, .inl rc)), (s5, .inl (t5, 400, .inl mq))])) (va_Qi (fun (r : Int32) (_ : Unit) => r = nI (gv (sm a + j)) - nI 1) (fun (_ : Unit) (t : State) => va_P (dC, dI) vwCl [(y0, .inr (4, [.int (nI 0), .int (nI N), .int (nI af), .ref s1, .ref s2, .ref s3, .ref s4, .ref s5, .int (nI pl), .int (pm_b go), .int (pm_b qu), .int (nI cy), .int (nI qc), .int (pm_b fr), .int (pm_b wq)])), (s1, .inl (t1, 401, .inl (pm_nf9 sm))), (s2, .inl (t2, 8000, .inl (pm_nf9 gv))), (s3, .inl (t3, 16, .inl (pm_nf9 gr))), (s4, .inl (t4, 400, .inl rc)), (s5, .inl (t5, 400, .inl mq))] t.heap ∧ va_K (dC, dI) vwCl [(t1, .int), (t2, .int), (t3, .int), (t4, .boolean), (t5, .boolean)] t ∧ va_D (va_A [(y0, .inr (4, [.int (nI th), .int (nI N), .int (nI af), .ref s1, .ref s2, .ref s3, .ref s4, .ref s5, .int (nI pl), .int (pm_b go), .int (pm_b qu), .int (nI cy), .int (nI qc), .int (pm_b fr), .int (pm_b wq)])), (s1, .inl (t1, 401, .inl (pm_nf9 sm))), (s2, .inl (t2, 8000, .inl (pm_nf9 gv))), (s3, .inl (t3, 16, .inl (pm_nf9 gr))), (s4, .inl (t4, 400, .inl rc)), (s5, .inl (t5, 400, .inl mq))] sz) [(y0, .inr (4, [.int (nI 0), .int (nI N), .int (nI af), .ref s1, .ref s2, .ref s3, .ref s4, .ref s5, .int (nI pl), .int (pm_b go), .int (pm_b qu), .int (nI cy), .int (nI qc), .int (pm_b fr), .int (pm_b wq)])), (s1, .inl (t1, 401, .inl (pm_nf9 sm))), (s2, .inl (t2, 8000, .inl (pm_nf9 gv))), (s3, .inl (t3, 16, .inl (pm_nf9 gr))), (s4, .inl (t4, 400, .inl rc)), (s5, .inl (t5, 400, .inl mq))]) (va_A [(y0, .inr (4, [.int (nI th), .int (nI N), .int (nI af), .ref s1, .ref s2, .ref s3, .ref s4, .ref s5, .int (nI pl), .int (pm_b go), .int (pm_b qu), .int (nI cy), .int (nI qc), .int (pm_b fr), .int (pm_b wq)])), (s1, .inl (t1, 401, .inl (pm_nf9 sm))), (s2, .inl (t2, 8000, .inl (pm_nf9 gv))), (s3, .inl (t3, 16, .inl (pm_nf9 gr))), (s4, .inl (t4, 400, .inl rc)), (s5, .inl (t5, 400, .inl mq))] sz)) 0 0 (va_A [(y0, .inr (4, [.int (nI th), .int (nI N), .int (nI af), .ref s1, .ref s2, .ref s3, .ref s4, .ref s5, .int (nI pl), .int (pm_b go), .int (pm_b qu), .int (nI cy), .int (nI qc), .int (pm_b fr), .int (pm_b wq)])), (s1, .inl (t1, 401, .inl (pm_nf9 sm))), (s2, .inl (t2, 8000, .inl (pm_nf9 gv))), (s3, .inl (t3, 16, .inl (pm_nf9 gr))), (s4, .inl (t4, 400, .inl rc)), (s5, .inl (t5, 400, .inl mq))] sz) := by
  refine Met.ofW (cc := cX4_get) (maxL := 3) (ret := (some .int)) (by decide) rfl ?_
  intro p e s m args below meth c s₁ B hml hv
  obtain ⟨rfl, hsz, hP, hK, hD0⟩ := hv
  have hx := B.exec
  have hb := B.bytes
  have hr := B.returns
  have hts : ∀ w ∈ gw, w.before _ s = true := fun w h => atoms_spec (ws := wsX4_get) B.pre w (List.mem_cons_of_mem _ h)
  have hown : s.vm.findClass RX4 = some m.cls := findClass_of_methodNamed B.named
  have hlocks := B.notSynchronized
  subst hsz
  have hD := hD0.self (sz := s.heap.size)
  generalize hAe : va_A [(y0, .inr (4, [.int (nI th), .int (nI N), .int (nI af), .ref s1, .ref s2, .ref s3, .ref s4, .ref s5, .int (nI pl), .int (pm_b go), .int (pm_b qu), .int (nI cy), .int (nI qc), .int (pm_b fr), .int (pm_b wq)])), (s1, .inl (t1, 401, .inl (pm_nf9 sm))), (s2, .inl (t2, 8000, .inl (pm_nf9 gv))), (s3, .inl (t3, 16, .inl (pm_nf9 gr))), (s4, .inl (t4, 400, .inl rc)), (s5, .inl (t5, 400, .inl mq))] s.heap.size = A at hD ⊢
  have hA : ∀ q : Nat, s.heap.size ≤ q → A q := fun q h => by rw [← hAe]; exact Or.inr h
  have hP : va_P (dC, dI) vwCl [(y0, .inr (4, [.int (nI th), .int (nI N), .int (nI af), .ref s1, .ref s2, .ref s3, .ref s4, .ref s5, .int (nI pl), .int (pm_b go), .int (pm_b qu), .int (nI cy), .int (nI qc), .int (pm_b fr), .int (pm_b wq)])), (s1, .inl (t1, 401, .inl (pm_nf9 sm))), (s2, .inl (t2, 8000, .inl (pm_nf9 gv))), (s3, .inl (t3, 16, .inl (pm_nf9 gr))), (s4, .inl (t4, 400, .inl rc)), (s5, .inl (t5, 400, .inl mq))] s.heap := hP
  have hl := lv_entry ([.ref y0, .int (nI a), .int (nI j)]) (n := 3) (Nat.le_of_ble_eq_true rfl)
  rw [lg_entry_eq]
  generalize (lg_sl ([.ref y0, .int (nI a), .int (nI j)]) ++ List.replicate (3 - (lg_sl ([.ref y0, .int (nI a), .int (nI j)])).length) Slot.unset).toArray = ls at hl ⊢
  have hl : lv_has ls 3 [(0, .ref y0), (1, .int (nI a)), (2, .int (nI j))] := hl
  obtain ⟨H, hH⟩ : ∃ H : Heap, H = s.heap := ⟨_, rfl⟩
  rw [← hH]
  rw [← hH] at hP
  have hS : va_S A s.heap H [] := by rw [hH]; exact va_S.rf
  clear hH
  have hN := hM.1
  have hms := hM.2.2.2.1 a ha
  have hsa := pq_le hM (a + 1) (by omega)
  refine lv_aload_n hx hb dX4_get_0 rfl (lv_at hl 0 rfl) ?_
  refine lv_aload_n hx hb dX4_get_1 rfl (lv_at hl 0 rfl) ?_
  refine lv_iload_n hx hb dX4_get_2 rfl (lv_at hl 1 rfl) ?_
  refine lv_iload_n hx hb dX4_get_3 rfl (lv_at hl 2 rfl) ?_
  have hPc := hP.sub (ws' := [(y0, .inr (4, [.int (nI th), .int (nI N), .int (nI af), .ref s1, .ref s2, .ref s3, .ref s4, .ref s5, .int (nI pl), .int (pm_b go), .int (pm_b qu), .int (nI cy), .int (nI qc), .int (pm_b fr), .int (pm_b wq)])), (s1, .inl (t1, 401, .inl (pm_nf9 sm))), (s2, .inl (t2, 8000, .inl (pm_nf9 gv))), (s3, .inl (t3, 16, .inl (pm_nf9 gr))), (s4, .inl (t4, 400, .inl rc)), (s5, .inl (t5, 400, .inl mq))]) [0, 1, 2, 3, 4, 5] rfl
  have hDc := hD.sub (ws' := [(y0, .inr (4, [.int (nI th), .int (nI N), .int (nI af), .ref s1, .ref s2, .ref s3, .ref s4, .ref s5, .int (nI pl), .int (pm_b go), .int (pm_b qu), .int (nI cy), .int (nI qc), .int (pm_b fr), .int (pm_b wq)])), (s1, .inl (t1, 401, .inl (pm_nf9 sm))), (s2, .inl (t2, 8000, .inl (pm_nf9 gv))), (s3, .inl (t3, 16, .inl (pm_nf9 gr))), (s4, .inl (t4, 400, .inl rc)), (s5, .inl (t5, 400, .inl mq))]) [0, 1, 2, 3, 4, 5] (by decide) rfl
  have hKc := hK.sub (tys' := [(t1, .int), (t2, .int), (t3, .int), (t4, .boolean), (t5, .boolean)]) [0, 1, 2, 3, 4] rfl
  have hFc := va_free (wc := [(y0, .inr (4, [.int (nI th), .int (nI N), .int (nI af), .ref s1, .ref s2, .ref s3, .ref s4, .ref s5, .int (nI pl), .int (pm_b go), .int (pm_b qu), .int (nI cy), .int (nI qc), .int (pm_b fr), .int (pm_b wq)])), (s1, .inl (t1, 401, .inl (pm_nf9 sm))), (s2, .inl (t2, 8000, .inl (pm_nf9 gv))), (s3, .inl (t3, 16, .inl (pm_nf9 gr))), (s4, .inl (t4, 400, .inl rc)), (s5, .inl (t5, 400, .inl mq))]) hD hS hA [0, 1, 2, 3, 4, 5] rfl
  refine va_calli (va_runV (As := [.int (nI a), .int (nI j)]) (rest := [.ref y0]) ⟨hx, hb, hml, hown, hts⟩ (c_Q_isField l dC dI y0 s1 s2 s3 s4 s5 t1 t2 t3 t4 t5 th N af sm gv gr rc mq pl go qu cy qc fr wq (nI a) (nI j) H.size (hM)) (cwV 2 hts (gw_V ml_X4_57 mi_X4_isField ms_X4_isField mn_X4 mc_X4_isField) rfl rfl rfl (by decide +kernel) ⟨Nat.le_of_ble_eq_true rfl, Nat.le_of_ble_eq_true rfl⟩) ⟨fun a U g mk q => by obtain ⟨q0, q1, qP, qK, qD⟩ := q; exact ⟨q0, q1, qP, va_K.moved (u := U) (U := U.calling g mk a) (Vm.Alike.refl U.vm) qK, qD⟩, va_recv hKc hPc (ci := 4) (q0 := 0) rfl rfl, fun U hU hW => ⟨rfl, by rw [hU], by rw [hU]; exact hPc, va_K.moved hW.alike hKc, hDc.weaken (fun _ _ _ _ => trivial)⟩⟩ rfl rfl hl.1 rfl (lv_room (Nat.le_of_ble_eq_true rfl)) dX4_get_4 ⟨Nat.le_of_ble_eq_true rfl, Nat.le_of_ble_eq_true rfl⟩) hS (fun q _ h => hFc q h) hFc (fun r_1 u t H1 locs ht hvm hw hB hz1 hk1 hS => ?_)
  obtain ⟨hP1, hK1, hD1⟩ := hB
  rw [ht] at hP1
  have hK1 := va_K.moved hvm.symm hK1
  obtain ⟨hP, hD⟩ := va_join (wr := []) (w1 := [(y0, .inr (4, [.int (nI th), .int (nI N), .int (nI af), .ref s1, .ref s2, .ref s3, .ref s4, .ref s5, .int (nI pl), .int (pm_b go), .int (pm_b qu), .int (nI cy), .int (nI qc), .int (pm_b fr), .int (pm_b wq)])), (s1, .inl (t1, 401, .inl (pm_nf9 sm))), (s2, .inl (t2, 8000, .inl (pm_nf9 gv))), (s3, .inl (t3, 16, .inl (pm_nf9 gr))), (s4, .inl (t4, 400, .inl rc)), (s5, .inl (t5, 400, .inl mq))]) hP hD [0, 1, 2, 3, 4, 5] [] rfl rfl (by decide) (by decide) hk1 hFc hP1 hD1
  clear hPc hDc hKc hFc hP1 hK1 hD1
  generalize H1 = H at hP hS ⊢
  have hP : va_P (dC, dI) vwCl [(y0, .inr (4, [.int (nI th), .int (nI N), .int (nI af), .ref s1, .ref s2, .ref s3, .ref s4, .ref s5, .int (nI pl), .int (pm_b go), .int (pm_b qu), .int (nI cy), .int (nI qc), .int (pm_b fr), .int (pm_b wq)])), (s1, .inl (t1, 401, .inl (pm_nf9 sm))), (s2, .inl (t2, 8000, .inl (pm_nf9 gv))), (s3, .inl (t3, 16, .inl (pm_nf9 gr))), (s4, .inl (t4, 400, .inl rc)), (s5, .inl (t5, 400, .inl mq))] H := hP.sub [0, 1, 2, 3, 4, 5] rfl
  have hD : va_D A [(y0, .inr (4, [.int (nI th), .int (nI N), .int (nI af), .ref s1, .ref s2, .ref s3, .ref s4, .ref s5, .int (nI pl), .int (pm_b go), .int (pm_b qu), .int (nI cy), .int (nI qc), .int (pm_b fr), .int (pm_b wq)])), (s1, .inl (t1, 401, .inl (pm_nf9 sm))), (s2, .inl (t2, 8000, .inl (pm_nf9 gv))), (s3, .inl (t3, 16, .inl (pm_nf9 gr))), (s4, .inl (t4, 400, .inl rc)), (s5, .inl (t5, 400, .inl mq))] := hD.sub [0, 1, 2, 3, 4, 5] (by decide) rfl
  obtain rfl : r_1 = nI 1 := hw.trans (by rw [pm_hf_nI (cn := pq_dn sm) (by omega) (by show sm (a + 1) - sm a < 2 ^ 31; omega) ha hj]; rfl)
  refine lv_iconst (v := nI 1) hx hb dX4_get_7 (by decide +kernel) ?_
  have hPc := hP.sub (ws' := [(y0, .inr (4, [.int (nI th), .int (nI N), .int (nI af), .ref s1, .ref s2, .ref s3, .ref s4, .ref s5, .int (nI pl), .int (pm_b go), .int (pm_b qu), .int (nI cy), .int (nI qc), .int (pm_b fr), .int (pm_b wq)])), (s1, .inl (t1, 401, .inl (pm_nf9 sm))), (s2, .inl (t2, 8000, .inl (pm_nf9 gv))), (s3, .inl (t3, 16, .inl (pm_nf9 gr))), (s4, .inl (t4, 400, .inl rc)), (s5, .inl (t5, 400, .inl mq))]) [0, 1, 2, 3, 4, 5] rfl
  have hDc := hD.sub (ws' := [(y0, .inr (4, [.int (nI th), .int (nI N), .int (nI af), .ref s1, .ref s2, .ref s3, .ref s4, .ref s5, .int (nI pl), .int (pm_b go), .int (pm_b qu), .int (nI cy), .int (nI qc), .int (pm_b fr), .int (pm_b wq)])), (s1, .inl (t1, 401, .inl (pm_nf9 sm))), (s2, .inl (t2, 8000, .inl (pm_nf9 gv))), (s3, .inl (t3, 16, .inl (pm_nf9 gr))), (s4, .inl (t4, 400, .inl rc)), (s5, .inl (t5, 400, .inl mq))]) [0, 1, 2, 3, 4, 5] (by decide) rfl
  have hKc := hK.sub (tys' := [(t1, .int), (t2, .int), (t3, .int), (t4, .boolean), (t5, .boolean)]) [0, 1, 2, 3, 4] rfl
  have hFc := va_free (wc := [(y0, .inr (4, [.int (nI th), .int (nI N), .int (nI af), .ref s1, .ref s2, .ref s3, .ref s4, .ref s5, .int (nI pl), .int (pm_b go), .int (pm_b qu), .int (nI cy), .int (nI qc), .int (pm_b fr), .int (pm_b wq)])), (s1, .inl (t1, 401, .inl (pm_nf9 sm))), (s2, .inl (t2, 8000, .inl (pm_nf9 gv))), (s3, .inl (t3, 16, .inl (pm_nf9 gr))), (s4, .inl (t4, 400, .inl rc)), (s5, .inl (t5, 400, .inl mq))]) hD hS hA [0, 1, 2, 3, 4, 5] rfl
  refine va_calli (va_runV (As := [.int (nI 1), .int (nI 1)]) (rest := []) ⟨hx, hb, hml, hown, hts⟩ (c_Q_goes l dC dI y0 s1 s2 s3 s4 s5 t1 t2 t3 t4 t5 th N af sm gv gr rc mq pl go qu cy qc fr wq true true H.size) (cwV 2 hts (gw_V ml_X4_47 mi_X4_goes ms_X4_goes mn_X4 mc_X4_goes) rfl rfl rfl (by decide +kernel) ⟨Nat.le_of_ble_eq_true rfl, Nat.le_of_ble_eq_true rfl⟩) ⟨fun a U g mk q => by obtain ⟨q0, q1, qP, qK, qD⟩ := q; exact ⟨q0, q1, qP, va_K.moved (u := U) (U := U.calling g mk a) (Vm.Alike.refl U.vm) qK, qD⟩, va_recv hKc hPc (ci := 4) (q0 := 0) rfl rfl, fun U hU hW => ⟨rfl, by rw [hU], by rw [hU]; exact hPc, va_K.moved hW.alike hKc, hDc.weaken (fun _ _ _ _ => trivial)⟩⟩ rfl rfl hl.1 rfl (lv_room (Nat.le_of_ble_eq_true rfl)) dX4_get_8 ⟨Nat.le_of_ble_eq_true rfl, Nat.le_of_ble_eq_true rfl⟩) hS (fun q _ h => hFc q h) hFc (fun r_2 u t H1 locs ht hvm hw hB hz1 hk1 hS => ?_)
  obtain ⟨hP1, hK1, hD1⟩ := hB
  rw [ht] at hP1
  have hK1 := va_K.moved hvm.symm hK1
  obtain ⟨hP, hD⟩ := va_join (wr := []) (w1 := [(y0, .inr (4, [.int (nI 0), .int (nI N), .int (nI af), .ref s1, .ref s2, .ref s3, .ref s4, .ref s5, .int (nI pl), .int (pm_b go), .int (pm_b qu), .int (nI cy), .int (nI qc), .int (pm_b fr), .int (pm_b wq)])), (s1, .inl (t1, 401, .inl (pm_nf9 sm))), (s2, .inl (t2, 8000, .inl (pm_nf9 gv))), (s3, .inl (t3, 16, .inl (pm_nf9 gr))), (s4, .inl (t4, 400, .inl rc)), (s5, .inl (t5, 400, .inl mq))]) hP hD [0, 1, 2, 3, 4, 5] [] rfl rfl (by decide) (by decide) hk1 hFc hP1 hD1
  clear hPc hDc hKc hFc hP1 hK1 hD1
  generalize H1 = H at hP hS ⊢
  have hP : va_P (dC, dI) vwCl [(y0, .inr (4, [.int (nI 0), .int (nI N), .int (nI af), .ref s1, .ref s2, .ref s3, .ref s4, .ref s5, .int (nI pl), .int (pm_b go), .int (pm_b qu), .int (nI cy), .int (nI qc), .int (pm_b fr), .int (pm_b wq)])), (s1, .inl (t1, 401, .inl (pm_nf9 sm))), (s2, .inl (t2, 8000, .inl (pm_nf9 gv))), (s3, .inl (t3, 16, .inl (pm_nf9 gr))), (s4, .inl (t4, 400, .inl rc)), (s5, .inl (t5, 400, .inl mq))] H := hP.sub [0, 1, 2, 3, 4, 5] rfl
  have hD : va_D A [(y0, .inr (4, [.int (nI 0), .int (nI N), .int (nI af), .ref s1, .ref s2, .ref s3, .ref s4, .ref s5, .int (nI pl), .int (pm_b go), .int (pm_b qu), .int (nI cy), .int (nI qc), .int (pm_b fr), .int (pm_b wq)])), (s1, .inl (t1, 401, .inl (pm_nf9 sm))), (s2, .inl (t2, 8000, .inl (pm_nf9 gv))), (s3, .inl (t3, 16, .inl (pm_nf9 gr))), (s4, .inl (t4, 400, .inl rc)), (s5, .inl (t5, 400, .inl mq))] := hD.sub [0, 1, 2, 3, 4, 5] (by decide) rfl
  obtain rfl : r_2 = nI 1 := hw
  refine lv_if_eq (tgt := 32) hx hb dX4_get_11 (by decide) (fun c_11 => absurd c_11 (by decide +kernel)) (fun c_11 => ?_)
  refine lv_aload_n hx hb dX4_get_14 rfl (lv_at hl 0 rfl) ?_
  refine va_get (D := (dC, dI)) (ci := 4) (v := .ref s2) (C := RX4) (T := TX4) (N := 15) hx hb hts iw_X4 hown hK hP 0 rfl rfl 4 (by decide) (hts _ mf_X4_13) (fun _ h9 => h9) rfl dX4_get_15 ?_
  refine lv_aload_n hx hb dX4_get_18 rfl (lv_at hl 0 rfl) ?_
  refine va_get (D := (dC, dI)) (ci := 4) (v := .ref s1) (C := RX4) (T := TX4) (N := 15) hx hb hts iw_X4 hown hK hP 0 rfl rfl 3 (by decide) (hts _ mf_X4_7) (fun _ h9 => h9) rfl dX4_get_19 ?_
  refine lv_iload_n hx hb dX4_get_22 rfl (lv_at hl 1 rfl) ?_
  refine va_iald hx hb hK hP 1 0 rfl rfl (vp_in_nI (by omega) (by omega)) dX4_get_23 ?_
  refine lv_topi (fun x_3 ex_3 => ?_)
  rw [nI_clamp (by omega)] at ex_3
  obtain rfl : x_3 = nI (sm a) := ex_3
  refine lv_iload_n hx hb dX4_get_24 rfl (lv_at hl 2 rfl) ?_
  refine lv_iadd hx hb dX4_get_25 ?_
  refine lv_topi (fun x_4 ex_4 => ?_)
  obtain rfl : x_4 = nI ((sm a) + j) := ex_4.trans (nI_add _ _)
  refine va_iald hx hb hK hP 2 1 rfl rfl (vp_in_nI (by omega) (by omega)) dX4_get_26 ?_
  refine lv_topi (fun x_5 ex_5 => ?_)
  rw [nI_clamp (by omega)] at ex_5
  obtain rfl : x_5 = nI (gv (((sm a) + j))) := ex_5
  refine lv_iconst (v := nI 1) hx hb dX4_get_27 (by decide +kernel) ?_
  refine lv_isub hx hb dX4_get_28 ?_
  refine lv_goto (tgt := 33) hx hb dX4_get_29 (by decide) ?_
  exact W.iret (v := nI (gv (((sm a) + j))) - nI 1) hx hb hr (fun t ht hW => ⟨⟨nI (gv (((sm a) + j))) - nI 1, (), rfl, rfl, by rw [ht]; exact hP, va_K.moved hW.alike hK, hD⟩, hS.F ht⟩) hS.2.2 dX4_get_33

set_option maxHeartbeats 4000000 in
set_option maxRecDepth 100000 in
/-- get: refused -/
theorem c_Q_get_b (l : Launch) (dC : Nat → ClassId) (dI : Nat → Nat → Nat) (y0 s1 s2 s3 s4 s5 : Nat) (t1 t2 t3 t4 t5 : ClassId) (th N af : Nat) (sm gv gr : Nat → Nat) (rc mq : Nat → Int32) (pl : Nat) (go qu : Bool) (cy qc : Nat) (fr wq : Bool) (p0 p1 : Int32) (sz : Nat) (hM : pq_MO N sm gv gr af) (hp : pm_hf N (pq_dn sm) p0 p1 = false) : Met l yX4_get wsX4_get ({ frames := 2, cells := 0, slots := 0, locals := 43 }) (va_Pc [.ref y0, .int p0, .int p1] (fun U => U.heap.size = sz ∧ va_P (dC, dI) vwCl [(y0, .inr (4, [.int (nI th), .int (nI N), .int (nI af), .ref s1, .ref s2, .ref s3, .ref s4, .ref s5, .int (nI pl), .int (pm_b go), .int (pm_b qu), .int (nI cy), .int (nI qc), .int (pm_b fr), .int (pm_b wq)])), (s1, .inl (t1, 401, .inl (pm_nf9 sm))), (s2, .inl (t2, 8000, .inl (pm_nf9 gv))), (s3, .inl (t3, 16, .inl (pm_nf9 gr))), (s4, .inl (t4, 400, .inl rc)), (s5, .inl (t5, 400, .inl mq))] U.heap ∧ va_K (dC, dI) vwCl [(t1, .int), (t2, .int), (t3, .int), (t4, .boolean), (t5, .boolean)] U ∧ va_D (fun _ => True) [(y0, .inr (4, [.int (nI th), .int (nI N), .int (nI af), .ref s1, .ref s2, .ref s3, .ref s4, .ref s5, .int (nI pl), .int (pm_b go), .int (pm_b qu), .int (nI cy), .int (nI qc), .int (pm_b fr), .int (pm_b wq)])), (s1, .inl (t1, 401, .inl (pm_nf9 sm))), (s2, .inl (t2, 8000, .inl (pm_nf9 gv))), (s3, .inl (t3, 16, .inl (pm_nf9 gr))), (s4, .inl (t4, 400, .inl rc)), (s5, .inl (t5, 400, .inl mq))])) (va_Qi (fun (_ : Int32) (_ : Unit) => True) (fun (_ : Unit) (t : State) => va_P (dC, dI) vwCl [(y0, .inr (4, [.int (nI 1), .int (nI N), .int (nI af), .ref s1, .ref s2, .ref s3, .ref s4, .ref s5, .int (nI pl), .int (pm_b go), .int (pm_b qu), .int (nI cy), .int (nI qc), .int (pm_b fr), .int (pm_b wq)])), (s1, .inl (t1, 401, .inl (pm_nf9 sm))), (s2, .inl (t2, 8000, .inl (pm_nf9 gv))), (s3, .inl (t3, 16, .inl (pm_nf9 gr))), (s4, .inl (t4, 400, .inl rc)), (s5, .inl (t5, 400, .inl mq))] t.heap ∧ va_K (dC, dI) vwCl [(t1, .int), (t2, .int), (t3, .int), (t4, .boolean), (t5, .boolean)] t ∧ va_D (va_A [(y0, .inr (4, [.int (nI th), .int (nI N), .int (nI af), .ref s1, .ref s2, .ref s3, .ref s4, .ref s5, .int (nI pl), .int (pm_b go), .int (pm_b qu), .int (nI cy), .int (nI qc), .int (pm_b fr), .int (pm_b wq)])), (s1, .inl (t1, 401, .inl (pm_nf9 sm))), (s2, .inl (t2, 8000, .inl (pm_nf9 gv))), (s3, .inl (t3, 16, .inl (pm_nf9 gr))), (s4, .inl (t4, 400, .inl rc)), (s5, .inl (t5, 400, .inl mq))] sz) [(y0, .inr (4, [.int (nI 1), .int (nI N), .int (nI af), .ref s1, .ref s2, .ref s3, .ref s4, .ref s5, .int (nI pl), .int (pm_b go), .int (pm_b qu), .int (nI cy), .int (nI qc), .int (pm_b fr), .int (pm_b wq)])), (s1, .inl (t1, 401, .inl (pm_nf9 sm))), (s2, .inl (t2, 8000, .inl (pm_nf9 gv))), (s3, .inl (t3, 16, .inl (pm_nf9 gr))), (s4, .inl (t4, 400, .inl rc)), (s5, .inl (t5, 400, .inl mq))]) (va_A [(y0, .inr (4, [.int (nI th), .int (nI N), .int (nI af), .ref s1, .ref s2, .ref s3, .ref s4, .ref s5, .int (nI pl), .int (pm_b go), .int (pm_b qu), .int (nI cy), .int (nI qc), .int (pm_b fr), .int (pm_b wq)])), (s1, .inl (t1, 401, .inl (pm_nf9 sm))), (s2, .inl (t2, 8000, .inl (pm_nf9 gv))), (s3, .inl (t3, 16, .inl (pm_nf9 gr))), (s4, .inl (t4, 400, .inl rc)), (s5, .inl (t5, 400, .inl mq))] sz)) 0 0 (va_A [(y0, .inr (4, [.int (nI th), .int (nI N), .int (nI af), .ref s1, .ref s2, .ref s3, .ref s4, .ref s5, .int (nI pl), .int (pm_b go), .int (pm_b qu), .int (nI cy), .int (nI qc), .int (pm_b fr), .int (pm_b wq)])), (s1, .inl (t1, 401, .inl (pm_nf9 sm))), (s2, .inl (t2, 8000, .inl (pm_nf9 gv))), (s3, .inl (t3, 16, .inl (pm_nf9 gr))), (s4, .inl (t4, 400, .inl rc)), (s5, .inl (t5, 400, .inl mq))] sz) := by
  refine Met.ofW (cc := cX4_get) (maxL := 3) (ret := (some .int)) (by decide) rfl ?_
  intro p e s m args below meth c s₁ B hml hv
  obtain ⟨rfl, hsz, hP, hK, hD0⟩ := hv
  have hx := B.exec
  have hb := B.bytes
  have hr := B.returns
  have hts : ∀ w ∈ gw, w.before _ s = true := fun w h => atoms_spec (ws := wsX4_get) B.pre w (List.mem_cons_of_mem _ h)
  have hown : s.vm.findClass RX4 = some m.cls := findClass_of_methodNamed B.named
  have hlocks := B.notSynchronized
  subst hsz
  have hD := hD0.self (sz := s.heap.size)
  generalize hAe : va_A [(y0, .inr (4, [.int (nI th), .int (nI N), .int (nI af), .ref s1, .ref s2, .ref s3, .ref s4, .ref s5, .int (nI pl), .int (pm_b go), .int (pm_b qu), .int (nI cy), .int (nI qc), .int (pm_b fr), .int (pm_b wq)])), (s1, .inl (t1, 401, .inl (pm_nf9 sm))), (s2, .inl (t2, 8000, .inl (pm_nf9 gv))), (s3, .inl (t3, 16, .inl (pm_nf9 gr))), (s4, .inl (t4, 400, .inl rc)), (s5, .inl (t5, 400, .inl mq))] s.heap.size = A at hD ⊢
  have hA : ∀ q : Nat, s.heap.size ≤ q → A q := fun q h => by rw [← hAe]; exact Or.inr h
  have hP : va_P (dC, dI) vwCl [(y0, .inr (4, [.int (nI th), .int (nI N), .int (nI af), .ref s1, .ref s2, .ref s3, .ref s4, .ref s5, .int (nI pl), .int (pm_b go), .int (pm_b qu), .int (nI cy), .int (nI qc), .int (pm_b fr), .int (pm_b wq)])), (s1, .inl (t1, 401, .inl (pm_nf9 sm))), (s2, .inl (t2, 8000, .inl (pm_nf9 gv))), (s3, .inl (t3, 16, .inl (pm_nf9 gr))), (s4, .inl (t4, 400, .inl rc)), (s5, .inl (t5, 400, .inl mq))] s.heap := hP
  have hl := lv_entry ([.ref y0, .int p0, .int p1]) (n := 3) (Nat.le_of_ble_eq_true rfl)
  rw [lg_entry_eq]
  generalize (lg_sl ([.ref y0, .int p0, .int p1]) ++ List.replicate (3 - (lg_sl ([.ref y0, .int p0, .int p1])).length) Slot.unset).toArray = ls at hl ⊢
  have hl : lv_has ls 3 [(0, .ref y0), (1, .int p0), (2, .int p1)] := hl
  obtain ⟨H, hH⟩ : ∃ H : Heap, H = s.heap := ⟨_, rfl⟩
  rw [← hH]
  rw [← hH] at hP
  have hS : va_S A s.heap H [] := by rw [hH]; exact va_S.rf
  clear hH
  have hN := hM.1
  refine lv_aload_n hx hb dX4_get_0 rfl (lv_at hl 0 rfl) ?_
  refine lv_aload_n hx hb dX4_get_1 rfl (lv_at hl 0 rfl) ?_
  refine lv_iload_n hx hb dX4_get_2 rfl (lv_at hl 1 rfl) ?_
  refine lv_iload_n hx hb dX4_get_3 rfl (lv_at hl 2 rfl) ?_
  have hPc := hP.sub (ws' := [(y0, .inr (4, [.int (nI th), .int (nI N), .int (nI af), .ref s1, .ref s2, .ref s3, .ref s4, .ref s5, .int (nI pl), .int (pm_b go), .int (pm_b qu), .int (nI cy), .int (nI qc), .int (pm_b fr), .int (pm_b wq)])), (s1, .inl (t1, 401, .inl (pm_nf9 sm))), (s2, .inl (t2, 8000, .inl (pm_nf9 gv))), (s3, .inl (t3, 16, .inl (pm_nf9 gr))), (s4, .inl (t4, 400, .inl rc)), (s5, .inl (t5, 400, .inl mq))]) [0, 1, 2, 3, 4, 5] rfl
  have hDc := hD.sub (ws' := [(y0, .inr (4, [.int (nI th), .int (nI N), .int (nI af), .ref s1, .ref s2, .ref s3, .ref s4, .ref s5, .int (nI pl), .int (pm_b go), .int (pm_b qu), .int (nI cy), .int (nI qc), .int (pm_b fr), .int (pm_b wq)])), (s1, .inl (t1, 401, .inl (pm_nf9 sm))), (s2, .inl (t2, 8000, .inl (pm_nf9 gv))), (s3, .inl (t3, 16, .inl (pm_nf9 gr))), (s4, .inl (t4, 400, .inl rc)), (s5, .inl (t5, 400, .inl mq))]) [0, 1, 2, 3, 4, 5] (by decide) rfl
  have hKc := hK.sub (tys' := [(t1, .int), (t2, .int), (t3, .int), (t4, .boolean), (t5, .boolean)]) [0, 1, 2, 3, 4] rfl
  have hFc := va_free (wc := [(y0, .inr (4, [.int (nI th), .int (nI N), .int (nI af), .ref s1, .ref s2, .ref s3, .ref s4, .ref s5, .int (nI pl), .int (pm_b go), .int (pm_b qu), .int (nI cy), .int (nI qc), .int (pm_b fr), .int (pm_b wq)])), (s1, .inl (t1, 401, .inl (pm_nf9 sm))), (s2, .inl (t2, 8000, .inl (pm_nf9 gv))), (s3, .inl (t3, 16, .inl (pm_nf9 gr))), (s4, .inl (t4, 400, .inl rc)), (s5, .inl (t5, 400, .inl mq))]) hD hS hA [0, 1, 2, 3, 4, 5] rfl
  refine va_calli (va_runV (As := [.int p0, .int p1]) (rest := [.ref y0]) ⟨hx, hb, hml, hown, hts⟩ (c_Q_isField l dC dI y0 s1 s2 s3 s4 s5 t1 t2 t3 t4 t5 th N af sm gv gr rc mq pl go qu cy qc fr wq p0 p1 H.size (hM)) (cwV 2 hts (gw_V ml_X4_57 mi_X4_isField ms_X4_isField mn_X4 mc_X4_isField) rfl rfl rfl (by decide +kernel) ⟨Nat.le_of_ble_eq_true rfl, Nat.le_of_ble_eq_true rfl⟩) ⟨fun a U g mk q => by obtain ⟨q0, q1, qP, qK, qD⟩ := q; exact ⟨q0, q1, qP, va_K.moved (u := U) (U := U.calling g mk a) (Vm.Alike.refl U.vm) qK, qD⟩, va_recv hKc hPc (ci := 4) (q0 := 0) rfl rfl, fun U hU hW => ⟨rfl, by rw [hU], by rw [hU]; exact hPc, va_K.moved hW.alike hKc, hDc.weaken (fun _ _ _ _ => trivial)⟩⟩ rfl rfl hl.1 rfl (lv_room (Nat.le_of_ble_eq_true rfl)) dX4_get_4 ⟨Nat.le_of_ble_eq_true rfl, Nat.le_of_ble_eq_true rfl⟩) hS (fun q _ h => hFc q h) hFc (fun r_1 u t H1 locs ht hvm hw hB hz1 hk1 hS => ?_)
  obtain ⟨hP1, hK1, hD1⟩ := hB
  rw [ht] at hP1
  have hK1 := va_K.moved hvm.symm hK1
  obtain ⟨hP, hD⟩ := va_join (wr := []) (w1 := [(y0, .inr (4, [.int (nI th), .int (nI N), .int (nI af), .ref s1, .ref s2, .ref s3, .ref s4, .ref s5, .int (nI pl), .int (pm_b go), .int (pm_b qu), .int (nI cy), .int (nI qc), .int (pm_b fr), .int (pm_b wq)])), (s1, .inl (t1, 401, .inl (pm_nf9 sm))), (s2, .inl (t2, 8000, .inl (pm_nf9 gv))), (s3, .inl (t3, 16, .inl (pm_nf9 gr))), (s4, .inl (t4, 400, .inl rc)), (s5, .inl (t5, 400, .inl mq))]) hP hD [0, 1, 2, 3, 4, 5] [] rfl rfl (by decide) (by decide) hk1 hFc hP1 hD1
  clear hPc hDc hKc hFc hP1 hK1 hD1
  generalize H1 = H at hP hS ⊢
  have hP : va_P (dC, dI) vwCl [(y0, .inr (4, [.int (nI th), .int (nI N), .int (nI af), .ref s1, .ref s2, .ref s3, .ref s4, .ref s5, .int (nI pl), .int (pm_b go), .int (pm_b qu), .int (nI cy), .int (nI qc), .int (pm_b fr), .int (pm_b wq)])), (s1, .inl (t1, 401, .inl (pm_nf9 sm))), (s2, .inl (t2, 8000, .inl (pm_nf9 gv))), (s3, .inl (t3, 16, .inl (pm_nf9 gr))), (s4, .inl (t4, 400, .inl rc)), (s5, .inl (t5, 400, .inl mq))] H := hP.sub [0, 1, 2, 3, 4, 5] rfl
  have hD : va_D A [(y0, .inr (4, [.int (nI th), .int (nI N), .int (nI af), .ref s1, .ref s2, .ref s3, .ref s4, .ref s5, .int (nI pl), .int (pm_b go), .int (pm_b qu), .int (nI cy), .int (nI qc), .int (pm_b fr), .int (pm_b wq)])), (s1, .inl (t1, 401, .inl (pm_nf9 sm))), (s2, .inl (t2, 8000, .inl (pm_nf9 gv))), (s3, .inl (t3, 16, .inl (pm_nf9 gr))), (s4, .inl (t4, 400, .inl rc)), (s5, .inl (t5, 400, .inl mq))] := hD.sub [0, 1, 2, 3, 4, 5] (by decide) rfl
  obtain rfl : r_1 = nI 0 := hw.trans (by rw [hp]; rfl)
  refine lv_iconst (v := nI 1) hx hb dX4_get_7 (by decide +kernel) ?_
  have hPc := hP.sub (ws' := [(y0, .inr (4, [.int (nI th), .int (nI N), .int (nI af), .ref s1, .ref s2, .ref s3, .ref s4, .ref s5, .int (nI pl), .int (pm_b go), .int (pm_b qu), .int (nI cy), .int (nI qc), .int (pm_b fr), .int (pm_b wq)])), (s1, .inl (t1, 401, .inl (pm_nf9 sm))), (s2, .inl (t2, 8000, .inl (pm_nf9 gv))), (s3, .inl (t3, 16, .inl (pm_nf9 gr))), (s4, .inl (t4, 400, .inl rc)), (s5, .inl (t5, 400, .inl mq))]) [0, 1, 2, 3, 4, 5] rfl
  have hDc := hD.sub (ws' := [(y0, .inr (4, [.int (nI th), .int (nI N), .int (nI af), .ref s1, .ref s2, .ref s3, .ref s4, .ref s5, .int (nI pl), .int (pm_b go), .int (pm_b qu), .int (nI cy), .int (nI qc), .int (pm_b fr), .int (pm_b wq)])), (s1, .inl (t1, 401, .inl (pm_nf9 sm))), (s2, .inl (t2, 8000, .inl (pm_nf9 gv))), (s3, .inl (t3, 16, .inl (pm_nf9 gr))), (s4, .inl (t4, 400, .inl rc)), (s5, .inl (t5, 400, .inl mq))]) [0, 1, 2, 3, 4, 5] (by decide) rfl
  have hKc := hK.sub (tys' := [(t1, .int), (t2, .int), (t3, .int), (t4, .boolean), (t5, .boolean)]) [0, 1, 2, 3, 4] rfl
  have hFc := va_free (wc := [(y0, .inr (4, [.int (nI th), .int (nI N), .int (nI af), .ref s1, .ref s2, .ref s3, .ref s4, .ref s5, .int (nI pl), .int (pm_b go), .int (pm_b qu), .int (nI cy), .int (nI qc), .int (pm_b fr), .int (pm_b wq)])), (s1, .inl (t1, 401, .inl (pm_nf9 sm))), (s2, .inl (t2, 8000, .inl (pm_nf9 gv))), (s3, .inl (t3, 16, .inl (pm_nf9 gr))), (s4, .inl (t4, 400, .inl rc)), (s5, .inl (t5, 400, .inl mq))]) hD hS hA [0, 1, 2, 3, 4, 5] rfl
  refine va_calli (va_runV (As := [.int (nI 0), .int (nI 1)]) (rest := []) ⟨hx, hb, hml, hown, hts⟩ (c_Q_goes l dC dI y0 s1 s2 s3 s4 s5 t1 t2 t3 t4 t5 th N af sm gv gr rc mq pl go qu cy qc fr wq false true H.size) (cwV 2 hts (gw_V ml_X4_47 mi_X4_goes ms_X4_goes mn_X4 mc_X4_goes) rfl rfl rfl (by decide +kernel) ⟨Nat.le_of_ble_eq_true rfl, Nat.le_of_ble_eq_true rfl⟩) ⟨fun a U g mk q => by obtain ⟨q0, q1, qP, qK, qD⟩ := q; exact ⟨q0, q1, qP, va_K.moved (u := U) (U := U.calling g mk a) (Vm.Alike.refl U.vm) qK, qD⟩, va_recv hKc hPc (ci := 4) (q0 := 0) rfl rfl, fun U hU hW => ⟨rfl, by rw [hU], by rw [hU]; exact hPc, va_K.moved hW.alike hKc, hDc.weaken (fun _ _ _ _ => trivial)⟩⟩ rfl rfl hl.1 rfl (lv_room (Nat.le_of_ble_eq_true rfl)) dX4_get_8 ⟨Nat.le_of_ble_eq_true rfl, Nat.le_of_ble_eq_true rfl⟩) hS (fun q _ h => hFc q h) hFc (fun r_2 u t H1 locs ht hvm hw hB hz1 hk1 hS => ?_)
  obtain ⟨hP1, hK1, hD1⟩ := hB
  rw [ht] at hP1
  have hK1 := va_K.moved hvm.symm hK1
  obtain ⟨hP, hD⟩ := va_join (wr := []) (w1 := [(y0, .inr (4, [.int (nI 1), .int (nI N), .int (nI af), .ref s1, .ref s2, .ref s3, .ref s4, .ref s5, .int (nI pl), .int (pm_b go), .int (pm_b qu), .int (nI cy), .int (nI qc), .int (pm_b fr), .int (pm_b wq)])), (s1, .inl (t1, 401, .inl (pm_nf9 sm))), (s2, .inl (t2, 8000, .inl (pm_nf9 gv))), (s3, .inl (t3, 16, .inl (pm_nf9 gr))), (s4, .inl (t4, 400, .inl rc)), (s5, .inl (t5, 400, .inl mq))]) hP hD [0, 1, 2, 3, 4, 5] [] rfl rfl (by decide) (by decide) hk1 hFc hP1 hD1
  clear hPc hDc hKc hFc hP1 hK1 hD1
  generalize H1 = H at hP hS ⊢
  have hP : va_P (dC, dI) vwCl [(y0, .inr (4, [.int (nI 1), .int (nI N), .int (nI af), .ref s1, .ref s2, .ref s3, .ref s4, .ref s5, .int (nI pl), .int (pm_b go), .int (pm_b qu), .int (nI cy), .int (nI qc), .int (pm_b fr), .int (pm_b wq)])), (s1, .inl (t1, 401, .inl (pm_nf9 sm))), (s2, .inl (t2, 8000, .inl (pm_nf9 gv))), (s3, .inl (t3, 16, .inl (pm_nf9 gr))), (s4, .inl (t4, 400, .inl rc)), (s5, .inl (t5, 400, .inl mq))] H := hP.sub [0, 1, 2, 3, 4, 5] rfl
  have hD : va_D A [(y0, .inr (4, [.int (nI 1), .int (nI N), .int (nI af), .ref s1, .ref s2, .ref s3, .ref s4, .ref s5, .int (nI pl), .int (pm_b go), .int (pm_b qu), .int (nI cy), .int (nI qc), .int (pm_b fr), .int (pm_b wq)])), (s1, .inl (t1, 401, .inl (pm_nf9 sm))), (s2, .inl (t2, 8000, .inl (pm_nf9 gv))), (s3, .inl (t3, 16, .inl (pm_nf9 gr))), (s4, .inl (t4, 400, .inl rc)), (s5, .inl (t5, 400, .inl mq))] := hD.sub [0, 1, 2, 3, 4, 5] (by decide) rfl
  obtain rfl : r_2 = nI 0 := hw
  refine lv_if_eq (tgt := 32) hx hb dX4_get_11 (by decide) (fun c_11 => ?_) (fun c_11 => absurd c_11 (by decide +kernel))
  refine lv_iconst (v := nI 0) hx hb dX4_get_32 (by decide +kernel) ?_
  exact W.iret (v := nI 0) hx hb hr (fun t ht hW => ⟨⟨nI 0, (), rfl, trivial, by rw [ht]; exact hP, va_K.moved hW.alike hK, hD⟩, hS.F ht⟩) hS.2.2 dX4_get_33

set_option maxHeartbeats 4000000 in
set_option maxRecDepth 100000 in
/-- root: done -/
theorem c_Q_root_ok (l : Launch) (dC : Nat → ClassId) (dI : Nat → Nat → Nat) (y0 s1 s2 s3 s4 s5 : Nat) (t1 t2 t3 t4 t5 : ClassId) (th N af : Nat) (sm gv gr : Nat → Nat) (rc mq : Nat → Int32) (pl : Nat) (go qu : Bool) (cy qc : Nat) (fr wq : Bool) (i : Nat) (p1 : Int32) (sz : Nat) (hM : pq_MO N sm gv gr af) (hi : i < 16) (hp : (decide (p1 = -1) || pm_has N p1) = true) : Met l yX4_root wsX4_root ({ frames := 1, cells := 0, slots := 0, locals := 22 }) (va_Pc [.ref y0, .int (nI i), .int p1] (fun U => U.heap.size = sz ∧ va_P (dC, dI) vwCl [(y0, .inr (4, [.int (nI th), .int (nI N), .int (nI af), .ref s1, .ref s2, .ref s3, .ref s4, .ref s5, .int (nI pl), .int (pm_b go), .int (pm_b qu), .int (nI cy), .int (nI qc), .int (pm_b fr), .int (pm_b wq)])), (s1, .inl (t1, 401, .inl (pm_nf9 sm))), (s2, .inl (t2, 8000, .inl (pm_nf9 gv))), (s3, .inl (t3, 16, .inl (pm_nf9 gr))), (s4, .inl (t4, 400, .inl rc)), (s5, .inl (t5, 400, .inl mq))] U.heap ∧ va_K (dC, dI) vwCl [(t1, .int), (t2, .int), (t3, .int), (t4, .boolean), (t5, .boolean)] U ∧ va_D (fun _ => True) [(y0, .inr (4, [.int (nI th), .int (nI N), .int (nI af), .ref s1, .ref s2, .ref s3, .ref s4, .ref s5, .int (nI pl), .int (pm_b go), .int (pm_b qu), .int (nI cy), .int (nI qc), .int (pm_b fr), .int (pm_b wq)])), (s1, .inl (t1, 401, .inl (pm_nf9 sm))), (s2, .inl (t2, 8000, .inl (pm_nf9 gv))), (s3, .inl (t3, 16, .inl (pm_nf9 gr))), (s4, .inl (t4, 400, .inl rc)), (s5, .inl (t5, 400, .inl mq))])) (va_Qi (fun (r : Int32) (_ : Unit) => r = nI (gr i) - nI 1) (fun (_ : Unit) (t : State) => va_P (dC, dI) vwCl [(y0, .inr (4, [.int (nI 0), .int (nI N), .int (nI af), .ref s1, .ref s2, .ref s3, .ref s4, .ref s5, .int (nI pl), .int (pm_b go), .int (pm_b false), .int (nI cy), .int (nI qc), .int (pm_b false), .int (pm_b wq)])), (s1, .inl (t1, 401, .inl (pm_nf9 sm))), (s2, .inl (t2, 8000, .inl (pm_nf9 gv))), (s3, .inl (t3, 16, .inl (pm_nf9 ((pm_un gr i (pm_v p1)))))), (s4, .inl (t4, 400, .inl rc)), (s5, .inl (t5, 400, .inl mq))] t.heap ∧ va_K (dC, dI) vwCl [(t1, .int), (t2, .int), (t3, .int), (t4, .boolean), (t5, .boolean)] t ∧ va_D (va_A [(y0, .inr (4, [.int (nI th), .int (nI N), .int (nI af), .ref s1, .ref s2, .ref s3, .ref s4, .ref s5, .int (nI pl), .int (pm_b go), .int (pm_b qu), .int (nI cy), .int (nI qc), .int (pm_b fr), .int (pm_b wq)])), (s1, .inl (t1, 401, .inl (pm_nf9 sm))), (s2, .inl (t2, 8000, .inl (pm_nf9 gv))), (s3, .inl (t3, 16, .inl (pm_nf9 gr))), (s4, .inl (t4, 400, .inl rc)), (s5, .inl (t5, 400, .inl mq))] sz) [(y0, .inr (4, [.int (nI 0), .int (nI N), .int (nI af), .ref s1, .ref s2, .ref s3, .ref s4, .ref s5, .int (nI pl), .int (pm_b go), .int (pm_b false), .int (nI cy), .int (nI qc), .int (pm_b false), .int (pm_b wq)])), (s1, .inl (t1, 401, .inl (pm_nf9 sm))), (s2, .inl (t2, 8000, .inl (pm_nf9 gv))), (s3, .inl (t3, 16, .inl (pm_nf9 ((pm_un gr i (pm_v p1)))))), (s4, .inl (t4, 400, .inl rc)), (s5, .inl (t5, 400, .inl mq))]) (va_A [(y0, .inr (4, [.int (nI th), .int (nI N), .int (nI af), .ref s1, .ref s2, .ref s3, .ref s4, .ref s5, .int (nI pl), .int (pm_b go), .int (pm_b qu), .int (nI cy), .int (nI qc), .int (pm_b fr), .int (pm_b wq)])), (s1, .inl (t1, 401, .inl (pm_nf9 sm))), (s2, .inl (t2, 8000, .inl (pm_nf9 gv))), (s3, .inl (t3, 16, .inl (pm_nf9 gr))), (s4, .inl (t4, 400, .inl rc)), (s5, .inl (t5, 400, .inl mq))] sz)) 0 0 (va_A [(y0, .inr (4, [.int (nI th), .int (nI N), .int (nI af), .ref s1, .ref s2, .ref s3, .ref s4, .ref s5, .int (nI pl), .int (pm_b go), .int (pm_b qu), .int (nI cy), .int (nI qc), .int (pm_b fr), .int (pm_b wq)])), (s1, .inl (t1, 401, .inl (pm_nf9 sm))), (s2, .inl (t2, 8000, .inl (pm_nf9 gv))), (s3, .inl (t3, 16, .inl (pm_nf9 gr))), (s4, .inl (t4, 400, .inl rc)), (s5, .inl (t5, 400, .inl mq))] sz) := by
  refine Met.ofW (cc := cX4_root) (maxL := 4) (ret := (some .int)) (by decide) rfl ?_
  intro p e s m args below meth c s₁ B hml hv
  obtain ⟨rfl, hsz, hP, hK, hD0⟩ := hv
  have hx := B.exec
  have hb := B.bytes
  have hr := B.returns
  have hts : ∀ w ∈ gw, w.before _ s = true := fun w h => atoms_spec (ws := wsX4_root) B.pre w (List.mem_cons_of_mem _ h)
  have hown : s.vm.findClass RX4 = some m.cls := findClass_of_methodNamed B.named
  have hlocks := B.notSynchronized
  subst hsz
  have hD := hD0.self (sz := s.heap.size)
  generalize hAe : va_A [(y0, .inr (4, [.int (nI th), .int (nI N), .int (nI af), .ref s1, .ref s2, .ref s3, .ref s4, .ref s5, .int (nI pl), .int (pm_b go), .int (pm_b qu), .int (nI cy), .int (nI qc), .int (pm_b fr), .int (pm_b wq)])), (s1, .inl (t1, 401, .inl (pm_nf9 sm))), (s2, .inl (t2, 8000, .inl (pm_nf9 gv))), (s3, .inl (t3, 16, .inl (pm_nf9 gr))), (s4, .inl (t4, 400, .inl rc)), (s5, .inl (t5, 400, .inl mq))] s.heap.size = A at hD ⊢
  have hA : ∀ q : Nat, s.heap.size ≤ q → A q := fun q h => by rw [← hAe]; exact Or.inr h
  have hP : va_P (dC, dI) vwCl [(y0, .inr (4, [.int (nI th), .int (nI N), .int (nI af), .ref s1, .ref s2, .ref s3, .ref s4, .ref s5, .int (nI pl), .int (pm_b go), .int (pm_b qu), .int (nI cy), .int (nI qc), .int (pm_b fr), .int (pm_b wq)])), (s1, .inl (t1, 401, .inl (pm_nf9 sm))), (s2, .inl (t2, 8000, .inl (pm_nf9 gv))), (s3, .inl (t3, 16, .inl (pm_nf9 gr))), (s4, .inl (t4, 400, .inl rc)), (s5, .inl (t5, 400, .inl mq))] s.heap := hP
  have hl := lv_entry ([.ref y0, .int (nI i), .int p1]) (n := 4) (Nat.le_of_ble_eq_true rfl)
  rw [lg_entry_eq]
  generalize (lg_sl ([.ref y0, .int (nI i), .int p1]) ++ List.replicate (4 - (lg_sl ([.ref y0, .int (nI i), .int p1])).length) Slot.unset).toArray = ls at hl ⊢
  have hl : lv_has ls 4 [(0, .ref y0), (1, .int (nI i)), (2, .int p1)] := hl
  obtain ⟨H, hH⟩ : ∃ H : Heap, H = s.heap := ⟨_, rfl⟩
  rw [← hH]
  rw [← hH] at hP
  have hS : va_S A s.heap H [] := by rw [hH]; exact va_S.rf
  clear hH
  have hN := hM.1
  have hv9 := pm_v_ok hN hp
  refine lv_aload_n hx hb dX4_root_0 rfl (lv_at hl 0 rfl) ?_
  refine lv_iload_n hx hb dX4_root_1 rfl (lv_at hl 1 rfl) ?_
  refine lv_if_lt (tgt := 28) hx hb dX4_root_2 (by decide) (fun c_2 => absurd c_2 (nI_pos (by omega))) (fun c_2 => ?_)
  refine lv_iload_n hx hb dX4_root_5 rfl (lv_at hl 1 rfl) ?_
  refine lv_bipush (v := nI 15) hx hb dX4_root_6 (by decide +kernel) ?_
  refine lv_icmp_gt (tgt := 28) hx hb dX4_root_8 (by decide) (fun c_8 => absurd c_8 (nI_nlt (by omega) (by omega))) (fun c_8 => ?_)
  refine lv_iload_n hx hb dX4_root_11 rfl (lv_at hl 2 rfl) ?_
  refine lv_iconst (v := -1) hx hb dX4_root_12 (by decide +kernel) ?_
  refine lv_icmp_eq (tgt := 24) hx hb dX4_root_13 (by decide) (fun c_13 => ?_) (fun c_13 => ?_)
  · refine lv_iconst (v := nI 1) hx hb dX4_root_24 (by decide +kernel) ?_
    refine lv_goto (tgt := 29) hx hb dX4_root_25 (by decide) ?_
    refine lv_iconst (v := nI 1) hx hb dX4_root_29 (by decide +kernel) ?_
    have hPc := hP.sub (ws' := [(y0, .inr (4, [.int (nI th), .int (nI N), .int (nI af), .ref s1, .ref s2, .ref s3, .ref s4, .ref s5, .int (nI pl), .int (pm_b go), .int (pm_b qu), .int (nI cy), .int (nI qc), .int (pm_b fr), .int (pm_b wq)])), (s1, .inl (t1, 401, .inl (pm_nf9 sm))), (s2, .inl (t2, 8000, .inl (pm_nf9 gv))), (s3, .inl (t3, 16, .inl (pm_nf9 gr))), (s4, .inl (t4, 400, .inl rc)), (s5, .inl (t5, 400, .inl mq))]) [0, 1, 2, 3, 4, 5] rfl
    have hDc := hD.sub (ws' := [(y0, .inr (4, [.int (nI th), .int (nI N), .int (nI af), .ref s1, .ref s2, .ref s3, .ref s4, .ref s5, .int (nI pl), .int (pm_b go), .int (pm_b qu), .int (nI cy), .int (nI qc), .int (pm_b fr), .int (pm_b wq)])), (s1, .inl (t1, 401, .inl (pm_nf9 sm))), (s2, .inl (t2, 8000, .inl (pm_nf9 gv))), (s3, .inl (t3, 16, .inl (pm_nf9 gr))), (s4, .inl (t4, 400, .inl rc)), (s5, .inl (t5, 400, .inl mq))]) [0, 1, 2, 3, 4, 5] (by decide) rfl
    have hKc := hK.sub (tys' := [(t1, .int), (t2, .int), (t3, .int), (t4, .boolean), (t5, .boolean)]) [0, 1, 2, 3, 4] rfl
    have hFc := va_free (wc := [(y0, .inr (4, [.int (nI th), .int (nI N), .int (nI af), .ref s1, .ref s2, .ref s3, .ref s4, .ref s5, .int (nI pl), .int (pm_b go), .int (pm_b qu), .int (nI cy), .int (nI qc), .int (pm_b fr), .int (pm_b wq)])), (s1, .inl (t1, 401, .inl (pm_nf9 sm))), (s2, .inl (t2, 8000, .inl (pm_nf9 gv))), (s3, .inl (t3, 16, .inl (pm_nf9 gr))), (s4, .inl (t4, 400, .inl rc)), (s5, .inl (t5, 400, .inl mq))]) hD hS hA [0, 1, 2, 3, 4, 5] rfl
    refine va_calli (va_runV (As := [.int (nI 1), .int (nI 1)]) (rest := []) ⟨hx, hb, hml, hown, hts⟩ (c_Q_goes l dC dI y0 s1 s2 s3 s4 s5 t1 t2 t3 t4 t5 th N af sm gv gr rc mq pl go qu cy qc fr wq true true H.size) (cwV 2 hts (gw_V ml_X4_47 mi_X4_goes ms_X4_goes mn_X4 mc_X4_goes) rfl rfl rfl (by decide +kernel) ⟨Nat.le_of_ble_eq_true rfl, Nat.le_of_ble_eq_true rfl⟩) ⟨fun a U g mk q => by obtain ⟨q0, q1, qP, qK, qD⟩ := q; exact ⟨q0, q1, qP, va_K.moved (u := U) (U := U.calling g mk a) (Vm.Alike.refl U.vm) qK, qD⟩, va_recv hKc hPc (ci := 4) (q0 := 0) rfl rfl, fun U hU hW => ⟨rfl, by rw [hU], by rw [hU]; exact hPc, va_K.moved hW.alike hKc, hDc.weaken (fun _ _ _ _ => trivial)⟩⟩ rfl rfl hl.1 rfl (lv_room (Nat.le_of_ble_eq_true rfl)) dX4_root_30 ⟨Nat.le_of_ble_eq_true rfl, Nat.le_of_ble_eq_true rfl⟩) hS (fun q _ h => hFc q h) hFc (fun r_1 u t H1 locs ht hvm hw hB hz1 hk1 hS => ?_)
    obtain ⟨hP1, hK1, hD1⟩ := hB
    rw [ht] at hP1
    have hK1 := va_K.moved hvm.symm hK1
    obtain ⟨hP, hD⟩ := va_join (wr := []) (w1 := [(y0, .inr (4, [.int (nI 0), .int (nI N), .int (nI af), .ref s1, .ref s2, .ref s3, .ref s4, .ref s5, .int (nI pl), .int (pm_b go), .int (pm_b qu), .int (nI cy), .int (nI qc), .int (pm_b fr), .int (pm_b wq)])), (s1, .inl (t1, 401, .inl (pm_nf9 sm))), (s2, .inl (t2, 8000, .inl (pm_nf9 gv))), (s3, .inl (t3, 16, .inl (pm_nf9 gr))), (s4, .inl (t4, 400, .inl rc)), (s5, .inl (t5, 400, .inl mq))]) hP hD [0, 1, 2, 3, 4, 5] [] rfl rfl (by decide) (by decide) hk1 hFc hP1 hD1
    clear hPc hDc hKc hFc hP1 hK1 hD1
    generalize H1 = H at hP hS ⊢
    have hP : va_P (dC, dI) vwCl [(y0, .inr (4, [.int (nI 0), .int (nI N), .int (nI af), .ref s1, .ref s2, .ref s3, .ref s4, .ref s5, .int (nI pl), .int (pm_b go), .int (pm_b qu), .int (nI cy), .int (nI qc), .int (pm_b fr), .int (pm_b wq)])), (s1, .inl (t1, 401, .inl (pm_nf9 sm))), (s2, .inl (t2, 8000, .inl (pm_nf9 gv))), (s3, .inl (t3, 16, .inl (pm_nf9 gr))), (s4, .inl (t4, 400, .inl rc)), (s5, .inl (t5, 400, .inl mq))] H := hP.sub [0, 1, 2, 3, 4, 5] rfl
    have hD : va_D A [(y0, .inr (4, [.int (nI 0), .int (nI N), .int (nI af), .ref s1, .ref s2, .ref s3, .ref s4, .ref s5, .int (nI pl), .int (pm_b go), .int (pm_b qu), .int (nI cy), .int (nI qc), .int (pm_b fr), .int (pm_b wq)])), (s1, .inl (t1, 401, .inl (pm_nf9 sm))), (s2, .inl (t2, 8000, .inl (pm_nf9 gv))), (s3, .inl (t3, 16, .inl (pm_nf9 gr))), (s4, .inl (t4, 400, .inl rc)), (s5, .inl (t5, 400, .inl mq))] := hD.sub [0, 1, 2, 3, 4, 5] (by decide) rfl
    obtain rfl : r_1 = nI 1 := hw
    refine lv_if_ne (tgt := 38) hx hb dX4_root_33 (by decide) (fun c_33 => ?_) (fun c_33 => absurd c_33 (by decide +kernel))
    refine lv_aload_n hx hb dX4_root_38 rfl (lv_at hl 0 rfl) ?_
    refine va_get (D := (dC, dI)) (ci := 4) (v := .ref s3) (C := RX4) (T := TX4) (N := 15) hx hb hts iw_X4 hown hK hP 0 rfl rfl 5 (by decide) (hts _ mf_X4_16) (fun _ h9 => h9) rfl dX4_root_39 ?_
    refine lv_iload_n hx hb dX4_root_42 rfl (lv_at hl 1 rfl) ?_
    refine va_iald hx hb hK hP 3 2 rfl rfl (vp_in_nI (by omega) (by omega)) dX4_root_43 ?_
    refine lv_topi (fun x_2 ex_2 => ?_)
    rw [nI_clamp (by omega)] at ex_2
    obtain rfl : x_2 = nI (gr i) := ex_2
    refine lv_iconst (v := nI 1) hx hb dX4_root_44 (by decide +kernel) ?_
    refine lv_isub hx hb dX4_root_45 ?_
    refine lv_istore_n (lv' := [(3, .int (nI (gr i) - nI 1)), (0, .ref y0), (1, .int (nI i)), (2, .int p1)]) hx hb dX4_root_46 rfl hl (by decide) rfl (fun ls hl => ?_)
    refine lv_aload_n hx hb dX4_root_47 rfl (lv_at hl 1 rfl) ?_
    refine va_get (D := (dC, dI)) (ci := 4) (v := .ref s3) (C := RX4) (T := TX4) (N := 15) hx hb hts iw_X4 hown hK hP 0 rfl rfl 5 (by decide) (hts _ mf_X4_16) (fun _ h9 => h9) rfl dX4_root_48 ?_
    refine lv_iload_n hx hb dX4_root_51 rfl (lv_at hl 2 rfl) ?_
    refine lv_iload_n hx hb dX4_root_52 rfl (lv_at hl 3 rfl) ?_
    refine lv_iconst (v := nI 1) hx hb dX4_root_53 (by decide +kernel) ?_
    refine lv_iadd hx hb dX4_root_54 ?_
    refine va_iast hx hb hK hP hD hS 3 2 rfl rfl (vp_in_nI (by omega) (by omega)) dX4_root_55 (fun H locs hP hD hS => ?_)
    rw [nI_clamp (by omega)] at hP hD
    have hP : va_P (dC, dI) vwCl [(y0, .inr (4, [.int (nI 0), .int (nI N), .int (nI af), .ref s1, .ref s2, .ref s3, .ref s4, .ref s5, .int (nI pl), .int (pm_b go), .int (pm_b qu), .int (nI cy), .int (nI qc), .int (pm_b fr), .int (pm_b wq)])), (s1, .inl (t1, 401, .inl (pm_nf9 sm))), (s2, .inl (t2, 8000, .inl (pm_nf9 gv))), (s3, .inl (t3, 16, .inl (upd (pm_nf9 gr) i (p1 + nI 1)))), (s4, .inl (t4, 400, .inl rc)), (s5, .inl (t5, 400, .inl mq))] H := hP
    have hD : va_D A [(y0, .inr (4, [.int (nI 0), .int (nI N), .int (nI af), .ref s1, .ref s2, .ref s3, .ref s4, .ref s5, .int (nI pl), .int (pm_b go), .int (pm_b qu), .int (nI cy), .int (nI qc), .int (pm_b fr), .int (pm_b wq)])), (s1, .inl (t1, 401, .inl (pm_nf9 sm))), (s2, .inl (t2, 8000, .inl (pm_nf9 gv))), (s3, .inl (t3, 16, .inl (upd (pm_nf9 gr) i (p1 + nI 1)))), (s4, .inl (t4, 400, .inl rc)), (s5, .inl (t5, 400, .inl mq))] := hD
    rw [show upd (pm_nf9 gr) i (p1 + nI 1) = pm_nf9 (pm_un gr i (pm_v p1)) from by rw [hv9.1]; exact pm_nf9_up gr _ _] at hP hD
    refine lv_aload_n hx hb dX4_root_56 rfl (lv_at hl 1 rfl) ?_
    have hPc := hP.sub (ws' := [(y0, .inr (4, [.int (nI 0), .int (nI N), .int (nI af), .ref s1, .ref s2, .ref s3, .ref s4, .ref s5, .int (nI pl), .int (pm_b go), .int (pm_b qu), .int (nI cy), .int (nI qc), .int (pm_b fr), .int (pm_b wq)])), (s1, .inl (t1, 401, .inl (pm_nf9 sm))), (s2, .inl (t2, 8000, .inl (pm_nf9 gv))), (s3, .inl (t3, 16, .inl (pm_nf9 (pm_un gr i (pm_v p1))))), (s4, .inl (t4, 400, .inl rc)), (s5, .inl (t5, 400, .inl mq))]) [0, 1, 2, 3, 4, 5] rfl
    have hDc := hD.sub (ws' := [(y0, .inr (4, [.int (nI 0), .int (nI N), .int (nI af), .ref s1, .ref s2, .ref s3, .ref s4, .ref s5, .int (nI pl), .int (pm_b go), .int (pm_b qu), .int (nI cy), .int (nI qc), .int (pm_b fr), .int (pm_b wq)])), (s1, .inl (t1, 401, .inl (pm_nf9 sm))), (s2, .inl (t2, 8000, .inl (pm_nf9 gv))), (s3, .inl (t3, 16, .inl (pm_nf9 (pm_un gr i (pm_v p1))))), (s4, .inl (t4, 400, .inl rc)), (s5, .inl (t5, 400, .inl mq))]) [0, 1, 2, 3, 4, 5] (by decide) rfl
    have hKc := hK.sub (tys' := [(t1, .int), (t2, .int), (t3, .int), (t4, .boolean), (t5, .boolean)]) [0, 1, 2, 3, 4] rfl
    have hFc := va_free (wc := [(y0, .inr (4, [.int (nI 0), .int (nI N), .int (nI af), .ref s1, .ref s2, .ref s3, .ref s4, .ref s5, .int (nI pl), .int (pm_b go), .int (pm_b qu), .int (nI cy), .int (nI qc), .int (pm_b fr), .int (pm_b wq)])), (s1, .inl (t1, 401, .inl (pm_nf9 sm))), (s2, .inl (t2, 8000, .inl (pm_nf9 gv))), (s3, .inl (t3, 16, .inl (pm_nf9 (pm_un gr i (pm_v p1))))), (s4, .inl (t4, 400, .inl rc)), (s5, .inl (t5, 400, .inl mq))]) hD hS hA [0, 1, 2, 3, 4, 5] rfl
    refine va_callv (va_runV (As := []) (rest := []) ⟨hx, hb, hml, hown, hts⟩ (c_Q_changed l dC dI y0 s1 s2 s3 s4 s5 t1 t2 t3 t4 t5 0 N af sm gv (pm_un gr i (pm_v p1)) rc mq pl go qu cy qc fr wq H.size) (cwV 0 hts (gw_V ml_X4_54 mi_X4_changed ms_X4_changed mn_X4 mc_X4_changed) rfl rfl rfl (by decide +kernel) ⟨Nat.le_of_ble_eq_true rfl, Nat.le_of_ble_eq_true rfl⟩) ⟨fun a U g mk q => by obtain ⟨q0, q1, qP, qK, qD⟩ := q; exact ⟨q0, q1, qP, va_K.moved (u := U) (U := U.calling g mk a) (Vm.Alike.refl U.vm) qK, qD⟩, va_recv hKc hPc (ci := 4) (q0 := 0) rfl rfl, fun U hU hW => ⟨rfl, by rw [hU], by rw [hU]; exact hPc, va_K.moved hW.alike hKc, hDc.weaken (fun _ _ _ _ => trivial)⟩⟩ rfl rfl hl.1 rfl (lv_room (Nat.le_of_ble_eq_true rfl)) dX4_root_57 ⟨Nat.le_of_ble_eq_true rfl, Nat.le_of_ble_eq_true rfl⟩) hS (fun q _ h => hFc q h) hFc (fun u t H1 locs ht hvm hw hB hz1 hk1 hS => ?_)
    obtain ⟨hP1, hK1, hD1⟩ := hB
    rw [ht] at hP1
    have hK1 := va_K.moved hvm.symm hK1
    obtain ⟨hP, hD⟩ := va_join (wr := []) (w1 := [(y0, .inr (4, [.int (nI 0), .int (nI N), .int (nI af), .ref s1, .ref s2, .ref s3, .ref s4, .ref s5, .int (nI pl), .int (pm_b go), .int (nI 0), .int (nI cy), .int (nI qc), .int (nI 0), .int (pm_b wq)])), (s1, .inl (t1, 401, .inl (pm_nf9 sm))), (s2, .inl (t2, 8000, .inl (pm_nf9 gv))), (s3, .inl (t3, 16, .inl (pm_nf9 (pm_un gr i (pm_v p1))))), (s4, .inl (t4, 400, .inl rc)), (s5, .inl (t5, 400, .inl mq))]) hP hD [0, 1, 2, 3, 4, 5] [] rfl rfl (by decide) (by decide) hk1 hFc hP1 hD1
    clear hPc hDc hKc hFc hP1 hK1 hD1
    generalize H1 = H at hP hS ⊢
    have hP : va_P (dC, dI) vwCl [(y0, .inr (4, [.int (nI 0), .int (nI N), .int (nI af), .ref s1, .ref s2, .ref s3, .ref s4, .ref s5, .int (nI pl), .int (pm_b go), .int (nI 0), .int (nI cy), .int (nI qc), .int (nI 0), .int (pm_b wq)])), (s1, .inl (t1, 401, .inl (pm_nf9 sm))), (s2, .inl (t2, 8000, .inl (pm_nf9 gv))), (s3, .inl (t3, 16, .inl (pm_nf9 (pm_un gr i (pm_v p1))))), (s4, .inl (t4, 400, .inl rc)), (s5, .inl (t5, 400, .inl mq))] H := hP.sub [0, 1, 2, 3, 4, 5] rfl
    have hD : va_D A [(y0, .inr (4, [.int (nI 0), .int (nI N), .int (nI af), .ref s1, .ref s2, .ref s3, .ref s4, .ref s5, .int (nI pl), .int (pm_b go), .int (nI 0), .int (nI cy), .int (nI qc), .int (nI 0), .int (pm_b wq)])), (s1, .inl (t1, 401, .inl (pm_nf9 sm))), (s2, .inl (t2, 8000, .inl (pm_nf9 gv))), (s3, .inl (t3, 16, .inl (pm_nf9 (pm_un gr i (pm_v p1))))), (s4, .inl (t4, 400, .inl rc)), (s5, .inl (t5, 400, .inl mq))] := hD.sub [0, 1, 2, 3, 4, 5] (by decide) rfl
    refine lv_iload_n hx hb dX4_root_60 rfl (lv_at hl 0 rfl) ?_
    exact W.iret (v := nI (gr i) - nI 1) hx hb hr (fun t ht hW => ⟨⟨nI (gr i) - nI 1, (), rfl, rfl, by rw [ht]; exact hP, va_K.moved hW.alike hK, hD⟩, hS.F ht⟩) hS.2.2 dX4_root_61
  · refine lv_aload_n hx hb dX4_root_16 rfl (lv_at hl 0 rfl) ?_
    refine lv_iload_n hx hb dX4_root_17 rfl (lv_at hl 2 rfl) ?_
    have hPc := hP.sub (ws' := [(y0, .inr (4, [.int (nI th), .int (nI N), .int (nI af), .ref s1, .ref s2, .ref s3, .ref s4, .ref s5, .int (nI pl), .int (pm_b go), .int (pm_b qu), .int (nI cy), .int (nI qc), .int (pm_b fr), .int (pm_b wq)])), (s1, .inl (t1, 401, .inl (pm_nf9 sm))), (s2, .inl (t2, 8000, .inl (pm_nf9 gv))), (s3, .inl (t3, 16, .inl (pm_nf9 gr))), (s4, .inl (t4, 400, .inl rc)), (s5, .inl (t5, 400, .inl mq))]) [0, 1, 2, 3, 4, 5] rfl
    have hDc := hD.sub (ws' := [(y0, .inr (4, [.int (nI th), .int (nI N), .int (nI af), .ref s1, .ref s2, .ref s3, .ref s4, .ref s5, .int (nI pl), .int (pm_b go), .int (pm_b qu), .int (nI cy), .int (nI qc), .int (pm_b fr), .int (pm_b wq)])), (s1, .inl (t1, 401, .inl (pm_nf9 sm))), (s2, .inl (t2, 8000, .inl (pm_nf9 gv))), (s3, .inl (t3, 16, .inl (pm_nf9 gr))), (s4, .inl (t4, 400, .inl rc)), (s5, .inl (t5, 400, .inl mq))]) [0, 1, 2, 3, 4, 5] (by decide) rfl
    have hKc := hK.sub (tys' := [(t1, .int), (t2, .int), (t3, .int), (t4, .boolean), (t5, .boolean)]) [0, 1, 2, 3, 4] rfl
    have hFc := va_free (wc := [(y0, .inr (4, [.int (nI th), .int (nI N), .int (nI af), .ref s1, .ref s2, .ref s3, .ref s4, .ref s5, .int (nI pl), .int (pm_b go), .int (pm_b qu), .int (nI cy), .int (nI qc), .int (pm_b fr), .int (pm_b wq)])), (s1, .inl (t1, 401, .inl (pm_nf9 sm))), (s2, .inl (t2, 8000, .inl (pm_nf9 gv))), (s3, .inl (t3, 16, .inl (pm_nf9 gr))), (s4, .inl (t4, 400, .inl rc)), (s5, .inl (t5, 400, .inl mq))]) hD hS hA [0, 1, 2, 3, 4, 5] rfl
    refine va_calli (va_runV (As := [.int p1]) (rest := [.ref y0]) ⟨hx, hb, hml, hown, hts⟩ (c_Q_isObject l dC dI y0 s1 s2 s3 s4 s5 t1 t2 t3 t4 t5 th N af sm gv gr rc mq pl go qu cy qc fr wq p1 H.size) (cwV 1 hts (gw_V ml_X4_36 mi_X4_isObject ms_X4_isObject mn_X4 mc_X4_isObject) rfl rfl rfl (by decide +kernel) ⟨Nat.le_of_ble_eq_true rfl, Nat.le_of_ble_eq_true rfl⟩) ⟨fun a U g mk q => by obtain ⟨q0, q1, qP, qK, qD⟩ := q; exact ⟨q0, q1, qP, va_K.moved (u := U) (U := U.calling g mk a) (Vm.Alike.refl U.vm) qK, qD⟩, va_recv hKc hPc (ci := 4) (q0 := 0) rfl rfl, fun U hU hW => ⟨rfl, by rw [hU], by rw [hU]; exact hPc, va_K.moved hW.alike hKc, hDc.weaken (fun _ _ _ _ => trivial)⟩⟩ rfl rfl hl.1 rfl (lv_room (Nat.le_of_ble_eq_true rfl)) dX4_root_18 ⟨Nat.le_of_ble_eq_true rfl, Nat.le_of_ble_eq_true rfl⟩) hS (fun q _ h => hFc q h) hFc (fun r_4 u t H1 locs ht hvm hw hB hz1 hk1 hS => ?_)
    obtain ⟨hP1, hK1, hD1⟩ := hB
    rw [ht] at hP1
    have hK1 := va_K.moved hvm.symm hK1
    obtain ⟨hP, hD⟩ := va_join (wr := []) (w1 := [(y0, .inr (4, [.int (nI th), .int (nI N), .int (nI af), .ref s1, .ref s2, .ref s3, .ref s4, .ref s5, .int (nI pl), .int (pm_b go), .int (pm_b qu), .int (nI cy), .int (nI qc), .int (pm_b fr), .int (pm_b wq)])), (s1, .inl (t1, 401, .inl (pm_nf9 sm))), (s2, .inl (t2, 8000, .inl (pm_nf9 gv))), (s3, .inl (t3, 16, .inl (pm_nf9 gr))), (s4, .inl (t4, 400, .inl rc)), (s5, .inl (t5, 400, .inl mq))]) hP hD [0, 1, 2, 3, 4, 5] [] rfl rfl (by decide) (by decide) hk1 hFc hP1 hD1
    clear hPc hDc hKc hFc hP1 hK1 hD1
    generalize H1 = H at hP hS ⊢
    have hP : va_P (dC, dI) vwCl [(y0, .inr (4, [.int (nI th), .int (nI N), .int (nI af), .ref s1, .ref s2, .ref s3, .ref s4, .ref s5, .int (nI pl), .int (pm_b go), .int (pm_b qu), .int (nI cy), .int (nI qc), .int (pm_b fr), .int (pm_b wq)])), (s1, .inl (t1, 401, .inl (pm_nf9 sm))), (s2, .inl (t2, 8000, .inl (pm_nf9 gv))), (s3, .inl (t3, 16, .inl (pm_nf9 gr))), (s4, .inl (t4, 400, .inl rc)), (s5, .inl (t5, 400, .inl mq))] H := hP.sub [0, 1, 2, 3, 4, 5] rfl
    have hD : va_D A [(y0, .inr (4, [.int (nI th), .int (nI N), .int (nI af), .ref s1, .ref s2, .ref s3, .ref s4, .ref s5, .int (nI pl), .int (pm_b go), .int (pm_b qu), .int (nI cy), .int (nI qc), .int (pm_b fr), .int (pm_b wq)])), (s1, .inl (t1, 401, .inl (pm_nf9 sm))), (s2, .inl (t2, 8000, .inl (pm_nf9 gv))), (s3, .inl (t3, 16, .inl (pm_nf9 gr))), (s4, .inl (t4, 400, .inl rc)), (s5, .inl (t5, 400, .inl mq))] := hD.sub [0, 1, 2, 3, 4, 5] (by decide) rfl
    rcases pm_tf (pm_has N p1) with hh_18 | hh_18
    · obtain rfl : r_4 = nI 1 := hw.trans (by rw [hh_18]; rfl)
      refine lv_if_eq (tgt := 28) hx hb dX4_root_21 (by decide) (fun c_21 => absurd c_21 (by decide +kernel)) (fun c_21 => ?_)
      refine lv_iconst (v := nI 1) hx hb dX4_root_24 (by decide +kernel) ?_
      refine lv_goto (tgt := 29) hx hb dX4_root_25 (by decide) ?_
      refine lv_iconst (v := nI 1) hx hb dX4_root_29 (by decide +kernel) ?_
      have hPc := hP.sub (ws' := [(y0, .inr (4, [.int (nI th), .int (nI N), .int (nI af), .ref s1, .ref s2, .ref s3, .ref s4, .ref s5, .int (nI pl), .int (pm_b go), .int (pm_b qu), .int (nI cy), .int (nI qc), .int (pm_b fr), .int (pm_b wq)])), (s1, .inl (t1, 401, .inl (pm_nf9 sm))), (s2, .inl (t2, 8000, .inl (pm_nf9 gv))), (s3, .inl (t3, 16, .inl (pm_nf9 gr))), (s4, .inl (t4, 400, .inl rc)), (s5, .inl (t5, 400, .inl mq))]) [0, 1, 2, 3, 4, 5] rfl
      have hDc := hD.sub (ws' := [(y0, .inr (4, [.int (nI th), .int (nI N), .int (nI af), .ref s1, .ref s2, .ref s3, .ref s4, .ref s5, .int (nI pl), .int (pm_b go), .int (pm_b qu), .int (nI cy), .int (nI qc), .int (pm_b fr), .int (pm_b wq)])), (s1, .inl (t1, 401, .inl (pm_nf9 sm))), (s2, .inl (t2, 8000, .inl (pm_nf9 gv))), (s3, .inl (t3, 16, .inl (pm_nf9 gr))), (s4, .inl (t4, 400, .inl rc)), (s5, .inl (t5, 400, .inl mq))]) [0, 1, 2, 3, 4, 5] (by decide) rfl
      have hKc := hK.sub (tys' := [(t1, .int), (t2, .int), (t3, .int), (t4, .boolean), (t5, .boolean)]) [0, 1, 2, 3, 4] rfl
      have hFc := va_free (wc := [(y0, .inr (4, [.int (nI th), .int (nI N), .int (nI af), .ref s1, .ref s2, .ref s3, .ref s4, .ref s5, .int (nI pl), .int (pm_b go), .int (pm_b qu), .int (nI cy), .int (nI qc), .int (pm_b fr), .int (pm_b wq)])), (s1, .inl (t1, 401, .inl (pm_nf9 sm))), (s2, .inl (t2, 8000, .inl (pm_nf9 gv))), (s3, .inl (t3, 16, .inl (pm_nf9 gr))), (s4, .inl (t4, 400, .inl rc)), (s5, .inl (t5, 400, .inl mq))]) hD hS hA [0, 1, 2, 3, 4, 5] rfl
      refine va_calli (va_runV (As := [.int (nI 1), .int (nI 1)]) (rest := []) ⟨hx, hb, hml, hown, hts⟩ (c_Q_goes l dC dI y0 s1 s2 s3 s4 s5 t1 t2 t3 t4 t5 th N af sm gv gr rc mq pl go qu cy qc fr wq true true H.size) (cwV 2 hts (gw_V ml_X4_47 mi_X4_goes ms_X4_goes mn_X4 mc_X4_goes) rfl rfl rfl (by decide +kernel) ⟨Nat.le_of_ble_eq_true rfl, Nat.le_of_ble_eq_true rfl⟩) ⟨fun a U g mk q => by obtain ⟨q0, q1, qP, qK, qD⟩ := q; exact ⟨q0, q1, qP, va_K.moved (u := U) (U := U.calling g mk a) (Vm.Alike.refl U.vm) qK, qD⟩, va_recv hKc hPc (ci := 4) (q0 := 0) rfl rfl, fun U hU hW => ⟨rfl, by rw [hU], by rw [hU]; exact hPc, va_K.moved hW.alike hKc, hDc.weaken (fun _ _ _ _ => trivial)⟩⟩ rfl rfl hl.1 rfl (lv_room (Nat.le_of_ble_eq_true rfl)) dX4_root_30 ⟨Nat.le_of_ble_eq_true rfl, Nat.le_of_ble_eq_true rfl⟩) hS (fun q _ h => hFc q h) hFc (fun r_5 u t H1 locs ht hvm hw hB hz1 hk1 hS => ?_)
      obtain ⟨hP1, hK1, hD1⟩ := hB
      rw [ht] at hP1
      have hK1 := va_K.moved hvm.symm hK1
      obtain ⟨hP, hD⟩ := va_join (wr := []) (w1 := [(y0, .inr (4, [.int (nI 0), .int (nI N), .int (nI af), .ref s1, .ref s2, .ref s3, .ref s4, .ref s5, .int (nI pl), .int (pm_b go), .int (pm_b qu), .int (nI cy), .int (nI qc), .int (pm_b fr), .int (pm_b wq)])), (s1, .inl (t1, 401, .inl (pm_nf9 sm))), (s2, .inl (t2, 8000, .inl (pm_nf9 gv))), (s3, .inl (t3, 16, .inl (pm_nf9 gr))), (s4, .inl (t4, 400, .inl rc)), (s5, .inl (t5, 400, .inl mq))]) hP hD [0, 1, 2, 3, 4, 5] [] rfl rfl (by decide) (by decide) hk1 hFc hP1 hD1
      clear hPc hDc hKc hFc hP1 hK1 hD1
      generalize H1 = H at hP hS ⊢
      have hP : va_P (dC, dI) vwCl [(y0, .inr (4, [.int (nI 0), .int (nI N), .int (nI af), .ref s1, .ref s2, .ref s3, .ref s4, .ref s5, .int (nI pl), .int (pm_b go), .int (pm_b qu), .int (nI cy), .int (nI qc), .int (pm_b fr), .int (pm_b wq)])), (s1, .inl (t1, 401, .inl (pm_nf9 sm))), (s2, .inl (t2, 8000, .inl (pm_nf9 gv))), (s3, .inl (t3, 16, .inl (pm_nf9 gr))), (s4, .inl (t4, 400, .inl rc)), (s5, .inl (t5, 400, .inl mq))] H := hP.sub [0, 1, 2, 3, 4, 5] rfl
      have hD : va_D A [(y0, .inr (4, [.int (nI 0), .int (nI N), .int (nI af), .ref s1, .ref s2, .ref s3, .ref s4, .ref s5, .int (nI pl), .int (pm_b go), .int (pm_b qu), .int (nI cy), .int (nI qc), .int (pm_b fr), .int (pm_b wq)])), (s1, .inl (t1, 401, .inl (pm_nf9 sm))), (s2, .inl (t2, 8000, .inl (pm_nf9 gv))), (s3, .inl (t3, 16, .inl (pm_nf9 gr))), (s4, .inl (t4, 400, .inl rc)), (s5, .inl (t5, 400, .inl mq))] := hD.sub [0, 1, 2, 3, 4, 5] (by decide) rfl
      obtain rfl : r_5 = nI 1 := hw
      refine lv_if_ne (tgt := 38) hx hb dX4_root_33 (by decide) (fun c_33 => ?_) (fun c_33 => absurd c_33 (by decide +kernel))
      refine lv_aload_n hx hb dX4_root_38 rfl (lv_at hl 0 rfl) ?_
      refine va_get (D := (dC, dI)) (ci := 4) (v := .ref s3) (C := RX4) (T := TX4) (N := 15) hx hb hts iw_X4 hown hK hP 0 rfl rfl 5 (by decide) (hts _ mf_X4_16) (fun _ h9 => h9) rfl dX4_root_39 ?_
      refine lv_iload_n hx hb dX4_root_42 rfl (lv_at hl 1 rfl) ?_
      refine va_iald hx hb hK hP 3 2 rfl rfl (vp_in_nI (by omega) (by omega)) dX4_root_43 ?_
      refine lv_topi (fun x_6 ex_6 => ?_)
      rw [nI_clamp (by omega)] at ex_6
      obtain rfl : x_6 = nI (gr i) := ex_6
      refine lv_iconst (v := nI 1) hx hb dX4_root_44 (by decide +kernel) ?_
      refine lv_isub hx hb dX4_root_45 ?_
      refine lv_istore_n (lv' := [(3, .int (nI (gr i) - nI 1)), (0, .ref y0), (1, .int (nI i)), (2, .int p1)]) hx hb dX4_root_46 rfl hl (by decide) rfl (fun ls hl => ?_)
      refine lv_aload_n hx hb dX4_root_47 rfl (lv_at hl 1 rfl) ?_
      refine va_get (D := (dC, dI)) (ci := 4) (v := .ref s3) (C := RX4) (T := TX4) (N := 15) hx hb hts iw_X4 hown hK hP 0 rfl rfl 5 (by decide) (hts _ mf_X4_16) (fun _ h9 => h9) rfl dX4_root_48 ?_
      refine lv_iload_n hx hb dX4_root_51 rfl (lv_at hl 2 rfl) ?_
      refine lv_iload_n hx hb dX4_root_52 rfl (lv_at hl 3 rfl) ?_
      refine lv_iconst (v := nI 1) hx hb dX4_root_53 (by decide +kernel) ?_
      refine lv_iadd hx hb dX4_root_54 ?_
      refine va_iast hx hb hK hP hD hS 3 2 rfl rfl (vp_in_nI (by omega) (by omega)) dX4_root_55 (fun H locs hP hD hS => ?_)
      rw [nI_clamp (by omega)] at hP hD
      have hP : va_P (dC, dI) vwCl [(y0, .inr (4, [.int (nI 0), .int (nI N), .int (nI af), .ref s1, .ref s2, .ref s3, .ref s4, .ref s5, .int (nI pl), .int (pm_b go), .int (pm_b qu), .int (nI cy), .int (nI qc), .int (pm_b fr), .int (pm_b wq)])), (s1, .inl (t1, 401, .inl (pm_nf9 sm))), (s2, .inl (t2, 8000, .inl (pm_nf9 gv))), (s3, .inl (t3, 16, .inl (upd (pm_nf9 gr) i (p1 + nI 1)))), (s4, .inl (t4, 400, .inl rc)), (s5, .inl (t5, 400, .inl mq))] H := hP
      have hD : va_D A [(y0, .inr (4, [.int (nI 0), .int (nI N), .int (nI af), .ref s1, .ref s2, .ref s3, .ref s4, .ref s5, .int (nI pl), .int (pm_b go), .int (pm_b qu), .int (nI cy), .int (nI qc), .int (pm_b fr), .int (pm_b wq)])), (s1, .inl (t1, 401, .inl (pm_nf9 sm))), (s2, .inl (t2, 8000, .inl (pm_nf9 gv))), (s3, .inl (t3, 16, .inl (upd (pm_nf9 gr) i (p1 + nI 1)))), (s4, .inl (t4, 400, .inl rc)), (s5, .inl (t5, 400, .inl mq))] := hD
      rw [show upd (pm_nf9 gr) i (p1 + nI 1) = pm_nf9 (pm_un gr i (pm_v p1)) from by rw [hv9.1]; exact pm_nf9_up gr _ _] at hP hD
      refine lv_aload_n hx hb dX4_root_56 rfl (lv_at hl 1 rfl) ?_
      have hPc := hP.sub (ws' := [(y0, .inr (4, [.int (nI 0), .int (nI N), .int (nI af), .ref s1, .ref s2, .ref s3, .ref s4, .ref s5, .int (nI pl), .int (pm_b go), .int (pm_b qu), .int (nI cy), .int (nI qc), .int (pm_b fr), .int (pm_b wq)])), (s1, .inl (t1, 401, .inl (pm_nf9 sm))), (s2, .inl (t2, 8000, .inl (pm_nf9 gv))), (s3, .inl (t3, 16, .inl (pm_nf9 (pm_un gr i (pm_v p1))))), (s4, .inl (t4, 400, .inl rc)), (s5, .inl (t5, 400, .inl mq))]) [0, 1, 2, 3, 4, 5] rfl
      have hDc := hD.sub (ws' := [(y0, .inr (4, [.int (nI 0), .int (nI N), .int (nI af), .ref s1, .ref s2, .ref s3, .ref s4, .ref s5, .int (nI pl), .int (pm_b go), .int (pm_b qu), .int (nI cy), .int (nI qc), .int (pm_b fr), .int (pm_b wq)])), (s1, .inl (t1, 401, .inl (pm_nf9 sm))), (s2, .inl (t2, 8000, .inl (pm_nf9 gv))), (s3, .inl (t3, 16, .inl (pm_nf9 (pm_un gr i (pm_v p1))))), (s4, .inl (t4, 400, .inl rc)), (s5, .inl (t5, 400, .inl mq))]) [0, 1, 2, 3, 4, 5] (by decide) rfl
      have hKc := hK.sub (tys' := [(t1, .int), (t2, .int), (t3, .int), (t4, .boolean), (t5, .boolean)]) [0, 1, 2, 3, 4] rfl
      have hFc := va_free (wc := [(y0, .inr (4, [.int (nI 0), .int (nI N), .int (nI af), .ref s1, .ref s2, .ref s3, .ref s4, .ref s5, .int (nI pl), .int (pm_b go), .int (pm_b qu), .int (nI cy), .int (nI qc), .int (pm_b fr), .int (pm_b wq)])), (s1, .inl (t1, 401, .inl (pm_nf9 sm))), (s2, .inl (t2, 8000, .inl (pm_nf9 gv))), (s3, .inl (t3, 16, .inl (pm_nf9 (pm_un gr i (pm_v p1))))), (s4, .inl (t4, 400, .inl rc)), (s5, .inl (t5, 400, .inl mq))]) hD hS hA [0, 1, 2, 3, 4, 5] rfl
      refine va_callv (va_runV (As := []) (rest := []) ⟨hx, hb, hml, hown, hts⟩ (c_Q_changed l dC dI y0 s1 s2 s3 s4 s5 t1 t2 t3 t4 t5 0 N af sm gv (pm_un gr i (pm_v p1)) rc mq pl go qu cy qc fr wq H.size) (cwV 0 hts (gw_V ml_X4_54 mi_X4_changed ms_X4_changed mn_X4 mc_X4_changed) rfl rfl rfl (by decide +kernel) ⟨Nat.le_of_ble_eq_true rfl, Nat.le_of_ble_eq_true rfl⟩) ⟨fun a U g mk q => by obtain ⟨q0, q1, qP, qK, qD⟩ := q; exact ⟨q0, q1, qP, va_K.moved (u := U) (U := U.calling g mk a) (Vm.Alike.refl U.vm) qK, qD⟩, va_recv hKc hPc (ci := 4) (q0 := 0) rfl rfl, fun U hU hW => ⟨rfl, by rw [hU], by rw [hU]; exact hPc, va_K.moved hW.alike hKc, hDc.weaken (fun _ _ _ _ => trivial)⟩⟩ rfl rfl hl.1 rfl (lv_room (Nat.le_of_ble_eq_true rfl)) dX4_root_57 ⟨Nat.le_of_ble_eq_true rfl, Nat.le_of_ble_eq_true rfl⟩) hS (fun q _ h => hFc q h) hFc (fun u t H1 locs ht hvm hw hB hz1 hk1 hS => ?_)
      obtain ⟨hP1, hK1, hD1⟩ := hB
      rw [ht] at hP1
      have hK1 := va_K.moved hvm.symm hK1
      obtain ⟨hP, hD⟩ := va_join (wr := []) (w1 := [(y0, .inr (4, [.int (nI 0), .int (nI N), .int (nI af), .ref s1, .ref s2, .ref s3, .ref s4, .ref s5, .int (nI pl), .int (pm_b go), .int (nI 0), .int (nI cy), .int (nI qc), .int (nI 0), .int (pm_b wq)])), (s1, .inl (t1, 401, .inl (pm_nf9 sm))), (s2, .inl (t2, 8000, .inl (pm_nf9 gv))), (s3, .inl (t3, 16, .inl (pm_nf9 (pm_un gr i (pm_v p1))))), (s4, .inl (t4, 400, .inl rc)), (s5, .inl (t5, 400, .inl mq))]) hP hD [0, 1, 2, 3, 4, 5] [] rfl rfl (by decide) (by decide) hk1 hFc hP1 hD1
      clear hPc hDc hKc hFc hP1 hK1 hD1
      generalize H1 = H at hP hS ⊢
      have hP : va_P (dC, dI) vwCl [(y0, .inr (4, [.int (nI 0), .int (nI N), .int (nI af), .ref s1, .ref s2, .ref s3, .ref s4, .ref s5, .int (nI pl), .int (pm_b go), .int (nI 0), .int (nI cy), .int (nI qc), .int (nI 0), .int (pm_b wq)])), (s1, .inl (t1, 401, .inl (pm_nf9 sm))), (s2, .inl (t2, 8000, .inl (pm_nf9 gv))), (s3, .inl (t3, 16, .inl (pm_nf9 (pm_un gr i (pm_v p1))))), (s4, .inl (t4, 400, .inl rc)), (s5, .inl (t5, 400, .inl mq))] H := hP.sub [0, 1, 2, 3, 4, 5] rfl
      have hD : va_D A [(y0, .inr (4, [.int (nI 0), .int (nI N), .int (nI af), .ref s1, .ref s2, .ref s3, .ref s4, .ref s5, .int (nI pl), .int (pm_b go), .int (nI 0), .int (nI cy), .int (nI qc), .int (nI 0), .int (pm_b wq)])), (s1, .inl (t1, 401, .inl (pm_nf9 sm))), (s2, .inl (t2, 8000, .inl (pm_nf9 gv))), (s3, .inl (t3, 16, .inl (pm_nf9 (pm_un gr i (pm_v p1))))), (s4, .inl (t4, 400, .inl rc)), (s5, .inl (t5, 400, .inl mq))] := hD.sub [0, 1, 2, 3, 4, 5] (by decide) rfl
      refine lv_iload_n hx hb dX4_root_60 rfl (lv_at hl 0 rfl) ?_
      exact W.iret (v := nI (gr i) - nI 1) hx hb hr (fun t ht hW => ⟨⟨nI (gr i) - nI 1, (), rfl, rfl, by rw [ht]; exact hP, va_K.moved hW.alike hK, hD⟩, hS.F ht⟩) hS.2.2 dX4_root_61
    · exact absurd hp (by rw [decide_eq_false c_13, hh_18]; decide)

set_option maxHeartbeats 4000000 in
set_option maxRecDepth 100000 in
/-- root: refused -/
theorem c_Q_root_b (l : Launch) (dC : Nat → ClassId) (dI : Nat → Nat → Nat) (y0 s1 s2 s3 s4 s5 : Nat) (t1 t2 t3 t4 t5 : ClassId) (th N af : Nat) (sm gv gr : Nat → Nat) (rc mq : Nat → Int32) (pl : Nat) (go qu : Bool) (cy qc : Nat) (fr wq : Bool) (p0 p1 : Int32) (sz : Nat) (hM : pq_MO N sm gv gr af) (hp : (pm_has 16 p0 && (decide (p1 = -1) || pm_has N p1)) = false) : Met l yX4_root wsX4_root ({ frames := 1, cells := 0, slots := 0, locals := 22 }) (va_Pc [.ref y0, .int p0, .int p1] (fun U => U.heap.size = sz ∧ va_P (dC, dI) vwCl [(y0, .inr (4, [.int (nI th), .int (nI N), .int (nI af), .ref s1, .ref s2, .ref s3, .ref s4, .ref s5, .int (nI pl), .int (pm_b go), .int (pm_b qu), .int (nI cy), .int (nI qc), .int (pm_b fr), .int (pm_b wq)])), (s1, .inl (t1, 401, .inl (pm_nf9 sm))), (s2, .inl (t2, 8000, .inl (pm_nf9 gv))), (s3, .inl (t3, 16, .inl (pm_nf9 gr))), (s4, .inl (t4, 400, .inl rc)), (s5, .inl (t5, 400, .inl mq))] U.heap ∧ va_K (dC, dI) vwCl [(t1, .int), (t2, .int), (t3, .int), (t4, .boolean), (t5, .boolean)] U ∧ va_D (fun _ => True) [(y0, .inr (4, [.int (nI th), .int (nI N), .int (nI af), .ref s1, .ref s2, .ref s3, .ref s4, .ref s5, .int (nI pl), .int (pm_b go), .int (pm_b qu), .int (nI cy), .int (nI qc), .int (pm_b fr), .int (pm_b wq)])), (s1, .inl (t1, 401, .inl (pm_nf9 sm))), (s2, .inl (t2, 8000, .inl (pm_nf9 gv))), (s3, .inl (t3, 16, .inl (pm_nf9 gr))), (s4, .inl (t4, 400, .inl rc)), (s5, .inl (t5, 400, .inl mq))])) (va_Qi (fun (_ : Int32) (_ : Unit) => True) (fun (_ : Unit) (t : State) => va_P (dC, dI) vwCl [(y0, .inr (4, [.int (nI 1), .int (nI N), .int (nI af), .ref s1, .ref s2, .ref s3, .ref s4, .ref s5, .int (nI pl), .int (pm_b go), .int (pm_b qu), .int (nI cy), .int (nI qc), .int (pm_b fr), .int (pm_b wq)])), (s1, .inl (t1, 401, .inl (pm_nf9 sm))), (s2, .inl (t2, 8000, .inl (pm_nf9 gv))), (s3, .inl (t3, 16, .inl (pm_nf9 gr))), (s4, .inl (t4, 400, .inl rc)), (s5, .inl (t5, 400, .inl mq))] t.heap ∧ va_K (dC, dI) vwCl [(t1, .int), (t2, .int), (t3, .int), (t4, .boolean), (t5, .boolean)] t ∧ va_D (va_A [(y0, .inr (4, [.int (nI th), .int (nI N), .int (nI af), .ref s1, .ref s2, .ref s3, .ref s4, .ref s5, .int (nI pl), .int (pm_b go), .int (pm_b qu), .int (nI cy), .int (nI qc), .int (pm_b fr), .int (pm_b wq)])), (s1, .inl (t1, 401, .inl (pm_nf9 sm))), (s2, .inl (t2, 8000, .inl (pm_nf9 gv))), (s3, .inl (t3, 16, .inl (pm_nf9 gr))), (s4, .inl (t4, 400, .inl rc)), (s5, .inl (t5, 400, .inl mq))] sz) [(y0, .inr (4, [.int (nI 1), .int (nI N), .int (nI af), .ref s1, .ref s2, .ref s3, .ref s4, .ref s5, .int (nI pl), .int (pm_b go), .int (pm_b qu), .int (nI cy), .int (nI qc), .int (pm_b fr), .int (pm_b wq)])), (s1, .inl (t1, 401, .inl (pm_nf9 sm))), (s2, .inl (t2, 8000, .inl (pm_nf9 gv))), (s3, .inl (t3, 16, .inl (pm_nf9 gr))), (s4, .inl (t4, 400, .inl rc)), (s5, .inl (t5, 400, .inl mq))]) (va_A [(y0, .inr (4, [.int (nI th), .int (nI N), .int (nI af), .ref s1, .ref s2, .ref s3, .ref s4, .ref s5, .int (nI pl), .int (pm_b go), .int (pm_b qu), .int (nI cy), .int (nI qc), .int (pm_b fr), .int (pm_b wq)])), (s1, .inl (t1, 401, .inl (pm_nf9 sm))), (s2, .inl (t2, 8000, .inl (pm_nf9 gv))), (s3, .inl (t3, 16, .inl (pm_nf9 gr))), (s4, .inl (t4, 400, .inl rc)), (s5, .inl (t5, 400, .inl mq))] sz)) 0 0 (va_A [(y0, .inr (4, [.int (nI th), .int (nI N), .int (nI af), .ref s1, .ref s2, .ref s3, .ref s4, .ref s5, .int (nI pl), .int (pm_b go), .int (pm_b qu), .int (nI cy), .int (nI qc), .int (pm_b fr), .int (pm_b wq)])), (s1, .inl (t1, 401, .inl (pm_nf9 sm))), (s2, .inl (t2, 8000, .inl (pm_nf9 gv))), (s3, .inl (t3, 16, .inl (pm_nf9 gr))), (s4, .inl (t4, 400, .inl rc)), (s5, .inl (t5, 400, .inl mq))] sz) := by
  refine Met.ofW (cc := cX4_root) (maxL := 4) (ret := (some .int)) (by decide) rfl ?_
  intro p e s m args below meth c s₁ B hml hv
  obtain ⟨rfl, hsz, hP, hK, hD0⟩ := hv
  have hx := B.exec
  have hb := B.bytes
  have hr := B.returns
  have hts : ∀ w ∈ gw, w.before _ s = true := fun w h => atoms_spec (ws := wsX4_root) B.pre w (List.mem_cons_of_mem _ h)
  have hown : s.vm.findClass RX4 = some m.cls := findClass_of_methodNamed B.named
  have hlocks := B.notSynchronized
  subst hsz
  have hD := hD0.self (sz := s.heap.size)
  generalize hAe : va_A [(y0, .inr (4, [.int (nI th), .int (nI N), .int (nI af), .ref s1, .ref s2, .ref s3, .ref s4, .ref s5, .int (nI pl), .int (pm_b go), .int (pm_b qu), .int (nI cy), .int (nI qc), .int (pm_b fr), .int (pm_b wq)])), (s1, .inl (t1, 401, .inl (pm_nf9 sm))), (s2, .inl (t2, 8000, .inl (pm_nf9 gv))), (s3, .inl (t3, 16, .inl (pm_nf9 gr))), (s4, .inl (t4, 400, .inl rc)), (s5, .inl (t5, 400, .inl mq))] s.heap.size = A at hD ⊢
  have hA : ∀ q : Nat, s.heap.size ≤ q → A q := fun q h => by rw [← hAe]; exact Or.inr h
  have hP : va_P (dC, dI) vwCl [(y0, .inr (4, [.int (nI th), .int (nI N), .int (nI af), .ref s1, .ref s2, .ref s3, .ref s4, .ref s5, .int (nI pl), .int (pm_b go), .int (pm_b qu), .int (nI cy), .int (nI qc), .int (pm_b fr), .int (pm_b wq)])), (s1, .inl (t1, 401, .inl (pm_nf9 sm))), (s2, .inl (t2, 8000, .inl (pm_nf9 gv))), (s3, .inl (t3, 16, .inl (pm_nf9 gr))), (s4, .inl (t4, 400, .inl rc)), (s5, .inl (t5, 400, .inl mq))] s.heap := hP
  have hl := lv_entry ([.ref y0, .int p0, .int p1]) (n := 4) (Nat.le_of_ble_eq_true rfl)
  rw [lg_entry_eq]
  generalize (lg_sl ([.ref y0, .int p0, .int p1]) ++ List.replicate (4 - (lg_sl ([.ref y0, .int p0, .int p1])).length) Slot.unset).toArray = ls at hl ⊢
  have hl : lv_has ls 4 [(0, .ref y0), (1, .int p0), (2, .int p1)] := hl
  obtain ⟨H, hH⟩ : ∃ H : Heap, H = s.heap := ⟨_, rfl⟩
  rw [← hH]
  rw [← hH] at hP
  have hS : va_S A s.heap H [] := by rw [hH]; exact va_S.rf
  clear hH
  have hN := hM.1
  refine lv_aload_n hx hb dX4_root_0 rfl (lv_at hl 0 rfl) ?_
  refine lv_iload_n hx hb dX4_root_1 rfl (lv_at hl 1 rfl) ?_
  refine lv_if_lt (tgt := 28) hx hb dX4_root_2 (by decide) (fun c_2 => ?_) (fun c_2 => ?_)
  · refine lv_iconst (v := nI 0) hx hb dX4_root_28 (by decide +kernel) ?_
    refine lv_iconst (v := nI 1) hx hb dX4_root_29 (by decide +kernel) ?_
    have hPc := hP.sub (ws' := [(y0, .inr (4, [.int (nI th), .int (nI N), .int (nI af), .ref s1, .ref s2, .ref s3, .ref s4, .ref s5, .int (nI pl), .int (pm_b go), .int (pm_b qu), .int (nI cy), .int (nI qc), .int (pm_b fr), .int (pm_b wq)])), (s1, .inl (t1, 401, .inl (pm_nf9 sm))), (s2, .inl (t2, 8000, .inl (pm_nf9 gv))), (s3, .inl (t3, 16, .inl (pm_nf9 gr))), (s4, .inl (t4, 400, .inl rc)), (s5, .inl (t5, 400, .inl mq))]) [0, 1, 2, 3, 4, 5] rfl
    have hDc := hD.sub (ws' := [(y0, .inr (4, [.int (nI th), .int (nI N), .int (nI af), .ref s1, .ref s2, .ref s3, .ref s4, .ref s5, .int (nI pl), .int (pm_b go), .int (pm_b qu), .int (nI cy), .int (nI qc), .int (pm_b fr), .int (pm_b wq)])), (s1, .inl (t1, 401, .inl (pm_nf9 sm))), (s2, .inl (t2, 8000, .inl (pm_nf9 gv))), (s3, .inl (t3, 16, .inl (pm_nf9 gr))), (s4, .inl (t4, 400, .inl rc)), (s5, .inl (t5, 400, .inl mq))]) [0, 1, 2, 3, 4, 5] (by decide) rfl
    have hKc := hK.sub (tys' := [(t1, .int), (t2, .int), (t3, .int), (t4, .boolean), (t5, .boolean)]) [0, 1, 2, 3, 4] rfl
    have hFc := va_free (wc := [(y0, .inr (4, [.int (nI th), .int (nI N), .int (nI af), .ref s1, .ref s2, .ref s3, .ref s4, .ref s5, .int (nI pl), .int (pm_b go), .int (pm_b qu), .int (nI cy), .int (nI qc), .int (pm_b fr), .int (pm_b wq)])), (s1, .inl (t1, 401, .inl (pm_nf9 sm))), (s2, .inl (t2, 8000, .inl (pm_nf9 gv))), (s3, .inl (t3, 16, .inl (pm_nf9 gr))), (s4, .inl (t4, 400, .inl rc)), (s5, .inl (t5, 400, .inl mq))]) hD hS hA [0, 1, 2, 3, 4, 5] rfl
    refine va_calli (va_runV (As := [.int (nI 0), .int (nI 1)]) (rest := []) ⟨hx, hb, hml, hown, hts⟩ (c_Q_goes l dC dI y0 s1 s2 s3 s4 s5 t1 t2 t3 t4 t5 th N af sm gv gr rc mq pl go qu cy qc fr wq false true H.size) (cwV 2 hts (gw_V ml_X4_47 mi_X4_goes ms_X4_goes mn_X4 mc_X4_goes) rfl rfl rfl (by decide +kernel) ⟨Nat.le_of_ble_eq_true rfl, Nat.le_of_ble_eq_true rfl⟩) ⟨fun a U g mk q => by obtain ⟨q0, q1, qP, qK, qD⟩ := q; exact ⟨q0, q1, qP, va_K.moved (u := U) (U := U.calling g mk a) (Vm.Alike.refl U.vm) qK, qD⟩, va_recv hKc hPc (ci := 4) (q0 := 0) rfl rfl, fun U hU hW => ⟨rfl, by rw [hU], by rw [hU]; exact hPc, va_K.moved hW.alike hKc, hDc.weaken (fun _ _ _ _ => trivial)⟩⟩ rfl rfl hl.1 rfl (lv_room (Nat.le_of_ble_eq_true rfl)) dX4_root_30 ⟨Nat.le_of_ble_eq_true rfl, Nat.le_of_ble_eq_true rfl⟩) hS (fun q _ h => hFc q h) hFc (fun r_1 u t H1 locs ht hvm hw hB hz1 hk1 hS => ?_)
    obtain ⟨hP1, hK1, hD1⟩ := hB
    rw [ht] at hP1
    have hK1 := va_K.moved hvm.symm hK1
    obtain ⟨hP, hD⟩ := va_join (wr := []) (w1 := [(y0, .inr (4, [.int (nI 1), .int (nI N), .int (nI af), .ref s1, .ref s2, .ref s3, .ref s4, .ref s5, .int (nI pl), .int (pm_b go), .int (pm_b qu), .int (nI cy), .int (nI qc), .int (pm_b fr), .int (pm_b wq)])), (s1, .inl (t1, 401, .inl (pm_nf9 sm))), (s2, .inl (t2, 8000, .inl (pm_nf9 gv))), (s3, .inl (t3, 16, .inl (pm_nf9 gr))), (s4, .inl (t4, 400, .inl rc)), (s5, .inl (t5, 400, .inl mq))]) hP hD [0, 1, 2, 3, 4, 5] [] rfl rfl (by decide) (by decide) hk1 hFc hP1 hD1
    clear hPc hDc hKc hFc hP1 hK1 hD1
    generalize H1 = H at hP hS ⊢
    have hP : va_P (dC, dI) vwCl [(y0, .inr (4, [.int (nI 1), .int (nI N), .int (nI af), .ref s1, .ref s2, .ref s3, .ref s4, .ref s5, .int (nI pl), .int (pm_b go), .int (pm_b qu), .int (nI cy), .int (nI qc), .int (pm_b fr), .int (pm_b wq)])), (s1, .inl (t1, 401, .inl (pm_nf9 sm))), (s2, .inl (t2, 8000, .inl (pm_nf9 gv))), (s3, .inl (t3, 16, .inl (pm_nf9 gr))), (s4, .inl (t4, 400, .inl rc)), (s5, .inl (t5, 400, .inl mq))] H := hP.sub [0, 1, 2, 3, 4, 5] rfl
    have hD : va_D A [(y0, .inr (4, [.int (nI 1), .int (nI N), .int (nI af), .ref s1, .ref s2, .ref s3, .ref s4, .ref s5, .int (nI pl), .int (pm_b go), .int (pm_b qu), .int (nI cy), .int (nI qc), .int (pm_b fr), .int (pm_b wq)])), (s1, .inl (t1, 401, .inl (pm_nf9 sm))), (s2, .inl (t2, 8000, .inl (pm_nf9 gv))), (s3, .inl (t3, 16, .inl (pm_nf9 gr))), (s4, .inl (t4, 400, .inl rc)), (s5, .inl (t5, 400, .inl mq))] := hD.sub [0, 1, 2, 3, 4, 5] (by decide) rfl
    obtain rfl : r_1 = nI 0 := hw
    refine lv_if_ne (tgt := 38) hx hb dX4_root_33 (by decide) (fun c_33 => absurd c_33 (by decide +kernel)) (fun c_33 => ?_)
    refine lv_iconst (v := nI 0) hx hb dX4_root_36 (by decide +kernel) ?_
    exact W.iret (v := nI 0) hx hb hr (fun t ht hW => ⟨⟨nI 0, (), rfl, trivial, by rw [ht]; exact hP, va_K.moved hW.alike hK, hD⟩, hS.F ht⟩) hS.2.2 dX4_root_37
  · refine lv_iload_n hx hb dX4_root_5 rfl (lv_at hl 1 rfl) ?_
    refine lv_bipush (v := nI 15) hx hb dX4_root_6 (by decide +kernel) ?_
    refine lv_icmp_gt (tgt := 28) hx hb dX4_root_8 (by decide) (fun c_8 => ?_) (fun c_8 => ?_)
    · refine lv_iconst (v := nI 0) hx hb dX4_root_28 (by decide +kernel) ?_
      refine lv_iconst (v := nI 1) hx hb dX4_root_29 (by decide +kernel) ?_
      have hPc := hP.sub (ws' := [(y0, .inr (4, [.int (nI th), .int (nI N), .int (nI af), .ref s1, .ref s2, .ref s3, .ref s4, .ref s5, .int (nI pl), .int (pm_b go), .int (pm_b qu), .int (nI cy), .int (nI qc), .int (pm_b fr), .int (pm_b wq)])), (s1, .inl (t1, 401, .inl (pm_nf9 sm))), (s2, .inl (t2, 8000, .inl (pm_nf9 gv))), (s3, .inl (t3, 16, .inl (pm_nf9 gr))), (s4, .inl (t4, 400, .inl rc)), (s5, .inl (t5, 400, .inl mq))]) [0, 1, 2, 3, 4, 5] rfl
      have hDc := hD.sub (ws' := [(y0, .inr (4, [.int (nI th), .int (nI N), .int (nI af), .ref s1, .ref s2, .ref s3, .ref s4, .ref s5, .int (nI pl), .int (pm_b go), .int (pm_b qu), .int (nI cy), .int (nI qc), .int (pm_b fr), .int (pm_b wq)])), (s1, .inl (t1, 401, .inl (pm_nf9 sm))), (s2, .inl (t2, 8000, .inl (pm_nf9 gv))), (s3, .inl (t3, 16, .inl (pm_nf9 gr))), (s4, .inl (t4, 400, .inl rc)), (s5, .inl (t5, 400, .inl mq))]) [0, 1, 2, 3, 4, 5] (by decide) rfl
      have hKc := hK.sub (tys' := [(t1, .int), (t2, .int), (t3, .int), (t4, .boolean), (t5, .boolean)]) [0, 1, 2, 3, 4] rfl
      have hFc := va_free (wc := [(y0, .inr (4, [.int (nI th), .int (nI N), .int (nI af), .ref s1, .ref s2, .ref s3, .ref s4, .ref s5, .int (nI pl), .int (pm_b go), .int (pm_b qu), .int (nI cy), .int (nI qc), .int (pm_b fr), .int (pm_b wq)])), (s1, .inl (t1, 401, .inl (pm_nf9 sm))), (s2, .inl (t2, 8000, .inl (pm_nf9 gv))), (s3, .inl (t3, 16, .inl (pm_nf9 gr))), (s4, .inl (t4, 400, .inl rc)), (s5, .inl (t5, 400, .inl mq))]) hD hS hA [0, 1, 2, 3, 4, 5] rfl
      refine va_calli (va_runV (As := [.int (nI 0), .int (nI 1)]) (rest := []) ⟨hx, hb, hml, hown, hts⟩ (c_Q_goes l dC dI y0 s1 s2 s3 s4 s5 t1 t2 t3 t4 t5 th N af sm gv gr rc mq pl go qu cy qc fr wq false true H.size) (cwV 2 hts (gw_V ml_X4_47 mi_X4_goes ms_X4_goes mn_X4 mc_X4_goes) rfl rfl rfl (by decide +kernel) ⟨Nat.le_of_ble_eq_true rfl, Nat.le_of_ble_eq_true rfl⟩) ⟨fun a U g mk q => by obtain ⟨q0, q1, qP, qK, qD⟩ := q; exact ⟨q0, q1, qP, va_K.moved (u := U) (U := U.calling g mk a) (Vm.Alike.refl U.vm) qK, qD⟩, va_recv hKc hPc (ci := 4) (q0 := 0) rfl rfl, fun U hU hW => ⟨rfl, by rw [hU], by rw [hU]; exact hPc, va_K.moved hW.alike hKc, hDc.weaken (fun _ _ _ _ => trivial)⟩⟩ rfl rfl hl.1 rfl (lv_room (Nat.le_of_ble_eq_true rfl)) dX4_root_30 ⟨Nat.le_of_ble_eq_true rfl, Nat.le_of_ble_eq_true rfl⟩) hS (fun q _ h => hFc q h) hFc (fun r_2 u t H1 locs ht hvm hw hB hz1 hk1 hS => ?_)
      obtain ⟨hP1, hK1, hD1⟩ := hB
      rw [ht] at hP1
      have hK1 := va_K.moved hvm.symm hK1
      obtain ⟨hP, hD⟩ := va_join (wr := []) (w1 := [(y0, .inr (4, [.int (nI 1), .int (nI N), .int (nI af), .ref s1, .ref s2, .ref s3, .ref s4, .ref s5, .int (nI pl), .int (pm_b go), .int (pm_b qu), .int (nI cy), .int (nI qc), .int (pm_b fr), .int (pm_b wq)])), (s1, .inl (t1, 401, .inl (pm_nf9 sm))), (s2, .inl (t2, 8000, .inl (pm_nf9 gv))), (s3, .inl (t3, 16, .inl (pm_nf9 gr))), (s4, .inl (t4, 400, .inl rc)), (s5, .inl (t5, 400, .inl mq))]) hP hD [0, 1, 2, 3, 4, 5] [] rfl rfl (by decide) (by decide) hk1 hFc hP1 hD1
      clear hPc hDc hKc hFc hP1 hK1 hD1
      generalize H1 = H at hP hS ⊢
      have hP : va_P (dC, dI) vwCl [(y0, .inr (4, [.int (nI 1), .int (nI N), .int (nI af), .ref s1, .ref s2, .ref s3, .ref s4, .ref s5, .int (nI pl), .int (pm_b go), .int (pm_b qu), .int (nI cy), .int (nI qc), .int (pm_b fr), .int (pm_b wq)])), (s1, .inl (t1, 401, .inl (pm_nf9 sm))), (s2, .inl (t2, 8000, .inl (pm_nf9 gv))), (s3, .inl (t3, 16, .inl (pm_nf9 gr))), (s4, .inl (t4, 400, .inl rc)), (s5, .inl (t5, 400, .inl mq))] H := hP.sub [0, 1, 2, 3, 4, 5] rfl
      have hD : va_D A [(y0, .inr (4, [.int (nI 1), .int (nI N), .int (nI af), .ref s1, .ref s2, .ref s3, .ref s4, .ref s5, .int (nI pl), .int (pm_b go), .int (pm_b qu), .int (nI cy), .int (nI qc), .int (pm_b fr), .int (pm_b wq)])), (s1, .inl (t1, 401, .inl (pm_nf9 sm))), (s2, .inl (t2, 8000, .inl (pm_nf9 gv))), (s3, .inl (t3, 16, .inl (pm_nf9 gr))), (s4, .inl (t4, 400, .inl rc)), (s5, .inl (t5, 400, .inl mq))] := hD.sub [0, 1, 2, 3, 4, 5] (by decide) rfl
      obtain rfl : r_2 = nI 0 := hw
      refine lv_if_ne (tgt := 38) hx hb dX4_root_33 (by decide) (fun c_33 => absurd c_33 (by decide +kernel)) (fun c_33 => ?_)
      refine lv_iconst (v := nI 0) hx hb dX4_root_36 (by decide +kernel) ?_
      exact W.iret (v := nI 0) hx hb hr (fun t ht hW => ⟨⟨nI 0, (), rfl, trivial, by rw [ht]; exact hP, va_K.moved hW.alike hK, hD⟩, hS.F ht⟩) hS.2.2 dX4_root_37
    · have h16 : pm_has 16 p0 = true := pm_h16 c_2 c_8
      refine lv_iload_n hx hb dX4_root_11 rfl (lv_at hl 2 rfl) ?_
      refine lv_iconst (v := -1) hx hb dX4_root_12 (by decide +kernel) ?_
      refine lv_icmp_eq (tgt := 24) hx hb dX4_root_13 (by decide) (fun c_13 => ?_) (fun c_13 => ?_)
      · exact absurd hp (by rw [h16, decide_eq_true c_13, Bool.true_or]; decide)
      · refine lv_aload_n hx hb dX4_root_16 rfl (lv_at hl 0 rfl) ?_
        refine lv_iload_n hx hb dX4_root_17 rfl (lv_at hl 2 rfl) ?_
        have hPc := hP.sub (ws' := [(y0, .inr (4, [.int (nI th), .int (nI N), .int (nI af), .ref s1, .ref s2, .ref s3, .ref s4, .ref s5, .int (nI pl), .int (pm_b go), .int (pm_b qu), .int (nI cy), .int (nI qc), .int (pm_b fr), .int (pm_b wq)])), (s1, .inl (t1, 401, .inl (pm_nf9 sm))), (s2, .inl (t2, 8000, .inl (pm_nf9 gv))), (s3, .inl (t3, 16, .inl (pm_nf9 gr))), (s4, .inl (t4, 400, .inl rc)), (s5, .inl (t5, 400, .inl mq))]) [0, 1, 2, 3, 4, 5] rfl
        have hDc := hD.sub (ws' := [(y0, .inr (4, [.int (nI th), .int (nI N), .int (nI af), .ref s1, .ref s2, .ref s3, .ref s4, .ref s5, .int (nI pl), .int (pm_b go), .int (pm_b qu), .int (nI cy), .int (nI qc), .int (pm_b fr), .int (pm_b wq)])), (s1, .inl (t1, 401, .inl (pm_nf9 sm))), (s2, .inl (t2, 8000, .inl (pm_nf9 gv))), (s3, .inl (t3, 16, .inl (pm_nf9 gr))), (s4, .inl (t4, 400, .inl rc)), (s5, .inl (t5, 400, .inl mq))]) [0, 1, 2, 3, 4, 5] (by decide) rfl
        have hKc := hK.sub (tys' := [(t1, .int), (t2, .int), (t3, .int), (t4, .boolean), (t5, .boolean)]) [0, 1, 2, 3, 4] rfl
        have hFc := va_free (wc := [(y0, .inr (4, [.int (nI th), .int (nI N), .int (nI af), .ref s1, .ref s2, .ref s3, .ref s4, .ref s5, .int (nI pl), .int (pm_b go), .int (pm_b qu), .int (nI cy), .int (nI qc), .int (pm_b fr), .int (pm_b wq)])), (s1, .inl (t1, 401, .inl (pm_nf9 sm))), (s2, .inl (t2, 8000, .inl (pm_nf9 gv))), (s3, .inl (t3, 16, .inl (pm_nf9 gr))), (s4, .inl (t4, 400, .inl rc)), (s5, .inl (t5, 400, .inl mq))]) hD hS hA [0, 1, 2, 3, 4, 5] rfl
        refine va_calli (va_runV (As := [.int p1]) (rest := [.ref y0]) ⟨hx, hb, hml, hown, hts⟩ (c_Q_isObject l dC dI y0 s1 s2 s3 s4 s5 t1 t2 t3 t4 t5 th N af sm gv gr rc mq pl go qu cy qc fr wq p1 H.size) (cwV 1 hts (gw_V ml_X4_36 mi_X4_isObject ms_X4_isObject mn_X4 mc_X4_isObject) rfl rfl rfl (by decide +kernel) ⟨Nat.le_of_ble_eq_true rfl, Nat.le_of_ble_eq_true rfl⟩) ⟨fun a U g mk q => by obtain ⟨q0, q1, qP, qK, qD⟩ := q; exact ⟨q0, q1, qP, va_K.moved (u := U) (U := U.calling g mk a) (Vm.Alike.refl U.vm) qK, qD⟩, va_recv hKc hPc (ci := 4) (q0 := 0) rfl rfl, fun U hU hW => ⟨rfl, by rw [hU], by rw [hU]; exact hPc, va_K.moved hW.alike hKc, hDc.weaken (fun _ _ _ _ => trivial)⟩⟩ rfl rfl hl.1 rfl (lv_room (Nat.le_of_ble_eq_true rfl)) dX4_root_18 ⟨Nat.le_of_ble_eq_true rfl, Nat.le_of_ble_eq_true rfl⟩) hS (fun q _ h => hFc q h) hFc (fun r_3 u t H1 locs ht hvm hw hB hz1 hk1 hS => ?_)
        obtain ⟨hP1, hK1, hD1⟩ := hB
        rw [ht] at hP1
        have hK1 := va_K.moved hvm.symm hK1
        obtain ⟨hP, hD⟩ := va_join (wr := []) (w1 := [(y0, .inr (4, [.int (nI th), .int (nI N), .int (nI af), .ref s1, .ref s2, .ref s3, .ref s4, .ref s5, .int (nI pl), .int (pm_b go), .int (pm_b qu), .int (nI cy), .int (nI qc), .int (pm_b fr), .int (pm_b wq)])), (s1, .inl (t1, 401, .inl (pm_nf9 sm))), (s2, .inl (t2, 8000, .inl (pm_nf9 gv))), (s3, .inl (t3, 16, .inl (pm_nf9 gr))), (s4, .inl (t4, 400, .inl rc)), (s5, .inl (t5, 400, .inl mq))]) hP hD [0, 1, 2, 3, 4, 5] [] rfl rfl (by decide) (by decide) hk1 hFc hP1 hD1
        clear hPc hDc hKc hFc hP1 hK1 hD1
        generalize H1 = H at hP hS ⊢
        have hP : va_P (dC, dI) vwCl [(y0, .inr (4, [.int (nI th), .int (nI N), .int (nI af), .ref s1, .ref s2, .ref s3, .ref s4, .ref s5, .int (nI pl), .int (pm_b go), .int (pm_b qu), .int (nI cy), .int (nI qc), .int (pm_b fr), .int (pm_b wq)])), (s1, .inl (t1, 401, .inl (pm_nf9 sm))), (s2, .inl (t2, 8000, .inl (pm_nf9 gv))), (s3, .inl (t3, 16, .inl (pm_nf9 gr))), (s4, .inl (t4, 400, .inl rc)), (s5, .inl (t5, 400, .inl mq))] H := hP.sub [0, 1, 2, 3, 4, 5] rfl
        have hD : va_D A [(y0, .inr (4, [.int (nI th), .int (nI N), .int (nI af), .ref s1, .ref s2, .ref s3, .ref s4, .ref s5, .int (nI pl), .int (pm_b go), .int (pm_b qu), .int (nI cy), .int (nI qc), .int (pm_b fr), .int (pm_b wq)])), (s1, .inl (t1, 401, .inl (pm_nf9 sm))), (s2, .inl (t2, 8000, .inl (pm_nf9 gv))), (s3, .inl (t3, 16, .inl (pm_nf9 gr))), (s4, .inl (t4, 400, .inl rc)), (s5, .inl (t5, 400, .inl mq))] := hD.sub [0, 1, 2, 3, 4, 5] (by decide) rfl
        rcases pm_tf (pm_has N p1) with hh_18 | hh_18
        · exact absurd hp (by rw [h16, hh_18, Bool.or_true]; decide)
        · obtain rfl : r_3 = nI 0 := hw.trans (by rw [hh_18]; rfl)
          refine lv_if_eq (tgt := 28) hx hb dX4_root_21 (by decide) (fun c_21 => ?_) (fun c_21 => absurd c_21 (by decide +kernel))
          refine lv_iconst (v := nI 0) hx hb dX4_root_28 (by decide +kernel) ?_
          refine lv_iconst (v := nI 1) hx hb dX4_root_29 (by decide +kernel) ?_
          have hPc := hP.sub (ws' := [(y0, .inr (4, [.int (nI th), .int (nI N), .int (nI af), .ref s1, .ref s2, .ref s3, .ref s4, .ref s5, .int (nI pl), .int (pm_b go), .int (pm_b qu), .int (nI cy), .int (nI qc), .int (pm_b fr), .int (pm_b wq)])), (s1, .inl (t1, 401, .inl (pm_nf9 sm))), (s2, .inl (t2, 8000, .inl (pm_nf9 gv))), (s3, .inl (t3, 16, .inl (pm_nf9 gr))), (s4, .inl (t4, 400, .inl rc)), (s5, .inl (t5, 400, .inl mq))]) [0, 1, 2, 3, 4, 5] rfl
          have hDc := hD.sub (ws' := [(y0, .inr (4, [.int (nI th), .int (nI N), .int (nI af), .ref s1, .ref s2, .ref s3, .ref s4, .ref s5, .int (nI pl), .int (pm_b go), .int (pm_b qu), .int (nI cy), .int (nI qc), .int (pm_b fr), .int (pm_b wq)])), (s1, .inl (t1, 401, .inl (pm_nf9 sm))), (s2, .inl (t2, 8000, .inl (pm_nf9 gv))), (s3, .inl (t3, 16, .inl (pm_nf9 gr))), (s4, .inl (t4, 400, .inl rc)), (s5, .inl (t5, 400, .inl mq))]) [0, 1, 2, 3, 4, 5] (by decide) rfl
          have hKc := hK.sub (tys' := [(t1, .int), (t2, .int), (t3, .int), (t4, .boolean), (t5, .boolean)]) [0, 1, 2, 3, 4] rfl
          have hFc := va_free (wc := [(y0, .inr (4, [.int (nI th), .int (nI N), .int (nI af), .ref s1, .ref s2, .ref s3, .ref s4, .ref s5, .int (nI pl), .int (pm_b go), .int (pm_b qu), .int (nI cy), .int (nI qc), .int (pm_b fr), .int (pm_b wq)])), (s1, .inl (t1, 401, .inl (pm_nf9 sm))), (s2, .inl (t2, 8000, .inl (pm_nf9 gv))), (s3, .inl (t3, 16, .inl (pm_nf9 gr))), (s4, .inl (t4, 400, .inl rc)), (s5, .inl (t5, 400, .inl mq))]) hD hS hA [0, 1, 2, 3, 4, 5] rfl
          refine va_calli (va_runV (As := [.int (nI 0), .int (nI 1)]) (rest := []) ⟨hx, hb, hml, hown, hts⟩ (c_Q_goes l dC dI y0 s1 s2 s3 s4 s5 t1 t2 t3 t4 t5 th N af sm gv gr rc mq pl go qu cy qc fr wq false true H.size) (cwV 2 hts (gw_V ml_X4_47 mi_X4_goes ms_X4_goes mn_X4 mc_X4_goes) rfl rfl rfl (by decide +kernel) ⟨Nat.le_of_ble_eq_true rfl, Nat.le_of_ble_eq_true rfl⟩) ⟨fun a U g mk q => by obtain ⟨q0, q1, qP, qK, qD⟩ := q; exact ⟨q0, q1, qP, va_K.moved (u := U) (U := U.calling g mk a) (Vm.Alike.refl U.vm) qK, qD⟩, va_recv hKc hPc (ci := 4) (q0 := 0) rfl rfl, fun U hU hW => ⟨rfl, by rw [hU], by rw [hU]; exact hPc, va_K.moved hW.alike hKc, hDc.weaken (fun _ _ _ _ => trivial)⟩⟩ rfl rfl hl.1 rfl (lv_room (Nat.le_of_ble_eq_true rfl)) dX4_root_30 ⟨Nat.le_of_ble_eq_true rfl, Nat.le_of_ble_eq_true rfl⟩) hS (fun q _ h => hFc q h) hFc (fun r_4 u t H1 locs ht hvm hw hB hz1 hk1 hS => ?_)
          obtain ⟨hP1, hK1, hD1⟩ := hB
          rw [ht] at hP1
          have hK1 := va_K.moved hvm.symm hK1
          obtain ⟨hP, hD⟩ := va_join (wr := []) (w1 := [(y0, .inr (4, [.int (nI 1), .int (nI N), .int (nI af), .ref s1, .ref s2, .ref s3, .ref s4, .ref s5, .int (nI pl), .int (pm_b go), .int (pm_b qu), .int (nI cy), .int (nI qc), .int (pm_b fr), .int (pm_b wq)])), (s1, .inl (t1, 401, .inl (pm_nf9 sm))), (s2, .inl (t2, 8000, .inl (pm_nf9 gv))), (s3, .inl (t3, 16, .inl (pm_nf9 gr))), (s4, .inl (t4, 400, .inl rc)), (s5, .inl (t5, 400, .inl mq))]) hP hD [0, 1, 2, 3, 4, 5] [] rfl rfl (by decide) (by decide) hk1 hFc hP1 hD1
          clear hPc hDc hKc hFc hP1 hK1 hD1
          generalize H1 = H at hP hS ⊢
          have hP : va_P (dC, dI) vwCl [(y0, .inr (4, [.int (nI 1), .int (nI N), .int (nI af), .ref s1, .ref s2, .ref s3, .ref s4, .ref s5, .int (nI pl), .int (pm_b go), .int (pm_b qu), .int (nI cy), .int (nI qc), .int (pm_b fr), .int (pm_b wq)])), (s1, .inl (t1, 401, .inl (pm_nf9 sm))), (s2, .inl (t2, 8000, .inl (pm_nf9 gv))), (s3, .inl (t3, 16, .inl (pm_nf9 gr))), (s4, .inl (t4, 400, .inl rc)), (s5, .inl (t5, 400, .inl mq))] H := hP.sub [0, 1, 2, 3, 4, 5] rfl
          have hD : va_D A [(y0, .inr (4, [.int (nI 1), .int (nI N), .int (nI af), .ref s1, .ref s2, .ref s3, .ref s4, .ref s5, .int (nI pl), .int (pm_b go), .int (pm_b qu), .int (nI cy), .int (nI qc), .int (pm_b fr), .int (pm_b wq)])), (s1, .inl (t1, 401, .inl (pm_nf9 sm))), (s2, .inl (t2, 8000, .inl (pm_nf9 gv))), (s3, .inl (t3, 16, .inl (pm_nf9 gr))), (s4, .inl (t4, 400, .inl rc)), (s5, .inl (t5, 400, .inl mq))] := hD.sub [0, 1, 2, 3, 4, 5] (by decide) rfl
          obtain rfl : r_4 = nI 0 := hw
          refine lv_if_ne (tgt := 38) hx hb dX4_root_33 (by decide) (fun c_33 => absurd c_33 (by decide +kernel)) (fun c_33 => ?_)
          refine lv_iconst (v := nI 0) hx hb dX4_root_36 (by decide +kernel) ?_
          exact W.iret (v := nI 0) hx hb hr (fun t ht hW => ⟨⟨nI 0, (), rfl, trivial, by rw [ht]; exact hP, va_K.moved hW.alike hK, hD⟩, hS.F ht⟩) hS.2.2 dX4_root_37
