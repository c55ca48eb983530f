set_option maxHeartbeats 4000000 in
set_option maxRecDepth 100000 in
/-- reach() -/
theorem c_Q_reach (l : Launch) (dC : Nat → ClassId) (dI : Nat → Nat → Nat) (y0 s1 s2 s3 s4 s5 : Nat) (t1 t2 t3 t4 t5 : ClassId) (th N af : Nat) (sm gv gr : Nat → Nat) (rc mq : Nat → Int32) (pl : Nat) (go qu : Bool) (cy qc : Nat) (fr wq : Bool)  (sz : Nat) (hM : pq_MO N sm gv gr af) : Met l yX4_reach wsX4_reach ({ frames := 0, cells := 0, slots := 0, locals := 0 }) (va_Pc [.ref y0] (fun U => U.heap.size = sz ∧ va_P (dC, dI) vwCl [(y0, .inr (4, [.int (nI th), .int (nI N), .int (nI af), .ref s1, .ref s2, .ref s3, .ref s4, .ref s5, .int (nI pl), .int (pm_b go), .int (pm_b qu), .int (nI cy), .int (nI qc), .int (pm_b fr), .int (pm_b wq)])), (s1, .inl (t1, 401, .inl (pm_nf9 sm))), (s2, .inl (t2, 8000, .inl (pm_nf9 gv))), (s3, .inl (t3, 16, .inl (pm_nf9 gr))), (s4, .inl (t4, 400, .inl rc)), (s5, .inl (t5, 400, .inl mq))] U.heap ∧ va_K (dC, dI) vwCl [(t1, .int), (t2, .int), (t3, .int), (t4, .boolean), (t5, .boolean)] U ∧ va_D (fun _ => True) [(y0, .inr (4, [.int (nI th), .int (nI N), .int (nI af), .ref s1, .ref s2, .ref s3, .ref s4, .ref s5, .int (nI pl), .int (pm_b go), .int (pm_b qu), .int (nI cy), .int (nI qc), .int (pm_b fr), .int (pm_b wq)])), (s1, .inl (t1, 401, .inl (pm_nf9 sm))), (s2, .inl (t2, 8000, .inl (pm_nf9 gv))), (s3, .inl (t3, 16, .inl (pm_nf9 gr))), (s4, .inl (t4, 400, .inl rc)), (s5, .inl (t5, 400, .inl mq))])) (va_Qi (fun (r : Int32) (u : Nat → Int32) => u = pq_reach N sm gv gr rc ∧ r = nI (pm_cnt u N)) (fun (u : Nat → Int32) (t : State) => va_P (dC, dI) vwCl [(y0, .inr (4, [.int (nI th), .int (nI N), .int (nI af), .ref s1, .ref s2, .ref s3, .ref s4, .ref s5, .int (nI pl), .int (pm_b go), .int (pm_b qu), .int (nI cy), .int (nI qc), .int (pm_b fr), .int (pm_b wq)])), (s1, .inl (t1, 401, .inl (pm_nf9 sm))), (s2, .inl (t2, 8000, .inl (pm_nf9 gv))), (s3, .inl (t3, 16, .inl (pm_nf9 gr))), (s4, .inl (t4, 400, .inl u)), (s5, .inl (t5, 400, .inl mq))] t.heap ∧ va_K (dC, dI) vwCl [(t1, .int), (t2, .int), (t3, .int), (t4, .boolean), (t5, .boolean)] t ∧ va_D (va_A [(y0, .inr (4, [.int (nI th), .int (nI N), .int (nI af), .ref s1, .ref s2, .ref s3, .ref s4, .ref s5, .int (nI pl), .int (pm_b go), .int (pm_b qu), .int (nI cy), .int (nI qc), .int (pm_b fr), .int (pm_b wq)])), (s1, .inl (t1, 401, .inl (pm_nf9 sm))), (s2, .inl (t2, 8000, .inl (pm_nf9 gv))), (s3, .inl (t3, 16, .inl (pm_nf9 gr))), (s4, .inl (t4, 400, .inl rc)), (s5, .inl (t5, 400, .inl mq))] sz) [(y0, .inr (4, [.int (nI th), .int (nI N), .int (nI af), .ref s1, .ref s2, .ref s3, .ref s4, .ref s5, .int (nI pl), .int (pm_b go), .int (pm_b qu), .int (nI cy), .int (nI qc), .int (pm_b fr), .int (pm_b wq)])), (s1, .inl (t1, 401, .inl (pm_nf9 sm))), (s2, .inl (t2, 8000, .inl (pm_nf9 gv))), (s3, .inl (t3, 16, .inl (pm_nf9 gr))), (s4, .inl (t4, 400, .inl u)), (s5, .inl (t5, 400, .inl mq))]) (va_A [(y0, .inr (4, [.int (nI th), .int (nI N), .int (nI af), .ref s1, .ref s2, .ref s3, .ref s4, .ref s5, .int (nI pl), .int (pm_b go), .int (pm_b qu), .int (nI cy), .int (nI qc), .int (pm_b fr), .int (pm_b wq)])), (s1, .inl (t1, 401, .inl (pm_nf9 sm))), (s2, .inl (t2, 8000, .inl (pm_nf9 gv))), (s3, .inl (t3, 16, .inl (pm_nf9 gr))), (s4, .inl (t4, 400, .inl rc)), (s5, .inl (t5, 400, .inl mq))] sz)) 0 0 (va_A [(y0, .inr (4, [.int (nI th), .int (nI N), .int (nI af), .ref s1, .ref s2, .ref s3, .ref s4, .ref s5, .int (nI pl), .int (pm_b go), .int (pm_b qu), .int (nI cy), .int (nI qc), .int (pm_b fr), .int (pm_b wq)])), (s1, .inl (t1, 401, .inl (pm_nf9 sm))), (s2, .inl (t2, 8000, .inl (pm_nf9 gv))), (s3, .inl (t3, 16, .inl (pm_nf9 gr))), (s4, .inl (t4, 400, .inl rc)), (s5, .inl (t5, 400, .inl mq))] sz) := by
  refine Met.ofW (cc := cX4_reach) (maxL := 6) (ret := (some .int)) (by decide) rfl ?_
  intro p e s m args below meth c s₁ B hml hv
  obtain ⟨rfl, hsz, hP, hK, hD0⟩ := hv
  have hx := B.exec
  have hb := B.bytes
  have hr := B.returns
  have hts : ∀ w ∈ gw, w.before _ s = true := fun w h => atoms_spec (ws := wsX4_reach) B.pre w (List.mem_cons_of_mem _ h)
  have hown : s.vm.findClass RX4 = some m.cls := findClass_of_methodNamed B.named
  have hlocks := B.notSynchronized
  subst hsz
  have hD := hD0.self (sz := s.heap.size)
  generalize hAe : va_A [(y0, .inr (4, [.int (nI th), .int (nI N), .int (nI af), .ref s1, .ref s2, .ref s3, .ref s4, .ref s5, .int (nI pl), .int (pm_b go), .int (pm_b qu), .int (nI cy), .int (nI qc), .int (pm_b fr), .int (pm_b wq)])), (s1, .inl (t1, 401, .inl (pm_nf9 sm))), (s2, .inl (t2, 8000, .inl (pm_nf9 gv))), (s3, .inl (t3, 16, .inl (pm_nf9 gr))), (s4, .inl (t4, 400, .inl rc)), (s5, .inl (t5, 400, .inl mq))] s.heap.size = A at hD ⊢
  have hA : ∀ q : Nat, s.heap.size ≤ q → A q := fun q h => by rw [← hAe]; exact Or.inr h
  have hP : va_P (dC, dI) vwCl [(y0, .inr (4, [.int (nI th), .int (nI N), .int (nI af), .ref s1, .ref s2, .ref s3, .ref s4, .ref s5, .int (nI pl), .int (pm_b go), .int (pm_b qu), .int (nI cy), .int (nI qc), .int (pm_b fr), .int (pm_b wq)])), (s1, .inl (t1, 401, .inl (pm_nf9 sm))), (s2, .inl (t2, 8000, .inl (pm_nf9 gv))), (s3, .inl (t3, 16, .inl (pm_nf9 gr))), (s4, .inl (t4, 400, .inl rc)), (s5, .inl (t5, 400, .inl mq))] s.heap := hP
  have hl := lv_entry ([.ref y0]) (n := 6) (Nat.le_of_ble_eq_true rfl)
  rw [lg_entry_eq]
  generalize (lg_sl ([.ref y0]) ++ List.replicate (6 - (lg_sl ([.ref y0])).length) Slot.unset).toArray = ls at hl ⊢
  have hl : lv_has ls 6 [(0, .ref y0)] := hl
  obtain ⟨H, hH⟩ : ∃ H : Heap, H = s.heap := ⟨_, rfl⟩
  rw [← hH]
  rw [← hH] at hP
  have hS : va_S A s.heap H [] := by rw [hH]; exact va_S.rf
  clear hH
  have hN := hM.1
  have hgv := hM.2.2.2.2.1
  have hgr := hM.2.2.2.2.2.1
  refine lv_iconst (v := nI 0) hx hb dX4_reach_0 (by decide +kernel) ?_
  refine lv_istore_n (lv' := [(1, .int (nI 0)), (0, .ref y0)]) hx hb dX4_reach_1 rfl hl (by decide) rfl (fun ls hl => ?_)
  refine lv_iconst (v := nI 0) hx hb dX4_reach_2 (by decide +kernel) ?_
  refine lv_istore_n (lv' := [(2, .int (nI 0)), (1, .int (nI 0)), (0, .ref y0)]) hx hb dX4_reach_3 rfl hl (by decide) rfl (fun ls hl => ?_)
  have hP : va_P (dC, dI) vwCl [(y0, .inr (4, [.int (nI th), .int (nI N), .int (nI af), .ref s1, .ref s2, .ref s3, .ref s4, .ref s5, .int (nI pl), .int (pm_b go), .int (pm_b qu), .int (nI cy), .int (nI qc), .int (pm_b fr), .int (pm_b wq)])), (s1, .inl (t1, 401, .inl (pm_nf9 sm))), (s2, .inl (t2, 8000, .inl (pm_nf9 gv))), (s3, .inl (t3, 16, .inl (pm_nf9 gr))), (s4, .inl (t4, 400, .inl (pm_clr 0 rc))), (s5, .inl (t5, 400, .inl mq))] H := by rw [pm_clr_0]; exact hP
  have hD : va_D A [(y0, .inr (4, [.int (nI th), .int (nI N), .int (nI af), .ref s1, .ref s2, .ref s3, .ref s4, .ref s5, .int (nI pl), .int (pm_b go), .int (pm_b qu), .int (nI cy), .int (nI qc), .int (pm_b fr), .int (pm_b wq)])), (s1, .inl (t1, 401, .inl (pm_nf9 sm))), (s2, .inl (t2, 8000, .inl (pm_nf9 gv))), (s3, .inl (t3, 16, .inl (pm_nf9 gr))), (s4, .inl (t4, 400, .inl (pm_clr 0 rc))), (s5, .inl (t5, 400, .inl mq))] := by rw [pm_clr_0]; exact hD
  refine lp_loop (σ := Nat) (head := 4) (fun k H locs ls => k ≤ N ∧ va_P (dC, dI) vwCl [(y0, .inr (4, [.int (nI th), .int (nI N), .int (nI af), .ref s1, .ref s2, .ref s3, .ref s4, .ref s5, .int (nI pl), .int (pm_b go), .int (pm_b qu), .int (nI cy), .int (nI qc), .int (pm_b fr), .int (pm_b wq)])), (s1, .inl (t1, 401, .inl (pm_nf9 sm))), (s2, .inl (t2, 8000, .inl (pm_nf9 gv))), (s3, .inl (t3, 16, .inl (pm_nf9 gr))), (s4, .inl (t4, 400, .inl (pm_clr k rc))), (s5, .inl (t5, 400, .inl mq))] H ∧ va_D A [(y0, .inr (4, [.int (nI th), .int (nI N), .int (nI af), .ref s1, .ref s2, .ref s3, .ref s4, .ref s5, .int (nI pl), .int (pm_b go), .int (pm_b qu), .int (nI cy), .int (nI qc), .int (pm_b fr), .int (pm_b wq)])), (s1, .inl (t1, 401, .inl (pm_nf9 sm))), (s2, .inl (t2, 8000, .inl (pm_nf9 gv))), (s3, .inl (t3, 16, .inl (pm_nf9 gr))), (s4, .inl (t4, 400, .inl (pm_clr k rc))), (s5, .inl (t5, 400, .inl mq))] ∧ va_S A s.heap H locs ∧ lv_has ls 6 [(2, .int (nI k)), (1, .int (nI 0)), (0, .ref y0)]) (fun k => N - k) ?_ 0 _ _ _ ⟨Nat.zero_le _, hP, hD, hS, lv_sub hl [0, 1, 2] rfl⟩
  intro x H locs ls hI ih4
  obtain ⟨k, rfl⟩ : ∃ y, y = x := ⟨x, rfl⟩
  obtain ⟨hk, hP, hD, hS, hl⟩ := hI
  refine lv_iload_n hx hb dX4_reach_4 rfl (lv_at hl 0 rfl) ?_
  refine lv_aload_n hx hb dX4_reach_5 rfl (lv_at hl 2 rfl) ?_
  refine va_get (D := (dC, dI)) (ci := 4) (v := .int (nI N)) (C := RX4) (T := TX4) (N := 15) hx hb hts iw_X4 hown hK hP 0 rfl rfl 1 (by decide) (hts _ mf_X4_33) (fun _ h9 => h9) rfl dX4_reach_6 ?_
  refine lv_icmp_ge (tgt := 25) hx hb dX4_reach_9 (by decide) (fun c_9 => ?_) (fun c_9 => ?_)
  · rw [nI_leI (by omega) (by omega)] at c_9
    rw [show k = N by omega] at hP hD
    refine lv_iconst (v := nI 0) hx hb dX4_reach_25 (by decide +kernel) ?_
    refine lv_istore_n (lv' := [(2, .int (nI 0)), (1, .int (nI 0)), (0, .ref y0)]) hx hb dX4_reach_26 rfl hl (by decide) rfl (fun ls hl => ?_)
    refine lp_loop (σ := Nat) (head := 27) (fun i H locs ls => i ≤ 16 ∧ va_P (dC, dI) vwCl [(y0, .inr (4, [.int (nI th), .int (nI N), .int (nI af), .ref s1, .ref s2, .ref s3, .ref s4, .ref s5, .int (nI pl), .int (pm_b go), .int (pm_b qu), .int (nI cy), .int (nI qc), .int (pm_b fr), .int (pm_b wq)])), (s1, .inl (t1, 401, .inl (pm_nf9 sm))), (s2, .inl (t2, 8000, .inl (pm_nf9 gv))), (s3, .inl (t3, 16, .inl (pm_nf9 gr))), (s4, .inl (t4, 400, .inl (pq_rt gr i (pm_clr N rc)))), (s5, .inl (t5, 400, .inl mq))] H ∧ va_D A [(y0, .inr (4, [.int (nI th), .int (nI N), .int (nI af), .ref s1, .ref s2, .ref s3, .ref s4, .ref s5, .int (nI pl), .int (pm_b go), .int (pm_b qu), .int (nI cy), .int (nI qc), .int (pm_b fr), .int (pm_b wq)])), (s1, .inl (t1, 401, .inl (pm_nf9 sm))), (s2, .inl (t2, 8000, .inl (pm_nf9 gv))), (s3, .inl (t3, 16, .inl (pm_nf9 gr))), (s4, .inl (t4, 400, .inl (pq_rt gr i (pm_clr N rc)))), (s5, .inl (t5, 400, .inl mq))] ∧ va_S A s.heap H locs ∧ lv_has ls 6 [(2, .int (nI i)), (1, .int (nI 0)), (0, .ref y0)]) (fun i => 16 - i) ?_ 0 _ _ _ ⟨Nat.zero_le _, hP, hD, hS, lv_sub hl [0, 1, 2] rfl⟩
    intro x H locs ls hI ih27
    obtain ⟨i, rfl⟩ : ∃ y, y = x := ⟨x, rfl⟩
    obtain ⟨hi, hP, hD, hS, hl⟩ := hI
    refine lv_iload_n hx hb dX4_reach_27 rfl (lv_at hl 0 rfl) ?_
    refine lv_bipush (v := nI 16) hx hb dX4_reach_28 (by decide +kernel) ?_
    refine lv_icmp_ge (tgt := 62) hx hb dX4_reach_30 (by decide) (fun c_30 => ?_) (fun c_30 => ?_)
    · rw [nI_leI (by omega) (by omega)] at c_30
      rw [show i = 16 by omega] at hP hD
      clear ih27 ih4
      refine lv_iconst (v := nI 1) hx hb dX4_reach_62 (by decide +kernel) ?_
      refine lv_istore_n (lv' := [(2, .int (nI 1)), (1, .int (nI 0)), (0, .ref y0)]) hx hb dX4_reach_63 rfl hl (by decide) rfl (fun ls hl => ?_)
      refine lv_iconst (v := nI 0) hx hb dX4_reach_64 (by decide +kernel) ?_
      refine lv_istore_n (lv' := [(3, .int (nI 0)), (2, .int (nI 1)), (1, .int (nI 0)), (0, .ref y0)]) hx hb dX4_reach_65 rfl hl (by decide) rfl (fun ls hl => ?_)
      have hl : lv_has ls 6 [(3, .int (nI 0)), (2, .int (pm_b true)), (1, .int (nI 0)), (0, .ref y0)] := hl
      refine lp_loop (σ := Nat × Bool × (Nat → Int32)) (head := 66) (fun x H locs ls => match x with | (p5, b1, rc1) => p5 ≤ N + 1 ∧ pq_tg N sm gv b1 (N + 1 - p5) rc1 = pq_reach N sm gv gr rc ∧ va_P (dC, dI) vwCl [(y0, .inr (4, [.int (nI th), .int (nI N), .int (nI af), .ref s1, .ref s2, .ref s3, .ref s4, .ref s5, .int (nI pl), .int (pm_b go), .int (pm_b qu), .int (nI cy), .int (nI qc), .int (pm_b fr), .int (pm_b wq)])), (s1, .inl (t1, 401, .inl (pm_nf9 sm))), (s2, .inl (t2, 8000, .inl (pm_nf9 gv))), (s3, .inl (t3, 16, .inl (pm_nf9 gr))), (s4, .inl (t4, 400, .inl rc1)), (s5, .inl (t5, 400, .inl mq))] H ∧ va_D A [(y0, .inr (4, [.int (nI th), .int (nI N), .int (nI af), .ref s1, .ref s2, .ref s3, .ref s4, .ref s5, .int (nI pl), .int (pm_b go), .int (pm_b qu), .int (nI cy), .int (nI qc), .int (pm_b fr), .int (pm_b wq)])), (s1, .inl (t1, 401, .inl (pm_nf9 sm))), (s2, .inl (t2, 8000, .inl (pm_nf9 gv))), (s3, .inl (t3, 16, .inl (pm_nf9 gr))), (s4, .inl (t4, 400, .inl rc1)), (s5, .inl (t5, 400, .inl mq))] ∧ va_S A s.heap H locs ∧ lv_has ls 6 [(3, .int (nI p5)), (2, .int (pm_b b1)), (1, .int (nI 0)), (0, .ref y0)]) (fun x => match x with | (p5, b1, rc1) => N + 1 - p5) ?_ (0, true, pq_rt gr 16 (pm_clr N rc)) _ _ _ ⟨Nat.zero_le _, rfl, hP, hD, hS, lv_sub hl [0, 1, 2, 3] rfl⟩
      intro x H locs ls hI ih66
      obtain ⟨p5, b1, rc1⟩ := x
      obtain ⟨hp5, hT, hP, hD, hS, hl⟩ := hI
      dsimp only at ih66
      refine lv_iload_n hx hb dX4_reach_66 rfl (lv_at hl 0 rfl) ?_
      refine lv_aload_n hx hb dX4_reach_67 rfl (lv_at hl 3 rfl) ?_
      refine va_get (D := (dC, dI)) (ci := 4) (v := .int (nI N)) (C := RX4) (T := TX4) (N := 15) hx hb hts iw_X4 hown hK hP 0 rfl rfl 1 (by decide) (hts _ mf_X4_33) (fun _ h9 => h9) rfl dX4_reach_68 ?_
      refine lv_icmp_gt (tgt := 187) hx hb dX4_reach_71 (by decide) (fun c_71 => ?_) (fun c_71 => ?_)
      · rw [nI_ltI (by omega) (by omega)] at c_71
        have hR := pq_tg0 hT (by omega)
        refine lv_iconst (v := nI 0) hx hb dX4_reach_187 (by decide +kernel) ?_
        refine lv_istore_n (lv' := [(3, .int (nI 0)), (2, .int (pm_b b1)), (1, .int (nI 0)), (0, .ref y0)]) hx hb dX4_reach_188 rfl hl (by decide) rfl (fun ls hl => ?_)
        have hl : lv_has ls 6 [(3, .int (nI 0)), (2, .int (pm_b b1)), (1, .int (nI (pm_cnt rc1 0))), (0, .ref y0)] := hl
        refine lp_loop (σ := Nat) (head := 189) (fun k9 H locs ls => k9 ≤ N ∧ va_P (dC, dI) vwCl [(y0, .inr (4, [.int (nI th), .int (nI N), .int (nI af), .ref s1, .ref s2, .ref s3, .ref s4, .ref s5, .int (nI pl), .int (pm_b go), .int (pm_b qu), .int (nI cy), .int (nI qc), .int (pm_b fr), .int (pm_b wq)])), (s1, .inl (t1, 401, .inl (pm_nf9 sm))), (s2, .inl (t2, 8000, .inl (pm_nf9 gv))), (s3, .inl (t3, 16, .inl (pm_nf9 gr))), (s4, .inl (t4, 400, .inl rc1)), (s5, .inl (t5, 400, .inl mq))] H ∧ va_D A [(y0, .inr (4, [.int (nI th), .int (nI N), .int (nI af), .ref s1, .ref s2, .ref s3, .ref s4, .ref s5, .int (nI pl), .int (pm_b go), .int (pm_b qu), .int (nI cy), .int (nI qc), .int (pm_b fr), .int (pm_b wq)])), (s1, .inl (t1, 401, .inl (pm_nf9 sm))), (s2, .inl (t2, 8000, .inl (pm_nf9 gv))), (s3, .inl (t3, 16, .inl (pm_nf9 gr))), (s4, .inl (t4, 400, .inl rc1)), (s5, .inl (t5, 400, .inl mq))] ∧ va_S A s.heap H locs ∧ lv_has ls 6 [(3, .int (nI k9)), (1, .int (nI (pm_cnt rc1 k9))), (0, .ref y0)]) (fun k9 => N - k9) ?_ 0 _ _ _ ⟨Nat.zero_le _, hP, hD, hS, lv_sub hl [0, 2, 3] rfl⟩
        intro x H locs ls hI ih189
        obtain ⟨k9, rfl⟩ : ∃ y, y = x := ⟨x, rfl⟩
        obtain ⟨hk9, hP, hD, hS, hl⟩ := hI
        refine lv_iload_n hx hb dX4_reach_189 rfl (lv_at hl 0 rfl) ?_
        refine lv_aload_n hx hb dX4_reach_190 rfl (lv_at hl 2 rfl) ?_
        refine va_get (D := (dC, dI)) (ci := 4) (v := .int (nI N)) (C := RX4) (T := TX4) (N := 15) hx hb hts iw_X4 hown hK hP 0 rfl rfl 1 (by decide) (hts _ mf_X4_33) (fun _ h9 => h9) rfl dX4_reach_191 ?_
        refine lv_icmp_ge (tgt := 220) hx hb dX4_reach_194 (by decide) (fun c_194 => ?_) (fun c_194 => ?_)
        · rw [nI_leI (by omega) (by omega)] at c_194
          refine lv_iload_n hx hb dX4_reach_220 rfl (lv_at hl 1 rfl) ?_
          exact W.iret (v := nI (pm_cnt rc1 k9)) hx hb hr (fun t ht hW => ⟨⟨nI (pm_cnt rc1 k9), rc1, rfl, ⟨hR, by rw [show k9 = N by omega]⟩, by rw [ht]; exact hP, va_K.moved hW.alike hK, hD⟩, hS.F ht⟩) hS.2.2 dX4_reach_221
        · rw [nI_leI (by omega) (by omega)] at c_194
          refine lv_aload_n hx hb dX4_reach_197 rfl (lv_at hl 2 rfl) ?_
          refine va_get (D := (dC, dI)) (ci := 4) (v := .ref s4) (C := RX4) (T := TX4) (N := 15) hx hb hts iw_X4 hown hK hP 0 rfl rfl 6 (by decide) (hts _ mf_X4_19) (fun _ h9 => h9) rfl dX4_reach_198 ?_
          refine lv_iload_n hx hb dX4_reach_201 rfl (lv_at hl 0 rfl) ?_
          refine va_zald hx hb hK hP 4 3 rfl rfl (vp_in_nI (by omega) (by omega)) dX4_reach_202 ?_
          refine lv_topi (fun x_1 ex_1 => ?_)
          rw [nI_clamp (by omega)] at ex_1
          subst ex_1
          refine lv_if_eq (tgt := 212) hx hb dX4_reach_203 (by decide) (fun c_203 => ?_) (fun c_203 => ?_)
          · refine lv_iload_n hx hb dX4_reach_212 rfl (lv_at hl 1 rfl) ?_
            refine lv_topi (fun x_2 ex_2 => ?_)
            rw [← pm_cnt_s0 c_203] at ex_2
            subst ex_2
            refine lv_istore_n (lv' := [(1, .int (nI (pm_cnt rc1 (k9 + 1)))), (3, .int (nI k9)), (0, .ref y0)]) hx hb dX4_reach_213 rfl hl (by decide) rfl (fun ls hl => ?_)
            refine lv_iinc (v := nI (k9 + 1)) (lv' := [(3, .int (nI (k9 + 1))), (1, .int (nI (pm_cnt rc1 (k9 + 1)))), (0, .ref y0)]) hx hb dX4_reach_214 hl (k := 1) rfl (nI_1 _) (by decide) rfl (fun ls hl => ?_)
            refine lv_goto (tgt := 189) hx hb dX4_reach_217 (by decide) ?_
            exact ih189 (k9 + 1) _ _ _ ⟨by omega, hP, hD, hS, lv_sub hl [0, 1, 2] rfl⟩ (by omega)
          · refine lv_iload_n hx hb dX4_reach_206 rfl (lv_at hl 1 rfl) ?_
            refine lv_iconst (v := nI 1) hx hb dX4_reach_207 (by decide +kernel) ?_
            refine lv_iadd hx hb dX4_reach_208 ?_
            refine lv_topi (fun x_3 ex_3 => ?_)
            obtain rfl : x_3 = nI ((pm_cnt rc1 k9) + 1) := ex_3.trans (nI_add _ _)
            refine lv_goto (tgt := 213) hx hb dX4_reach_209 (by decide) ?_
            refine lv_topi (fun x_4 ex_4 => ?_)
            rw [← pm_cnt_s1 c_203] at ex_4
            subst ex_4
            refine lv_istore_n (lv' := [(1, .int (nI (pm_cnt rc1 (k9 + 1)))), (3, .int (nI k9)), (0, .ref y0)]) hx hb dX4_reach_213 rfl hl (by decide) rfl (fun ls hl => ?_)
            refine lv_iinc (v := nI (k9 + 1)) (lv' := [(3, .int (nI (k9 + 1))), (1, .int (nI (pm_cnt rc1 (k9 + 1)))), (0, .ref y0)]) hx hb dX4_reach_214 hl (k := 1) rfl (nI_1 _) (by decide) rfl (fun ls hl => ?_)
            refine lv_goto (tgt := 189) hx hb dX4_reach_217 (by decide) ?_
            exact ih189 (k9 + 1) _ _ _ ⟨by omega, hP, hD, hS, lv_sub hl [0, 1, 2] rfl⟩ (by omega)
      · rw [nI_ltI (by omega) (by omega)] at c_71
        cases b1 with
        | true =>
          have hP : va_P (dC, dI) vwCl [(y0, .inr (4, [.int (nI th), .int (nI N), .int (nI af), .ref s1, .ref s2, .ref s3, .ref s4, .ref s5, .int (nI pl), .int (pm_b go), .int (pm_b qu), .int (nI cy), .int (nI qc), .int (pm_b fr), .int (pm_b wq)])), (s1, .inl (t1, 401, .inl (pm_nf9 sm))), (s2, .inl (t2, 8000, .inl (pm_nf9 gv))), (s3, .inl (t3, 16, .inl (pm_nf9 gr))), (s4, .inl (t4, 400, .inl rc1)), (s5, .inl (t5, 400, .inl mq))] H := hP
          have hD : va_D A [(y0, .inr (4, [.int (nI th), .int (nI N), .int (nI af), .ref s1, .ref s2, .ref s3, .ref s4, .ref s5, .int (nI pl), .int (pm_b go), .int (pm_b qu), .int (nI cy), .int (nI qc), .int (pm_b fr), .int (pm_b wq)])), (s1, .inl (t1, 401, .inl (pm_nf9 sm))), (s2, .inl (t2, 8000, .inl (pm_nf9 gv))), (s3, .inl (t3, 16, .inl (pm_nf9 gr))), (s4, .inl (t4, 400, .inl rc1)), (s5, .inl (t5, 400, .inl mq))] := hD
          have hl : lv_has ls 6 [(3, .int (nI p5)), (2, .int (nI 1)), (1, .int (nI 0)), (0, .ref y0)] := hl
          refine lv_iload_n hx hb dX4_reach_74 rfl (lv_at hl 1 rfl) ?_
          refine lv_if_eq (tgt := 187) hx hb dX4_reach_75 (by decide) (fun c_75 => absurd c_75 (by decide +kernel)) (fun c_75 => ?_)
          refine lv_iconst (v := nI 0) hx hb dX4_reach_78 (by decide +kernel) ?_
          refine lv_istore_n (lv' := [(2, .int (nI 0)), (3, .int (nI p5)), (1, .int (nI 0)), (0, .ref y0)]) hx hb dX4_reach_79 rfl hl (by decide) rfl (fun ls hl => ?_)
          refine lv_iconst (v := nI 0) hx hb dX4_reach_80 (by decide +kernel) ?_
          refine lv_istore (lv' := [(4, .int (nI 0)), (2, .int (nI 0)), (3, .int (nI p5)), (1, .int (nI 0)), (0, .ref y0)]) hx hb dX4_reach_81 hl (by decide) rfl (fun ls hl => ?_)
          have hl : lv_has ls 6 [(4, .int (nI 0)), (2, .int (pm_b false)), (3, .int (nI p5)), (1, .int (nI 0)), (0, .ref y0)] := hl
          refine lp_loop (σ := Nat × Bool × (Nat → Int32)) (head := 83) (fun x H locs ls => match x with | (k2, b2, rc2) => k2 ≤ N ∧ (rc2, b2) = pq_k sm gv k2 (rc1, false) ∧ va_P (dC, dI) vwCl [(y0, .inr (4, [.int (nI th), .int (nI N), .int (nI af), .ref s1, .ref s2, .ref s3, .ref s4, .ref s5, .int (nI pl), .int (pm_b go), .int (pm_b qu), .int (nI cy), .int (nI qc), .int (pm_b fr), .int (pm_b wq)])), (s1, .inl (t1, 401, .inl (pm_nf9 sm))), (s2, .inl (t2, 8000, .inl (pm_nf9 gv))), (s3, .inl (t3, 16, .inl (pm_nf9 gr))), (s4, .inl (t4, 400, .inl rc2)), (s5, .inl (t5, 400, .inl mq))] H ∧ va_D A [(y0, .inr (4, [.int (nI th), .int (nI N), .int (nI af), .ref s1, .ref s2, .ref s3, .ref s4, .ref s5, .int (nI pl), .int (pm_b go), .int (pm_b qu), .int (nI cy), .int (nI qc), .int (pm_b fr), .int (pm_b wq)])), (s1, .inl (t1, 401, .inl (pm_nf9 sm))), (s2, .inl (t2, 8000, .inl (pm_nf9 gv))), (s3, .inl (t3, 16, .inl (pm_nf9 gr))), (s4, .inl (t4, 400, .inl rc2)), (s5, .inl (t5, 400, .inl mq))] ∧ va_S A s.heap H locs ∧ lv_has ls 6 [(4, .int (nI k2)), (2, .int (pm_b b2)), (3, .int (nI p5)), (1, .int (nI 0)), (0, .ref y0)]) (fun x => match x with | (k2, b2, rc2) => N - k2) ?_ (0, false, rc1) _ _ _ ⟨Nat.zero_le _, rfl, hP, hD, hS, lv_sub hl [0, 1, 2, 3, 4] rfl⟩
          intro x H locs ls hI ih83
          obtain ⟨k2, b2, rc2⟩ := x
          obtain ⟨hk2, hE2, hP, hD, hS, hl⟩ := hI
          dsimp only at ih83
          refine lv_iload hx hb dX4_reach_83 (lv_at hl 0 rfl) ?_
          refine lv_aload_n hx hb dX4_reach_85 rfl (lv_at hl 4 rfl) ?_
          refine va_get (D := (dC, dI)) (ci := 4) (v := .int (nI N)) (C := RX4) (T := TX4) (N := 15) hx hb hts iw_X4 hown hK hP 0 rfl rfl 1 (by decide) (hts _ mf_X4_33) (fun _ h9 => h9) rfl dX4_reach_86 ?_
          refine lv_icmp_ge (tgt := 181) hx hb dX4_reach_89 (by decide) (fun c_89 => ?_) (fun c_89 => ?_)
          · rw [nI_leI (by omega) (by omega)] at c_89
            rw [show k2 = N by omega] at hE2
            refine lv_iinc (v := nI (p5 + 1)) (lv' := [(3, .int (nI (p5 + 1))), (4, .int (nI k2)), (2, .int (pm_b b2)), (1, .int (nI 0)), (0, .ref y0)]) hx hb dX4_reach_181 hl (k := 2) rfl (nI_1 _) (by decide) rfl (fun ls hl => ?_)
            refine lv_goto (tgt := 66) hx hb dX4_reach_184 (by decide) ?_
            exact ih66 (p5 + 1, b2, rc2) _ _ _ ⟨by omega, pq_run_s hE2 (by omega) hT, hP, hD, hS, lv_sub hl [0, 2, 3, 4] rfl⟩ (by omega)
          · rw [nI_leI (by omega) (by omega)] at c_89
            have hms := hM.2.2.2.1 k2 (by omega)
            have hs2 := pq_le hM (k2 + 1) (by omega)
            refine lv_aload_n hx hb dX4_reach_92 rfl (lv_at hl 4 rfl) ?_
            refine va_get (D := (dC, dI)) (ci := 4) (v := .ref s1) (C := RX4) (T := TX4) (N := 15) hx hb hts iw_X4 hown hK hP 0 rfl rfl 3 (by decide) (hts _ mf_X4_7) (fun _ h9 => h9) rfl dX4_reach_93 ?_
            refine lv_iload hx hb dX4_reach_96 (lv_at hl 0 rfl) ?_
            refine va_iald hx hb hK hP 1 0 rfl rfl (vp_in_nI (by omega) (by omega)) dX4_reach_98 ?_
            refine lv_topi (fun x_5 ex_5 => ?_)
            rw [nI_clamp (by omega)] at ex_5
            obtain rfl : x_5 = nI (sm k2) := ex_5
            refine lv_istore (lv' := [(5, .int (nI (sm k2))), (4, .int (nI k2)), (2, .int (pm_b b2)), (3, .int (nI p5)), (1, .int (nI 0)), (0, .ref y0)]) hx hb dX4_reach_99 hl (by decide) rfl (fun ls hl => ?_)
            have hl : lv_has ls 6 [(5, .int (nI (sm k2 + 0))), (4, .int (nI k2)), (2, .int (pm_b b2)), (3, .int (nI p5)), (1, .int (nI 0)), (0, .ref y0)] := hl
            refine lp_loop (σ := Nat × Bool × (Nat → Int32)) (head := 101) (fun x H locs ls => match x with | (j3, b3, rc3) => j3 ≤ sm (k2 + 1) - sm k2 ∧ (rc3, b3) = pq_j gv k2 (sm k2) j3 (rc2, b2) ∧ va_P (dC, dI) vwCl [(y0, .inr (4, [.int (nI th), .int (nI N), .int (nI af), .ref s1, .ref s2, .ref s3, .ref s4, .ref s5, .int (nI pl), .int (pm_b go), .int (pm_b qu), .int (nI cy), .int (nI qc), .int (pm_b fr), .int (pm_b wq)])), (s1, .inl (t1, 401, .inl (pm_nf9 sm))), (s2, .inl (t2, 8000, .inl (pm_nf9 gv))), (s3, .inl (t3, 16, .inl (pm_nf9 gr))), (s4, .inl (t4, 400, .inl rc3)), (s5, .inl (t5, 400, .inl mq))] H ∧ va_D A [(y0, .inr (4, [.int (nI th), .int (nI N), .int (nI af), .ref s1, .ref s2, .ref s3, .ref s4, .ref s5, .int (nI pl), .int (pm_b go), .int (pm_b qu), .int (nI cy), .int (nI qc), .int (pm_b fr), .int (pm_b wq)])), (s1, .inl (t1, 401, .inl (pm_nf9 sm))), (s2, .inl (t2, 8000, .inl (pm_nf9 gv))), (s3, .inl (t3, 16, .inl (pm_nf9 gr))), (s4, .inl (t4, 400, .inl rc3)), (s5, .inl (t5, 400, .inl mq))] ∧ va_S A s.heap H locs ∧ lv_has ls 6 [(5, .int (nI (sm k2 + j3))), (2, .int (pm_b b3)), (4, .int (nI k2)), (3, .int (nI p5)), (1, .int (nI 0)), (0, .ref y0)]) (fun x => match x with | (j3, b3, rc3) => sm (k2 + 1) - sm k2 - j3) ?_ (0, b2, rc2) _ _ _ ⟨Nat.zero_le _, rfl, hP, hD, hS, lv_sub hl [0, 2, 1, 3, 4, 5] rfl⟩
            intro x H locs ls hI ih101
            obtain ⟨j3, b3, rc3⟩ := x
            obtain ⟨hj3, hE3, hP, hD, hS, hl⟩ := hI
            dsimp only at ih101
            refine lv_iload hx hb dX4_reach_101 (lv_at hl 0 rfl) ?_
            refine lv_aload_n hx hb dX4_reach_103 rfl (lv_at hl 5 rfl) ?_
            refine va_get (D := (dC, dI)) (ci := 4) (v := .ref s1) (C := RX4) (T := TX4) (N := 15) hx hb hts iw_X4 hown hK hP 0 rfl rfl 3 (by decide) (hts _ mf_X4_7) (fun _ h9 => h9) rfl dX4_reach_104 ?_
            refine lv_iload hx hb dX4_reach_107 (lv_at hl 2 rfl) ?_
            refine lv_iconst (v := nI 1) hx hb dX4_reach_109 (by decide +kernel) ?_
            refine lv_iadd hx hb dX4_reach_110 ?_
            refine lv_topi (fun x_6 ex_6 => ?_)
            obtain rfl : x_6 = nI (k2 + 1) := ex_6.trans (nI_add _ _)
            refine va_iald hx hb hK hP 1 0 rfl rfl (vp_in_nI (by omega) (by omega)) dX4_reach_111 ?_
            refine lv_topi (fun x_7 ex_7 => ?_)
            rw [nI_clamp (by omega)] at ex_7
            obtain rfl : x_7 = nI (sm ((k2 + 1))) := ex_7
            refine lv_icmp_ge (tgt := 175) hx hb dX4_reach_112 (by decide) (fun c_112 => ?_) (fun c_112 => ?_)
            · rw [nI_leI (by omega) (by omega)] at c_112
              refine lv_iinc (v := nI (k2 + 1)) (lv' := [(4, .int (nI (k2 + 1))), (5, .int (nI (sm k2 + j3))), (2, .int (pm_b b3)), (3, .int (nI p5)), (1, .int (nI 0)), (0, .ref y0)]) hx hb dX4_reach_175 hl (k := 2) rfl (nI_1 _) (by decide) rfl (fun ls hl => ?_)
              refine lv_goto (tgt := 83) hx hb dX4_reach_178 (by decide) ?_
              exact ih83 (k2 + 1, b3, rc3) _ _ _ ⟨by omega, by rw [hE3, hE2, show j3 = sm (k2 + 1) - sm k2 by omega]; rfl, hP, hD, hS, lv_sub hl [0, 2, 3, 4, 5] rfl⟩ (by omega)
            · rw [nI_leI (by omega) (by omega)] at c_112
              refine lv_aload_n hx hb dX4_reach_115 rfl (lv_at hl 5 rfl) ?_
              refine va_get (D := (dC, dI)) (ci := 4) (v := .ref s4) (C := RX4) (T := TX4) (N := 15) hx hb hts iw_X4 hown hK hP 0 rfl rfl 6 (by decide) (hts _ mf_X4_19) (fun _ h9 => h9) rfl dX4_reach_116 ?_
              refine lv_iload hx hb dX4_reach_119 (lv_at hl 2 rfl) ?_
              refine va_zald hx hb hK hP 4 3 rfl rfl (vp_in_nI (by omega) (by omega)) dX4_reach_121 ?_
              refine lv_topi (fun x_8 ex_8 => ?_)
              rw [nI_clamp (by omega)] at ex_8
              subst ex_8
              refine lv_if_eq (tgt := 169) hx hb dX4_reach_122 (by decide) (fun c_122 => ?_) (fun c_122 => ?_)
              · refine lv_iinc (v := nI ((sm k2 + j3) + 1)) (lv' := [(5, .int (nI ((sm k2 + j3) + 1))), (2, .int (pm_b b3)), (4, .int (nI k2)), (3, .int (nI p5)), (1, .int (nI 0)), (0, .ref y0)]) hx hb dX4_reach_169 hl (k := 0) rfl (nI_1 _) (by decide) rfl (fun ls hl => ?_)
                refine lv_goto (tgt := 101) hx hb dX4_reach_172 (by decide) ?_
                exact ih101 (j3 + 1, b3, rc3) _ _ _ ⟨by omega, by simp only [pq_j]; rw [← hE3]; exact pq_f1 c_122, hP, hD, hS, lv_sub hl [0, 1, 2, 3, 4, 5] rfl⟩ (by omega)
              · refine lv_aload_n hx hb dX4_reach_125 rfl (lv_at hl 5 rfl) ?_
                refine va_get (D := (dC, dI)) (ci := 4) (v := .ref s2) (C := RX4) (T := TX4) (N := 15) hx hb hts iw_X4 hown hK hP 0 rfl rfl 4 (by decide) (hts _ mf_X4_13) (fun _ h9 => h9) rfl dX4_reach_126 ?_
                refine lv_iload hx hb dX4_reach_129 (lv_at hl 0 rfl) ?_
                refine va_iald hx hb hK hP 2 1 rfl rfl (vp_in_nI (by omega) (by omega)) dX4_reach_131 ?_
                refine lv_topi (fun x_9 ex_9 => ?_)
                rw [nI_clamp (by omega)] at ex_9
                obtain rfl : x_9 = nI (gv ((sm k2 + j3))) := ex_9
                refine lv_if_le (tgt := 169) hx hb dX4_reach_132 (by decide) (fun c_132 => ?_) (fun c_132 => ?_)
                · have hg9 := hgv (sm k2 + j3)
                  have h0 := pm_le0 (by omega) c_132
                  refine lv_iinc (v := nI ((sm k2 + j3) + 1)) (lv' := [(5, .int (nI ((sm k2 + j3) + 1))), (2, .int (pm_b b3)), (4, .int (nI k2)), (3, .int (nI p5)), (1, .int (nI 0)), (0, .ref y0)]) hx hb dX4_reach_169 hl (k := 0) rfl (nI_1 _) (by decide) rfl (fun ls hl => ?_)
                  refine lv_goto (tgt := 101) hx hb dX4_reach_172 (by decide) ?_
                  exact ih101 (j3 + 1, b3, rc3) _ _ _ ⟨by omega, by simp only [pq_j]; rw [← hE3]; exact pq_f2 c_122 h0, hP, hD, hS, lv_sub hl [0, 1, 2, 3, 4, 5] rfl⟩ (by omega)
                · have hg9 := hgv (sm k2 + j3)
                  have h0 := pm_gt0 c_132
                  refine lv_aload_n hx hb dX4_reach_135 rfl (lv_at hl 5 rfl) ?_
                  refine va_get (D := (dC, dI)) (ci := 4) (v := .ref s4) (C := RX4) (T := TX4) (N := 15) hx hb hts iw_X4 hown hK hP 0 rfl rfl 6 (by decide) (hts _ mf_X4_19) (fun _ h9 => h9) rfl dX4_reach_136 ?_
                  refine lv_aload_n hx hb dX4_reach_139 rfl (lv_at hl 5 rfl) ?_
                  refine va_get (D := (dC, dI)) (ci := 4) (v := .ref s2) (C := RX4) (T := TX4) (N := 15) hx hb hts iw_X4 hown hK hP 0 rfl rfl 4 (by decide) (hts _ mf_X4_13) (fun _ h9 => h9) rfl dX4_reach_140 ?_
                  refine lv_iload hx hb dX4_reach_143 (lv_at hl 0 rfl) ?_
                  refine va_iald hx hb hK hP 2 1 rfl rfl (vp_in_nI (by omega) (by omega)) dX4_reach_145 ?_
                  refine lv_topi (fun x_10 ex_10 => ?_)
                  rw [nI_clamp (by omega)] at ex_10
                  obtain rfl : x_10 = nI (gv ((sm k2 + j3))) := ex_10
                  refine lv_iconst (v := nI 1) hx hb dX4_reach_146 (by decide +kernel) ?_
                  refine lv_isub hx hb dX4_reach_147 ?_
                  refine lv_topi (fun x_11 ex_11 => ?_)
                  obtain rfl : x_11 = nI ((gv ((sm k2 + j3))) - 1) := ex_11.trans (pk_sub (by omega))
                  refine va_zald hx hb hK hP 4 3 rfl rfl (vp_in_nI (by omega) (by omega)) dX4_reach_148 ?_
                  refine lv_topi (fun x_12 ex_12 => ?_)
                  rw [nI_clamp (by omega)] at ex_12
                  subst ex_12
                  refine lv_if_ne (tgt := 169) hx hb dX4_reach_149 (by decide) (fun c_149 => ?_) (fun c_149 => ?_)
                  · refine lv_iinc (v := nI ((sm k2 + j3) + 1)) (lv' := [(5, .int (nI ((sm k2 + j3) + 1))), (2, .int (pm_b b3)), (4, .int (nI k2)), (3, .int (nI p5)), (1, .int (nI 0)), (0, .ref y0)]) hx hb dX4_reach_169 hl (k := 0) rfl (nI_1 _) (by decide) rfl (fun ls hl => ?_)
                    refine lv_goto (tgt := 101) hx hb dX4_reach_172 (by decide) ?_
                    exact ih101 (j3 + 1, b3, rc3) _ _ _ ⟨by omega, by simp only [pq_j]; rw [← hE3]; exact pq_f3 c_122 h0 c_149, hP, hD, hS, lv_sub hl [0, 1, 2, 3, 4, 5] rfl⟩ (by omega)
                  · refine lv_aload_n hx hb dX4_reach_152 rfl (lv_at hl 5 rfl) ?_
                    refine va_get (D := (dC, dI)) (ci := 4) (v := .ref s4) (C := RX4) (T := TX4) (N := 15) hx hb hts iw_X4 hown hK hP 0 rfl rfl 6 (by decide) (hts _ mf_X4_19) (fun _ h9 => h9) rfl dX4_reach_153 ?_
                    refine lv_aload_n hx hb dX4_reach_156 rfl (lv_at hl 5 rfl) ?_
                    refine va_get (D := (dC, dI)) (ci := 4) (v := .ref s2) (C := RX4) (T := TX4) (N := 15) hx hb hts iw_X4 hown hK hP 0 rfl rfl 4 (by decide) (hts _ mf_X4_13) (fun _ h9 => h9) rfl dX4_reach_157 ?_
                    refine lv_iload hx hb dX4_reach_160 (lv_at hl 0 rfl) ?_
                    refine va_iald hx hb hK hP 2 1 rfl rfl (vp_in_nI (by omega) (by omega)) dX4_reach_162 ?_
                    refine lv_topi (fun x_13 ex_13 => ?_)
                    rw [nI_clamp (by omega)] at ex_13
                    obtain rfl : x_13 = nI (gv ((sm k2 + j3))) := ex_13
                    refine lv_iconst (v := nI 1) hx hb dX4_reach_163 (by decide +kernel) ?_
                    refine lv_isub hx hb dX4_reach_164 ?_
                    refine lv_topi (fun x_14 ex_14 => ?_)
                    obtain rfl : x_14 = nI ((gv ((sm k2 + j3))) - 1) := ex_14.trans (pk_sub (by omega))
                    refine lv_iconst (v := nI 1) hx hb dX4_reach_165 (by decide +kernel) ?_
                    refine va_zast hx hb hK hP hD hS 4 3 rfl rfl (vp_in_nI (by omega) (by omega)) dX4_reach_166 (fun H locs hP hD hS => ?_)
                    rw [nI_clamp (by omega)] at hP hD
                    rw [pm_z1] at hP hD
                    have hP : va_P (dC, dI) vwCl [(y0, .inr (4, [.int (nI th), .int (nI N), .int (nI af), .ref s1, .ref s2, .ref s3, .ref s4, .ref s5, .int (nI pl), .int (pm_b go), .int (pm_b qu), .int (nI cy), .int (nI qc), .int (pm_b fr), .int (pm_b wq)])), (s1, .inl (t1, 401, .inl (pm_nf9 sm))), (s2, .inl (t2, 8000, .inl (pm_nf9 gv))), (s3, .inl (t3, 16, .inl (pm_nf9 gr))), (s4, .inl (t4, 400, .inl (upd rc3 (((gv ((sm k2 + j3))) - 1)) 1))), (s5, .inl (t5, 400, .inl mq))] H := hP
                    have hD : va_D A [(y0, .inr (4, [.int (nI th), .int (nI N), .int (nI af), .ref s1, .ref s2, .ref s3, .ref s4, .ref s5, .int (nI pl), .int (pm_b go), .int (pm_b qu), .int (nI cy), .int (nI qc), .int (pm_b fr), .int (pm_b wq)])), (s1, .inl (t1, 401, .inl (pm_nf9 sm))), (s2, .inl (t2, 8000, .inl (pm_nf9 gv))), (s3, .inl (t3, 16, .inl (pm_nf9 gr))), (s4, .inl (t4, 400, .inl (upd rc3 (((gv ((sm k2 + j3))) - 1)) 1))), (s5, .inl (t5, 400, .inl mq))] := hD
                    refine lv_iconst (v := nI 1) hx hb dX4_reach_167 (by decide +kernel) ?_
                    refine lv_istore_n (lv' := [(2, .int (nI 1)), (5, .int (nI (sm k2 + j3))), (4, .int (nI k2)), (3, .int (nI p5)), (1, .int (nI 0)), (0, .ref y0)]) hx hb dX4_reach_168 rfl hl (by decide) rfl (fun ls hl => ?_)
                    refine lv_iinc (v := nI ((sm k2 + j3) + 1)) (lv' := [(5, .int (nI ((sm k2 + j3) + 1))), (2, .int (nI 1)), (4, .int (nI k2)), (3, .int (nI p5)), (1, .int (nI 0)), (0, .ref y0)]) hx hb dX4_reach_169 hl (k := 1) rfl (nI_1 _) (by decide) rfl (fun ls hl => ?_)
                    refine lv_goto (tgt := 101) hx hb dX4_reach_172 (by decide) ?_
                    have hl : lv_has ls 6 [(5, .int (nI ((sm k2 + j3) + 1))), (2, .int (pm_b true)), (4, .int (nI k2)), (3, .int (nI p5)), (1, .int (nI 0)), (0, .ref y0)] := hl
                    exact ih101 (j3 + 1, true, (upd rc3 (gv (sm k2 + j3) - 1) 1)) _ _ _ ⟨by omega, by simp only [pq_j]; rw [← hE3]; exact pq_f4 c_122 h0 c_149, hP, hD, hS, lv_sub hl [0, 1, 2, 3, 4, 5] rfl⟩ (by omega)
        | false =>
          have hP : va_P (dC, dI) vwCl [(y0, .inr (4, [.int (nI th), .int (nI N), .int (nI af), .ref s1, .ref s2, .ref s3, .ref s4, .ref s5, .int (nI pl), .int (pm_b go), .int (pm_b qu), .int (nI cy), .int (nI qc), .int (pm_b fr), .int (pm_b wq)])), (s1, .inl (t1, 401, .inl (pm_nf9 sm))), (s2, .inl (t2, 8000, .inl (pm_nf9 gv))), (s3, .inl (t3, 16, .inl (pm_nf9 gr))), (s4, .inl (t4, 400, .inl rc1)), (s5, .inl (t5, 400, .inl mq))] H := hP
          have hD : va_D A [(y0, .inr (4, [.int (nI th), .int (nI N), .int (nI af), .ref s1, .ref s2, .ref s3, .ref s4, .ref s5, .int (nI pl), .int (pm_b go), .int (pm_b qu), .int (nI cy), .int (nI qc), .int (pm_b fr), .int (pm_b wq)])), (s1, .inl (t1, 401, .inl (pm_nf9 sm))), (s2, .inl (t2, 8000, .inl (pm_nf9 gv))), (s3, .inl (t3, 16, .inl (pm_nf9 gr))), (s4, .inl (t4, 400, .inl rc1)), (s5, .inl (t5, 400, .inl mq))] := hD
          have hl : lv_has ls 6 [(3, .int (nI p5)), (2, .int (nI 0)), (1, .int (nI 0)), (0, .ref y0)] := hl
          have hR : rc1 = pq_reach N sm gv gr rc := hT
          refine lv_iload_n hx hb dX4_reach_74 rfl (lv_at hl 1 rfl) ?_
          refine lv_if_eq (tgt := 187) hx hb dX4_reach_75 (by decide) (fun c_75 => ?_) (fun c_75 => absurd c_75 (by decide +kernel))
          refine lv_iconst (v := nI 0) hx hb dX4_reach_187 (by decide +kernel) ?_
          refine lv_istore_n (lv' := [(3, .int (nI 0)), (2, .int (nI 0)), (1, .int (nI 0)), (0, .ref y0)]) hx hb dX4_reach_188 rfl hl (by decide) rfl (fun ls hl => ?_)
          have hl : lv_has ls 6 [(3, .int (nI 0)), (2, .int (nI 0)), (1, .int (nI (pm_cnt rc1 0))), (0, .ref y0)] := hl
          refine lp_loop (σ := Nat) (head := 189) (fun k9 H locs ls => k9 ≤ N ∧ va_P (dC, dI) vwCl [(y0, .inr (4, [.int (nI th), .int (nI N), .int (nI af), .ref s1, .ref s2, .ref s3, .ref s4, .ref s5, .int (nI pl), .int (pm_b go), .int (pm_b qu), .int (nI cy), .int (nI qc), .int (pm_b fr), .int (pm_b wq)])), (s1, .inl (t1, 401, .inl (pm_nf9 sm))), (s2, .inl (t2, 8000, .inl (pm_nf9 gv))), (s3, .inl (t3, 16, .inl (pm_nf9 gr))), (s4, .inl (t4, 400, .inl rc1)), (s5, .inl (t5, 400, .inl mq))] H ∧ va_D A [(y0, .inr (4, [.int (nI th), .int (nI N), .int (nI af), .ref s1, .ref s2, .ref s3, .ref s4, .ref s5, .int (nI pl), .int (pm_b go), .int (pm_b qu), .int (nI cy), .int (nI qc), .int (pm_b fr), .int (pm_b wq)])), (s1, .inl (t1, 401, .inl (pm_nf9 sm))), (s2, .inl (t2, 8000, .inl (pm_nf9 gv))), (s3, .inl (t3, 16, .inl (pm_nf9 gr))), (s4, .inl (t4, 400, .inl rc1)), (s5, .inl (t5, 400, .inl mq))] ∧ va_S A s.heap H locs ∧ lv_has ls 6 [(3, .int (nI k9)), (1, .int (nI (pm_cnt rc1 k9))), (0, .ref y0)]) (fun k9 => N - k9) ?_ 0 _ _ _ ⟨Nat.zero_le _, hP, hD, hS, lv_sub hl [0, 2, 3] rfl⟩
          intro x H locs ls hI ih189
          obtain ⟨k9, rfl⟩ : ∃ y, y = x := ⟨x, rfl⟩
          obtain ⟨hk9, hP, hD, hS, hl⟩ := hI
          refine lv_iload_n hx hb dX4_reach_189 rfl (lv_at hl 0 rfl) ?_
          refine lv_aload_n hx hb dX4_reach_190 rfl (lv_at hl 2 rfl) ?_
          refine va_get (D := (dC, dI)) (ci := 4) (v := .int (nI N)) (C := RX4) (T := TX4) (N := 15) hx hb hts iw_X4 hown hK hP 0 rfl rfl 1 (by decide) (hts _ mf_X4_33) (fun _ h9 => h9) rfl dX4_reach_191 ?_
          refine lv_icmp_ge (tgt := 220) hx hb dX4_reach_194 (by decide) (fun c_194 => ?_) (fun c_194 => ?_)
          · rw [nI_leI (by omega) (by omega)] at c_194
            refine lv_iload_n hx hb dX4_reach_220 rfl (lv_at hl 1 rfl) ?_
            exact W.iret (v := nI (pm_cnt rc1 k9)) hx hb hr (fun t ht hW => ⟨⟨nI (pm_cnt rc1 k9), rc1, rfl, ⟨hR, by rw [show k9 = N by omega]⟩, by rw [ht]; exact hP, va_K.moved hW.alike hK, hD⟩, hS.F ht⟩) hS.2.2 dX4_reach_221
          · rw [nI_leI (by omega) (by omega)] at c_194
            refine lv_aload_n hx hb dX4_reach_197 rfl (lv_at hl 2 rfl) ?_
            refine va_get (D := (dC, dI)) (ci := 4) (v := .ref s4) (C := RX4) (T := TX4) (N := 15) hx hb hts iw_X4 hown hK hP 0 rfl rfl 6 (by decide) (hts _ mf_X4_19) (fun _ h9 => h9) rfl dX4_reach_198 ?_
            refine lv_iload_n hx hb dX4_reach_201 rfl (lv_at hl 0 rfl) ?_
            refine va_zald hx hb hK hP 4 3 rfl rfl (vp_in_nI (by omega) (by omega)) dX4_reach_202 ?_
            refine lv_topi (fun x_15 ex_15 => ?_)
            rw [nI_clamp (by omega)] at ex_15
            subst ex_15
            refine lv_if_eq (tgt := 212) hx hb dX4_reach_203 (by decide) (fun c_203 => ?_) (fun c_203 => ?_)
            · refine lv_iload_n hx hb dX4_reach_212 rfl (lv_at hl 1 rfl) ?_
              refine lv_topi (fun x_16 ex_16 => ?_)
              rw [← pm_cnt_s0 c_203] at ex_16
              subst ex_16
              refine lv_istore_n (lv' := [(1, .int (nI (pm_cnt rc1 (k9 + 1)))), (3, .int (nI k9)), (0, .ref y0)]) hx hb dX4_reach_213 rfl hl (by decide) rfl (fun ls hl => ?_)
              refine lv_iinc (v := nI (k9 + 1)) (lv' := [(3, .int (nI (k9 + 1))), (1, .int (nI (pm_cnt rc1 (k9 + 1)))), (0, .ref y0)]) hx hb dX4_reach_214 hl (k := 1) rfl (nI_1 _) (by decide) rfl (fun ls hl => ?_)
              refine lv_goto (tgt := 189) hx hb dX4_reach_217 (by decide) ?_
              exact ih189 (k9 + 1) _ _ _ ⟨by omega, hP, hD, hS, lv_sub hl [0, 1, 2] rfl⟩ (by omega)
            · refine lv_iload_n hx hb dX4_reach_206 rfl (lv_at hl 1 rfl) ?_
              refine lv_iconst (v := nI 1) hx hb dX4_reach_207 (by decide +kernel) ?_
              refine lv_iadd hx hb dX4_reach_208 ?_
              refine lv_topi (fun x_17 ex_17 => ?_)
              obtain rfl : x_17 = nI ((pm_cnt rc1 k9) + 1) := ex_17.trans (nI_add _ _)
              refine lv_goto (tgt := 213) hx hb dX4_reach_209 (by decide) ?_
              refine lv_topi (fun x_18 ex_18 => ?_)
              rw [← pm_cnt_s1 c_203] at ex_18
              subst ex_18
              refine lv_istore_n (lv' := [(1, .int (nI (pm_cnt rc1 (k9 + 1)))), (3, .int (nI k9)), (0, .ref y0)]) hx hb dX4_reach_213 rfl hl (by decide) rfl (fun ls hl => ?_)
              refine lv_iinc (v := nI (k9 + 1)) (lv' := [(3, .int (nI (k9 + 1))), (1, .int (nI (pm_cnt rc1 (k9 + 1)))), (0, .ref y0)]) hx hb dX4_reach_214 hl (k := 1) rfl (nI_1 _) (by decide) rfl (fun ls hl => ?_)
              refine lv_goto (tgt := 189) hx hb dX4_reach_217 (by decide) ?_
              exact ih189 (k9 + 1) _ _ _ ⟨by omega, hP, hD, hS, lv_sub hl [0, 1, 2] rfl⟩ (by omega)
    · rw [nI_leI (by omega) (by omega)] at c_30
      refine lv_aload_n hx hb dX4_reach_33 rfl (lv_at hl 2 rfl) ?_
      refine va_get (D := (dC, dI)) (ci := 4) (v := .ref s3) (C := RX4) (T := TX4) (N := 15) hx hb hts iw_X4 hown hK hP 0 rfl rfl 5 (by decide) (hts _ mf_X4_16) (fun _ h9 => h9) rfl dX4_reach_34 ?_
      refine lv_iload_n hx hb dX4_reach_37 rfl (lv_at hl 0 rfl) ?_
      refine va_iald hx hb hK hP 3 2 rfl rfl (vp_in_nI (by omega) (by omega)) dX4_reach_38 ?_
      refine lv_topi (fun x_19 ex_19 => ?_)
      rw [nI_clamp (by omega)] at ex_19
      obtain rfl : x_19 = nI (gr i) := ex_19
      refine lv_if_le (tgt := 56) hx hb dX4_reach_39 (by decide) (fun c_39 => ?_) (fun c_39 => ?_)
      · have hg9 := hgr i (by omega)
        have h0 := pm_le0 (by omega) c_39
        rw [← pq_r0 (rc := (pm_clr N rc)) h0] at hP hD
        refine lv_iinc (v := nI (i + 1)) (lv' := [(2, .int (nI (i + 1))), (1, .int (nI 0)), (0, .ref y0)]) hx hb dX4_reach_56 hl (k := 0) rfl (nI_1 _) (by decide) rfl (fun ls hl => ?_)
        refine lv_goto (tgt := 27) hx hb dX4_reach_59 (by decide) ?_
        exact ih27 (i + 1) _ _ _ ⟨by omega, hP, hD, hS, lv_sub hl [0, 1, 2] rfl⟩ (by omega)
      · have hg9 := hgr i (by omega)
        have h0 := pm_gt0 c_39
        refine lv_aload_n hx hb dX4_reach_42 rfl (lv_at hl 2 rfl) ?_
        refine va_get (D := (dC, dI)) (ci := 4) (v := .ref s4) (C := RX4) (T := TX4) (N := 15) hx hb hts iw_X4 hown hK hP 0 rfl rfl 6 (by decide) (hts _ mf_X4_19) (fun _ h9 => h9) rfl dX4_reach_43 ?_
        refine lv_aload_n hx hb dX4_reach_46 rfl (lv_at hl 2 rfl) ?_
        refine va_get (D := (dC, dI)) (ci := 4) (v := .ref s3) (C := RX4) (T := TX4) (N := 15) hx hb hts iw_X4 hown hK hP 0 rfl rfl 5 (by decide) (hts _ mf_X4_16) (fun _ h9 => h9) rfl dX4_reach_47 ?_
        refine lv_iload_n hx hb dX4_reach_50 rfl (lv_at hl 0 rfl) ?_
        refine va_iald hx hb hK hP 3 2 rfl rfl (vp_in_nI (by omega) (by omega)) dX4_reach_51 ?_
        refine lv_topi (fun x_20 ex_20 => ?_)
        rw [nI_clamp (by omega)] at ex_20
        obtain rfl : x_20 = nI (gr i) := ex_20
        refine lv_iconst (v := nI 1) hx hb dX4_reach_52 (by decide +kernel) ?_
        refine lv_isub hx hb dX4_reach_53 ?_
        refine lv_topi (fun x_21 ex_21 => ?_)
        obtain rfl : x_21 = nI ((gr i) - 1) := ex_21.trans (pk_sub (by omega))
        refine lv_iconst (v := nI 1) hx hb dX4_reach_54 (by decide +kernel) ?_
        refine va_zast hx hb hK hP hD hS 4 3 rfl rfl (vp_in_nI (by omega) (by omega)) dX4_reach_55 (fun H locs hP hD hS => ?_)
        rw [nI_clamp (by omega)] at hP hD
        rw [pm_z1] at hP hD
        have hP : va_P (dC, dI) vwCl [(y0, .inr (4, [.int (nI th), .int (nI N), .int (nI af), .ref s1, .ref s2, .ref s3, .ref s4, .ref s5, .int (nI pl), .int (pm_b go), .int (pm_b qu), .int (nI cy), .int (nI qc), .int (pm_b fr), .int (pm_b wq)])), (s1, .inl (t1, 401, .inl (pm_nf9 sm))), (s2, .inl (t2, 8000, .inl (pm_nf9 gv))), (s3, .inl (t3, 16, .inl (pm_nf9 gr))), (s4, .inl (t4, 400, .inl (upd (pq_rt gr i (pm_clr N rc)) (((gr i) - 1)) 1))), (s5, .inl (t5, 400, .inl mq))] H := hP
        have hD : va_D A [(y0, .inr (4, [.int (nI th), .int (nI N), .int (nI af), .ref s1, .ref s2, .ref s3, .ref s4, .ref s5, .int (nI pl), .int (pm_b go), .int (pm_b qu), .int (nI cy), .int (nI qc), .int (pm_b fr), .int (pm_b wq)])), (s1, .inl (t1, 401, .inl (pm_nf9 sm))), (s2, .inl (t2, 8000, .inl (pm_nf9 gv))), (s3, .inl (t3, 16, .inl (pm_nf9 gr))), (s4, .inl (t4, 400, .inl (upd (pq_rt gr i (pm_clr N rc)) (((gr i) - 1)) 1))), (s5, .inl (t5, 400, .inl mq))] := hD
        rw [show upd (pq_rt gr i (pm_clr N rc)) (((gr i) - 1)) 1 = pq_rt gr (i + 1) (pm_clr N rc) from pq_r1 h0] at hP hD
        refine lv_iinc (v := nI (i + 1)) (lv' := [(2, .int (nI (i + 1))), (1, .int (nI 0)), (0, .ref y0)]) hx hb dX4_reach_56 hl (k := 0) rfl (nI_1 _) (by decide) rfl (fun ls hl => ?_)
        refine lv_goto (tgt := 27) hx hb dX4_reach_59 (by decide) ?_
        exact ih27 (i + 1) _ _ _ ⟨by omega, hP, hD, hS, lv_sub hl [0, 1, 2] rfl⟩ (by omega)
  · rw [nI_leI (by omega) (by omega)] at c_9
    refine lv_aload_n hx hb dX4_reach_12 rfl (lv_at hl 2 rfl) ?_
    refine va_get (D := (dC, dI)) (ci := 4) (v := .ref s4) (C := RX4) (T := TX4) (N := 15) hx hb hts iw_X4 hown hK hP 0 rfl rfl 6 (by decide) (hts _ mf_X4_19) (fun _ h9 => h9) rfl dX4_reach_13 ?_
    refine lv_iload_n hx hb dX4_reach_16 rfl (lv_at hl 0 rfl) ?_
    refine lv_iconst (v := nI 0) hx hb dX4_reach_17 (by decide +kernel) ?_
    refine va_zast hx hb hK hP hD hS 4 3 rfl rfl (vp_in_nI (by omega) (by omega)) dX4_reach_18 (fun H locs hP hD hS => ?_)
    rw [nI_clamp (by omega)] at hP hD
    rw [pm_z0] at hP hD
    have hP : va_P (dC, dI) vwCl [(y0, .inr (4, [.int (nI th), .int (nI N), .int (nI af), .ref s1, .ref s2, .ref s3, .ref s4, .ref s5, .int (nI pl), .int (pm_b go), .int (pm_b qu), .int (nI cy), .int (nI qc), .int (pm_b fr), .int (pm_b wq)])), (s1, .inl (t1, 401, .inl (pm_nf9 sm))), (s2, .inl (t2, 8000, .inl (pm_nf9 gv))), (s3, .inl (t3, 16, .inl (pm_nf9 gr))), (s4, .inl (t4, 400, .inl (upd (pm_clr k rc) k 0))), (s5, .inl (t5, 400, .inl mq))] H := hP
    have hD : va_D A [(y0, .inr (4, [.int (nI th), .int (nI N), .int (nI af), .ref s1, .ref s2, .ref s3, .ref s4, .ref s5, .int (nI pl), .int (pm_b go), .int (pm_b qu), .int (nI cy), .int (nI qc), .int (pm_b fr), .int (pm_b wq)])), (s1, .inl (t1, 401, .inl (pm_nf9 sm))), (s2, .inl (t2, 8000, .inl (pm_nf9 gv))), (s3, .inl (t3, 16, .inl (pm_nf9 gr))), (s4, .inl (t4, 400, .inl (upd (pm_clr k rc) k 0))), (s5, .inl (t5, 400, .inl mq))] := hD
    rw [show upd (pm_clr k rc) k 0 = pm_clr (k + 1) rc from pm_clr_s k rc] at hP hD
    refine lv_iinc (v := nI (k + 1)) (lv' := [(2, .int (nI (k + 1))), (1, .int (nI 0)), (0, .ref y0)]) hx hb dX4_reach_19 hl (k := 0) rfl (nI_1 _) (by decide) rfl (fun ls hl => ?_)
    refine lv_goto (tgt := 4) hx hb dX4_reach_22 (by decide) ?_
    exact ih4 (k + 1) _ _ _ ⟨by omega, hP, hD, hS, lv_sub hl [0, 1, 2] rfl⟩ (by omega)
