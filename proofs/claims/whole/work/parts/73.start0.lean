theorem ls_str {args : Array Value} {s : State} {k : Nat} {tx : String} (h1 : (Cond.stringRef RX3 k tx).before args s = true) (h2 : (Cond.exactly (.string RX3 k) "java/lang/String").before args s = true) (ha : args.size = args.size) : ∃ sa : Nat, vk_R RX3 k tx sa s := by
  obtain ⟨a, c, cA, kA, q1, q2, q3, q4, q5, q6, -⟩ := Cond.exactly_spec (args := args) (first := s) (o := none) (s := s) (idx := []) (t := .string RX3 k) (cls := "java/lang/String") h2
  exact ⟨a, vk_R.of (A := args) h1 q1⟩
theorem ls_w51 : Cond.stringRef RX3 51 "fields is not 0 .. 20" ∈ lw_tbl := by decide +kernel
theorem ls_w62 : Cond.stringRef RX3 62 "there are 400 objects" ∈ lw_tbl := by decide +kernel
theorem ls_w75 : Cond.stringRef RX3 75 "no such object or field" ∈ lw_tbl := by decide +kernel
theorem ls_w82 : Cond.stringRef RX3 82 "no such other object" ∈ lw_tbl := by decide +kernel
theorem ls_w99 : Cond.stringRef RX3 99 "no such root" ∈ lw_tbl := by decide +kernel
theorem ls_w101 : Cond.stringRef RX3 101 "no such object" ∈ lw_tbl := by decide +kernel
theorem ls_w106 : Cond.stringRef RX3 106 "n is not 1 .. 64" ∈ lw_tbl := by decide +kernel
theorem ls_w108 : Cond.stringRef RX3 108 "there is a cycle" ∈ lw_tbl := by decide +kernel
theorem ls_w119 : Cond.stringRef RX3 119 "n is not 0 .. 5000" ∈ lw_tbl := by decide +kernel
theorem ls_w127 : Cond.stringRef RX3 127 "there is no cycle" ∈ lw_tbl := by decide +kernel
theorem ls_w142 : Cond.stringRef RX3 142 "no quiet cycle is the latest, or it no longer holds" ∈ lw_tbl := by decide +kernel
theorem ls_w147 : Cond.stringRef RX3 147 "no cycle was finished, or it no longer holds" ∈ lw_tbl := by decide +kernel
theorem ls_w164 : Cond.stringRef RX3 164 "what is not 0 .. 5" ∈ lw_tbl := by decide +kernel
theorem ls_X {p : Program} {s : State} {m : MethodId} {meth : Method} {c : Code} {b L : Nat} {xs : Nat → Int32} (C0 : lw_At p s m meth c b L xs) : xz_P (fun q : Nat => s.heap.size ≤ q) s s.heap := by
  obtain ⟨hx, hb, hr, hml, hown0, hts0, hXs, hbl, hlocks, hgv⟩ := C0
  have hs := flat_of_before _ hgv
  have hA : ∀ a : Nat, a < s.heap.size → ¬ (fun q : Nat => s.heap.size ≤ q) a := fun a h => Nat.not_le.mpr h
  refine ⟨fun w hw => va_tabs (u := s) (xz_on (List.mem_filter.mp hw).2) rfl (hts0 w (List.mem_filter.mp hw).1), ?_, ?_, ?_⟩
  · intro q hq
    simp only [xz_str, List.mem_cons, List.not_mem_nil, or_false] at hq
    rcases hq with rfl | rfl | rfl | rfl | rfl | rfl | rfl | rfl | rfl | rfl | rfl | rfl | rfl
    · exact ls_str (hts0 _ ls_w51) (hs _ (by decide +kernel)) rfl
    · exact ls_str (hts0 _ ls_w62) (hs _ (by decide +kernel)) rfl
    · exact ls_str (hts0 _ ls_w75) (hs _ (by decide +kernel)) rfl
    · exact ls_str (hts0 _ ls_w82) (hs _ (by decide +kernel)) rfl
    · exact ls_str (hts0 _ ls_w99) (hs _ (by decide +kernel)) rfl
    · exact ls_str (hts0 _ ls_w101) (hs _ (by decide +kernel)) rfl
    · exact ls_str (hts0 _ ls_w106) (hs _ (by decide +kernel)) rfl
    · exact ls_str (hts0 _ ls_w108) (hs _ (by decide +kernel)) rfl
    · exact ls_str (hts0 _ ls_w119) (hs _ (by decide +kernel)) rfl
    · exact ls_str (hts0 _ ls_w127) (hs _ (by decide +kernel)) rfl
    · exact ls_str (hts0 _ ls_w142) (hs _ (by decide +kernel)) rfl
    · exact ls_str (hts0 _ ls_w147) (hs _ (by decide +kernel)) rfl
    · exact ls_str (hts0 _ ls_w164) (hs _ (by decide +kernel)) rfl
  · exact vx_Zqof (hts0 _ (by decide +kernel)) (hts0 _ (by decide +kernel)) (hs _ (by decide +kernel)) hA
  · exact vx_Zqof (hts0 _ (by decide +kernel)) (hts0 _ (by decide +kernel)) (hs _ (by decide +kernel)) hA
theorem ls_N {p : Program} {s : State} {m : MethodId} {meth : Method} {c : Code} {b L : Nat} {xs : Nat → Int32} (C0 : lw_At p s m meth c b L xs) : xz_N s := by
  obtain ⟨hx, hb, hr, hml, hown0, hts0, hXs, hbl, hlocks, hgv⟩ := C0
  have hs := flat_of_before _ hgv
  exact ⟨va_Nc.of (hs _ (by decide +kernel)), va_Nc.of (hs _ (by decide +kernel))⟩
