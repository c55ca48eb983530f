/-! WHAT A THROW ASKS beside the good words: words of castable and declares, the class's String constants, two statics of Throwable -/
def xz_c (w : Cond) : Bool := match w with
  | .castable _ _ => true
  | .declares _ => true
  | _ => false
def xz_B : List Cond := lw_tbl.filter xz_c
def xz_W (U : State) : Prop := ∀ w ∈ xz_B, w.before #[] U = true
theorem xz_on {w : Cond} (h : xz_c w = true) : w.onTables = true := by
  cases w <;> first | rfl | (simp [xz_c] at h)
theorem xz_W.moved {u U : State} (hvm : u.vm.Alike U.vm) (h : xz_W u) : xz_W U := by
  intro w hw
  have hc : xz_c w = true := (List.mem_filter.mp hw).2
  have h1 : w.before #[] (u.setVm U.vm) = true := by
    have h0 := h w hw
    cases w <;> first | (simp [xz_c] at hc; done) | (rw [Cond.castable_setVm hvm]; exact h0) | (rw [Cond.declares_setVm hvm]; exact h0)
  exact va_tabs (u := u.setVm U.vm) (xz_on hc) rfl h1
def xz_str : List (Nat × String) := [(51, "fields is not 0 .. 20"), (62, "there are 400 objects"), (75, "no such object or field"), (82, "no such other object"), (99, "no such root"), (101, "no such object"), (106, "n is not 1 .. 64"), (108, "there is a cycle"), (119, "n is not 0 .. 5000"), (127, "there is no cycle"), (142, "no quiet cycle is the latest, or it no longer holds"), (147, "no cycle was finished, or it no longer holds"), (164, "what is not 0 .. 5")]
def xz_T (U : State) : Prop := ∀ q ∈ xz_str, ∃ sa : Nat, vk_R RX3 q.1 q.2 sa U
theorem xz_T.warm {u U : State} (hW : u.WarmedH U.vm) (h : xz_T u) : xz_T U := fun q hq => by
  obtain ⟨sa, h1⟩ := h q hq
  exact ⟨sa, vk_R.warm hW h1⟩
theorem xz_T.same {u U : State} (hv : U.vm = u.vm) (h : xz_T u) : xz_T U := fun q hq => by
  obtain ⟨sa, h1⟩ := h q hq
  exact ⟨sa, vk_R.same hv h1⟩
def xz_P (A : Nat → Prop) (U : State) (H : Heap) : Prop := xz_W U ∧ xz_T U ∧ vx_Zq Bundle.tN "UNASSIGNED_STACK" Bundle.steD A U H ∧ vx_Zq Bundle.tN "SUPPRESSED_SENTINEL" Bundle.listD A U H
theorem xz_P.same {A : Nat → Prop} {u U : State} {H : Heap} (hv : U.vm = u.vm) (h : xz_P A u H) : xz_P A U H := by
  have ha : u.vm.Alike U.vm := by rw [hv]; exact Vm.Alike.refl u.vm
  exact ⟨h.1.moved ha, h.2.1.same hv, h.2.2.1.moved ha, h.2.2.2.moved ha⟩
/-- for a callee: its cells lie among ours, nothing else has changed -/
theorem xz_P.call {A B : Nat → Prop} {s U : State} {H : Heap} {locs : List Loc} (h : xz_P A s s.heap) (hS : va_S A s.heap H locs) (hAB : ∀ q, B q → A q) (hW : s.WarmedH U.vm) (hU : U.heap = H) : xz_P B U U.heap := by
  have hk : ∀ a : Nat, a < s.heap.size → ¬ A a → H[a]? = s.heap[a]? := fun a h1 h2 => hS.2.1 a h1 h2
  refine ⟨h.1.moved hW.alike, h.2.1.warm hW, ?_, ?_⟩
  · rw [hU]; exact ((h.2.2.1.kept hk).narrow hAB).moved hW.alike
  · rw [hU]; exact ((h.2.2.2.kept hk).narrow hAB).moved hW.alike
theorem xz_keep {D : va_G} {cl : List vw_C} {ws : va_W} {H H1 : Heap} (h : va_P D cl ws H) (hk : ∀ q : Nat, q < H.size → H1[q]? = H[q]?) : va_P D cl ws H1 := h.kept (fun k q hq => hk q.1 ((h k q hq).lt))
theorem xz_F {A : Nat → Prop} {s t : State} {H : Heap} {locs : List Loc} (hS : va_S A s.heap H locs) (hz : H.size ≤ t.heap.size) (hk : ∀ q : Nat, q < H.size → t.heap[q]? = H[q]?) : va_F A s t :=
  ⟨Nat.le_trans hS.1 hz, fun q h1 h2 => (hk q (Nat.lt_of_lt_of_le h1 hS.1)).trans (hS.2.1 q h1 h2)⟩
theorem xz_h53 : ∀ w ∈ (vx_atS RX3 53 "java/lang/IllegalArgumentException" ["java/lang/RuntimeException", "java/lang/Exception"]).filter goodWord, w ∈ lw_tbl := by decide +kernel
theorem xz_g53 : ∀ w ∈ (vx_atS RX3 53 "java/lang/IllegalArgumentException" ["java/lang/RuntimeException", "java/lang/Exception"]).filter goodWord, w ∈ gw := fun w h => List.mem_filter.mpr ⟨xz_h53 w h, (List.mem_filter.mp h).2⟩
theorem xz_n53 : ∀ w ∈ (vx_atS RX3 53 "java/lang/IllegalArgumentException" ["java/lang/RuntimeException", "java/lang/Exception"]).filter (fun w => !goodWord w), w ∈ xz_B := by decide +kernel
theorem xz_o53 : ∀ w ∈ Cond.classLink RX3 49 "java/lang/IllegalArgumentException" :: Cond.initialized "java/lang/IllegalArgumentException" :: vx_atS RX3 53 "java/lang/IllegalArgumentException" ["java/lang/RuntimeException", "java/lang/Exception"], vx_ot w = true := by decide +kernel
theorem xz_a53 {args : Array Value} {s : State} (hts : ∀ w ∈ gw, w.before args s = true) (hW : xz_W s) : ∀ w ∈ vx_atS RX3 53 "java/lang/IllegalArgumentException" ["java/lang/RuntimeException", "java/lang/Exception"], w.before args s = true := fun w h => by
  by_cases g : goodWord w = true
  · exact hts w (xz_g53 w (List.mem_filter.mpr ⟨h, g⟩))
  · have hb := xz_n53 w (List.mem_filter.mpr ⟨h, by simp [g]⟩)
    exact va_tabs (xz_on (List.mem_filter.mp hb).2) rfl (hW w hb)
theorem xz_h64 : ∀ w ∈ (vx_atS RX3 64 "java/lang/IllegalStateException" ["java/lang/RuntimeException", "java/lang/Exception"]).filter goodWord, w ∈ lw_tbl := by decide +kernel
theorem xz_g64 : ∀ w ∈ (vx_atS RX3 64 "java/lang/IllegalStateException" ["java/lang/RuntimeException", "java/lang/Exception"]).filter goodWord, w ∈ gw := fun w h => List.mem_filter.mpr ⟨xz_h64 w h, (List.mem_filter.mp h).2⟩
theorem xz_n64 : ∀ w ∈ (vx_atS RX3 64 "java/lang/IllegalStateException" ["java/lang/RuntimeException", "java/lang/Exception"]).filter (fun w => !goodWord w), w ∈ xz_B := by decide +kernel
theorem xz_o64 : ∀ w ∈ Cond.classLink RX3 60 "java/lang/IllegalStateException" :: Cond.initialized "java/lang/IllegalStateException" :: vx_atS RX3 64 "java/lang/IllegalStateException" ["java/lang/RuntimeException", "java/lang/Exception"], vx_ot w = true := by decide +kernel
theorem xz_a64 {args : Array Value} {s : State} (hts : ∀ w ∈ gw, w.before args s = true) (hW : xz_W s) : ∀ w ∈ vx_atS RX3 64 "java/lang/IllegalStateException" ["java/lang/RuntimeException", "java/lang/Exception"], w.before args s = true := fun w h => by
  by_cases g : goodWord w = true
  · exact hts w (xz_g64 w (List.mem_filter.mpr ⟨h, g⟩))
  · have hb := xz_n64 w (List.mem_filter.mpr ⟨h, by simp [g]⟩)
    exact va_tabs (xz_on (List.mem_filter.mp hb).2) rfl (hW w hb)
theorem xz_h77 : ∀ w ∈ ((xz_ow RX3 77).filter vx_no).filter goodWord, w ∈ lw_tbl := by decide +kernel
theorem xz_g77 : ∀ w ∈ ((xz_ow RX3 77).filter vx_no).filter goodWord, w ∈ gw := fun w h => List.mem_filter.mpr ⟨xz_h77 w h, (List.mem_filter.mp h).2⟩
theorem xz_n77 : ∀ w ∈ ((xz_ow RX3 77).filter vx_no).filter (fun w => !goodWord w), w ∈ xz_B := by decide +kernel
theorem xz_o77 : ∀ w ∈ Cond.classLink RX3 73 "java/util/NoSuchElementException" :: Cond.initialized "java/util/NoSuchElementException" :: (xz_ow RX3 77).filter vx_no, vx_ot w = true := by decide +kernel
theorem xz_a77 {args : Array Value} {s : State} (hts : ∀ w ∈ gw, w.before args s = true) (hW : xz_W s) : ∀ w ∈ (xz_ow RX3 77).filter vx_no, w.before args s = true := fun w h => by
  by_cases g : goodWord w = true
  · exact hts w (xz_g77 w (List.mem_filter.mpr ⟨h, g⟩))
  · have hb := xz_n77 w (List.mem_filter.mpr ⟨h, by simp [g]⟩)
    exact va_tabs (xz_on (List.mem_filter.mp hb).2) rfl (hW w hb)
