section
theorem pm_rng_nI {a b u : Nat} (h1 : a ≤ u) (h2 : u ≤ b) (hb : b < 2 ^ 31) : pm_rng a b (nI u) = true := pm_rng_t (nI_le h1 (by omega)) (nI_le h2 hb)
/-- an IllegalStateException is none of the two others -/
def xz_N (U : State) : Prop := va_Nc "java/lang/IllegalStateException" "java/lang/IllegalArgumentException" U ∧ va_Nc "java/lang/IllegalStateException" "java/util/NoSuchElementException" U
theorem xz_N.moved {u U : State} (hvm : u.vm.Alike U.vm) (h : xz_N u) : xz_N U := ⟨h.1.moved hvm, h.2.moved hvm⟩
theorem xz_i1 : Cond.castable "java/lang/IllegalArgumentException" "java/lang/IllegalArgumentException" ∈ xz_B := by decide +kernel
theorem xz_i2 : Cond.castable "java/lang/IllegalStateException" "java/lang/IllegalStateException" ∈ xz_B := by decide +kernel
theorem xz_i3 : Cond.castable "java/util/NoSuchElementException" "java/util/NoSuchElementException" ∈ xz_B := by decide +kernel
theorem xz_kIAE {args : Array Value} {s : State} (h : xz_W s) : (Cond.castable "java/lang/IllegalArgumentException" "java/lang/IllegalArgumentException").before args s = true := va_tabs (u := s) rfl rfl (h _ xz_i1)
theorem xz_kISE {args : Array Value} {s : State} (h : xz_W s) : (Cond.castable "java/lang/IllegalStateException" "java/lang/IllegalStateException").before args s = true := va_tabs (u := s) rfl rfl (h _ xz_i2)
theorem xz_kNSE {args : Array Value} {s : State} (h : xz_W s) : (Cond.castable "java/util/NoSuchElementException" "java/util/NoSuchElementException").before args s = true := va_tabs (u := s) rfl rfl (h _ xz_i3)
end
