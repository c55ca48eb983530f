section
-- ===== PART A: goes FIRST, ahead of the names: the tables' words, and 'selects' of the private methods out of them =====
/-- a private method of a class that the tables say can be made, by its rows of tables_1 -/
def lw_okq (q : MethodName × Nat) : Prop := (q.1.cls ≠ "java/lang/invoke/MethodHandle" ∧ q.1.cls ≠ "java/lang/invoke/VarHandle") ∧ Cond.instantiable q.1.cls q.2 ∈ tables_1 ∧ Cond.privateMethod q.1 ∈ tables_1 ∧ Cond.instanceMethod q.1 ∈ tables_1
theorem lw_p0 : lw_okq (⟨"java/lang/Throwable", "fillInStackTrace", "(I)Ljava/lang/Throwable;"⟩, 6) := ⟨⟨by decide +kernel, by decide +kernel⟩, List.mem_of_getElem? (i := 170) (by decide +kernel), List.mem_of_getElem? (i := 168) (by decide +kernel), List.mem_of_getElem? (i := 169) (by decide +kernel)⟩
theorem lw_p1 : lw_okq (⟨"PileMarker$Marker", "markStep", "()Z"⟩, 9) := ⟨⟨by decide +kernel, by decide +kernel⟩, List.mem_of_getElem? (i := 44) (by decide +kernel), List.mem_of_getElem? (i := 345) (by decide +kernel), List.mem_of_getElem? (i := 346) (by decide +kernel)⟩
theorem lw_p2 : lw_okq (⟨"PileMarker$Marker", "putMark", "(I)V"⟩, 9) := ⟨⟨by decide +kernel, by decide +kernel⟩, List.mem_of_getElem? (i := 44) (by decide +kernel), List.mem_of_getElem? (i := 350) (by decide +kernel), List.mem_of_getElem? (i := 351) (by decide +kernel)⟩
theorem lw_p3 : lw_okq (⟨"PileMarker$Marker", "keepOrForget", "(I)V"⟩, 9) := ⟨⟨by decide +kernel, by decide +kernel⟩, List.mem_of_getElem? (i := 44) (by decide +kernel), List.mem_of_getElem? (i := 354) (by decide +kernel), List.mem_of_getElem? (i := 355) (by decide +kernel)⟩
theorem lw_p4 : lw_okq (⟨"PileMarker$Marker", "markFieldsOf", "(I)V"⟩, 9) := ⟨⟨by decide +kernel, by decide +kernel⟩, List.mem_of_getElem? (i := 44) (by decide +kernel), List.mem_of_getElem? (i := 358) (by decide +kernel), List.mem_of_getElem? (i := 359) (by decide +kernel)⟩
theorem lw_p5 : lw_okq (⟨"PileMarker$Marker", "cleanStep", "()Z"⟩, 9) := ⟨⟨by decide +kernel, by decide +kernel⟩, List.mem_of_getElem? (i := 44) (by decide +kernel), List.mem_of_getElem? (i := 386) (by decide +kernel), List.mem_of_getElem? (i := 387) (by decide +kernel)⟩
theorem lw_p6 : lw_okq (⟨"PileMarker", "latestCycleStillHolds", "()Z"⟩, 8) := ⟨⟨by decide +kernel, by decide +kernel⟩, List.mem_of_getElem? (i := 13) (by decide +kernel), List.mem_of_getElem? (i := 415) (by decide +kernel), List.mem_of_getElem? (i := 416) (by decide +kernel)⟩
theorem lw_p7 : lw_okq (⟨"PileMarker$Reach", "enter", "(I)V"⟩, 4) := ⟨⟨by decide +kernel, by decide +kernel⟩, List.mem_of_getElem? (i := 79) (by decide +kernel), List.mem_of_getElem? (i := 434) (by decide +kernel), List.mem_of_getElem? (i := 435) (by decide +kernel)⟩
theorem lw_p8 : lw_okq (⟨"PileMarker$Reach", "enterFieldsOf", "(I)V"⟩, 4) := ⟨⟨by decide +kernel, by decide +kernel⟩, List.mem_of_getElem? (i := 79) (by decide +kernel), List.mem_of_getElem? (i := 439) (by decide +kernel), List.mem_of_getElem? (i := 440) (by decide +kernel)⟩
theorem lw_p9 : lw_okq (⟨"PileMarkerModel", "goes", "(ZZ)Z"⟩, 15) := ⟨⟨by decide +kernel, by decide +kernel⟩, List.mem_of_getElem? (i := 466) (by decide +kernel), List.mem_of_getElem? (i := 526) (by decide +kernel), List.mem_of_getElem? (i := 527) (by decide +kernel)⟩
theorem lw_p10 : lw_okq (⟨"PileMarkerModel", "changed", "()V"⟩, 15) := ⟨⟨by decide +kernel, by decide +kernel⟩, List.mem_of_getElem? (i := 466) (by decide +kernel), List.mem_of_getElem? (i := 530) (by decide +kernel), List.mem_of_getElem? (i := 531) (by decide +kernel)⟩
theorem lw_p11 : lw_okq (⟨"PileMarkerModel", "isField", "(II)Z"⟩, 15) := ⟨⟨by decide +kernel, by decide +kernel⟩, List.mem_of_getElem? (i := 466) (by decide +kernel), List.mem_of_getElem? (i := 538) (by decide +kernel), List.mem_of_getElem? (i := 539) (by decide +kernel)⟩
theorem lw_p12 : lw_okq (⟨"PileMarkerModel", "isObject", "(I)Z"⟩, 15) := ⟨⟨by decide +kernel, by decide +kernel⟩, List.mem_of_getElem? (i := 466) (by decide +kernel), List.mem_of_getElem? (i := 542) (by decide +kernel), List.mem_of_getElem? (i := 543) (by decide +kernel)⟩
theorem lw_p13 : lw_okq (⟨"PileMarkerModel", "reach", "()I"⟩, 15) := ⟨⟨by decide +kernel, by decide +kernel⟩, List.mem_of_getElem? (i := 466) (by decide +kernel), List.mem_of_getElem? (i := 574) (by decide +kernel), List.mem_of_getElem? (i := 575) (by decide +kernel)⟩
def lw_privs_1 : List (MethodName × Nat) := [(⟨"java/lang/Throwable", "fillInStackTrace", "(I)Ljava/lang/Throwable;"⟩, 6), (⟨"PileMarker$Marker", "markStep", "()Z"⟩, 9), (⟨"PileMarker$Marker", "putMark", "(I)V"⟩, 9), (⟨"PileMarker$Marker", "keepOrForget", "(I)V"⟩, 9), (⟨"PileMarker$Marker", "markFieldsOf", "(I)V"⟩, 9), (⟨"PileMarker$Marker", "cleanStep", "()Z"⟩, 9), (⟨"PileMarker", "latestCycleStillHolds", "()Z"⟩, 8), (⟨"PileMarker$Reach", "enter", "(I)V"⟩, 4), (⟨"PileMarker$Reach", "enterFieldsOf", "(I)V"⟩, 4), (⟨"PileMarkerModel", "goes", "(ZZ)Z"⟩, 15), (⟨"PileMarkerModel", "changed", "()V"⟩, 15), (⟨"PileMarkerModel", "isField", "(II)Z"⟩, 15), (⟨"PileMarkerModel", "isObject", "(I)Z"⟩, 15), (⟨"PileMarkerModel", "reach", "()I"⟩, 15)]
theorem lw_r1 : ∀ q ∈ lw_privs_1, lw_okq q := List.forall_mem_cons.mpr ⟨lw_p0, List.forall_mem_cons.mpr ⟨lw_p1, List.forall_mem_cons.mpr ⟨lw_p2, List.forall_mem_cons.mpr ⟨lw_p3, List.forall_mem_cons.mpr ⟨lw_p4, List.forall_mem_cons.mpr ⟨lw_p5, List.forall_mem_cons.mpr ⟨lw_p6, List.forall_mem_cons.mpr ⟨lw_p7, List.forall_mem_cons.mpr ⟨lw_p8, List.forall_mem_cons.mpr ⟨lw_p9, List.forall_mem_cons.mpr ⟨lw_p10, List.forall_mem_cons.mpr ⟨lw_p11, List.forall_mem_cons.mpr ⟨lw_p12, List.forall_mem_cons.mpr ⟨lw_p13, fun _ h => absurd h List.not_mem_nil⟩⟩⟩⟩⟩⟩⟩⟩⟩⟩⟩⟩⟩⟩
def lw_privs : List (MethodName × Nat) := lw_privs_1
def lw_tbl : List Cond := k2_sels lw_privs ++ tables_1
theorem lw_privs_ok : ∀ q ∈ lw_privs, lw_okq q := lw_r1
end
section
/-! ===== BEGIN words of one list among another's, by their places ===== -/
theorem goodIn_r {big : List Cond} (ws : List Cond) (ps : List Nat) (hp : ws = ps.filterMap (fun i => big[i]?)) (h : ws.all goodWord = true) : GoodIn big ws := by
  intro w hw
  have h1 := List.all_eq_true.mp h w hw
  rw [hp] at hw
  obtain ⟨i, -, hi⟩ := List.mem_filterMap.mp hw
  have hm : w ∈ big := by first | exact List.mem_of_getElem? hi | exact List.getElem?_mem hi
  exact ⟨hm, good_of_word h1⟩
theorem goodIn_app {big a b : List Cond} (ha : GoodIn big a) (hb : GoodIn big b) : GoodIn big (a ++ b) := fun w h => (List.mem_append.mp h).elim (ha w) (hb w)
theorem goodIn_ca {big a b : List Cond} {c : Cond} (ha : GoodIn big (c :: a)) (hb : GoodIn big b) : GoodIn big (c :: (a ++ b)) := fun w h => (List.mem_cons.mp h).elim (fun e => ha w (List.mem_cons.mpr (Or.inl e))) (fun h => (List.mem_append.mp h).elim (fun h => ha w (List.mem_cons.mpr (Or.inr h))) (hb w))
theorem goodIn_sub {big ws : List Cond} (hm : ∀ w ∈ ws, w ∈ big) (h : ws.all goodWord = true) : GoodIn big ws := fun w hw => ⟨hm w hw, good_of_word (List.all_eq_true.mp h w hw)⟩
/-! ===== END ===== -/

/-! ===== BEGIN exceptions that leave a method, and their catching by the caller (launches without stack traces) ===== -/
section VXA
/-! The laws vx_back, vx_callV, vx_callS, vx_callSW, vx_throw0, vx_throwS follow proofs of the library, with one case more: JvmDerived/Free/Laws.lean (Back.of_free), Shelf42/LK1.lean (callV, callS), Shelf/KitTraced.lean (throwNew0V, throwNewS). -/
/-- where a method has thrown q: the class by its name, the cell, what was written, the world -/
def vx_T (XC : String → State → State → Prop) (st : State) (q : Addr) (t : State) (mc ms : Nat) (free : Addr → Prop) : Prop :=
  ∃ (E : String) (ce : Cell) (L : List Loc), XC E st t ∧ t.heap[q]? = some ce ∧ ce.vm = .none ∧ st.vm.findClass E = some ce.cls ∧ st.WarmedH t.vm ∧ st.sameButNew ({ t with vm := st.vm } : State) L mc ms ∧ ∀ z ∈ L, free z.base
def vx_Q (Qc : Array Value → State → Outcome → State → Prop) (XC : String → State → State → Prop) (mc ms : Nat) (free : Addr → Prop) : Array Value → State → Outcome → State → Prop := fun a st o t =>
  (Qc a st o t ∧ ∃ L, FrameEnd st o t L mc ms ∧ ∀ q ∈ L, free q.base) ∨ ∃ q, o = .threw q ∧ vx_T XC st q t mc ms free
/-- a callee that returns or throws -/
def vx_Met (l : Launch) (y : MethodName) (ws : List Cond) (rm : Room) (Pc : Array Value → State → Prop) (Qc : Array Value → State → Outcome → State → Prop) (XC : String → State → State → Prop) (mc ms : Nat) (free : Addr → Prop) : Prop :=
  MetFree l y (headSpec ws rm) Pc (fun _ _ _ _ _ => True) (vx_Q Qc XC mc ms free)
def vx_Post (XC : String → State → State → Prop) (mc ms : Nat) (free : Addr → Prop) : Pt → Array Value → Addr → Pt → Prop := fun A a q B =>
  ∃ (g : JFrame) (mk : MethodId) (t : State) (L : List Loc) (E : String) (ce : Cell), B.U.heap = t.heap ∧ B.U.vm = t.vm ∧ XC E (A.U.calling g mk a) t ∧ t.heap[q]? = some ce ∧ ce.vm = .none ∧ A.U.vm.findClass E = some ce.cls ∧ B.locs = A.locs ++ L ∧ (∀ z ∈ L, free z.base) ∧ B.cells = A.cells + mc ∧ B.slots = A.slots + ms
def vx_Back (l : Launch) (R : Room) (p : Program) (e : Env) (below : List Frame) (s : State) (sargs : Array Value) (y : MethodName) (len W9 : Nat)
    (Pre : Pt → Array Value → Prop) (Post : Pt → Array Value → Option Value → Pt → Prop) (PostX : Pt → Array Value → Addr → Pt → Prop) : Prop :=
  ∀ (m : MethodId) (meth : Method) (c : Code) (A : Pt) (g : JFrame) (ig : Instr) (mk : MethodId) (a : Array Value),
    Stand p l e R s m sargs below meth c A.U A.locs A.cells A.slots → g.method = m → g.locals.size = c.maxLocals → decode c.code g.pc = .ok (ig, len) →
    2 * g.monitorRoom + (g.stack.map fun v => v.category).sum ≤ W9 → A.U.methodNamed? y = some mk → Pre A a →
    (∃ (v : Option Value) (B : Pt), Stand p l e R s m sargs below meth c B.U B.locs B.cells B.slots ∧ Post A a v B ∧
      Steps p.tables e below (doInvoke e (A.U.setTop g) [] mk a).1 (B.U.setTop { g with pc := g.pc + len, stack := v.toList ++ g.stack })) ∨
    (∃ (q : Addr) (B : Pt), Stand p l e R s m sargs below meth c B.U B.locs B.cells B.slots ∧ PostX A a q B ∧
      Steps p.tables e below (doInvoke e (A.U.setTop g) [] mk a).1 ((B.U.setTop g).pushFrame (.throwing q)))
section Payer
variable {l : Launch} {R : Room} {p : Program} {e : Env} {below : List Frame} {s : State} {sargs : Array Value} {y : MethodName} {len W9 : Nat}
theorem vx_back {ws : List Cond} {rm : Room} {Pc : Array Value → State → Prop} {Qc : Array Value → State → Outcome → State → Prop} {XC : String → State → State → Prop} {mc ms : Nat} {free : Addr → Prop} {bytes : ByteArray} {maxL : Nat} {ret : Option FieldType}
    (hM : vx_Met l y ws rm Pc Qc XC mc ms free) (hblind : FrameBlind Pc) (hrc : rm.cells = mc) (hrs : rm.slots = ms)
    (hframes : rm.frames + 1 ≤ R.frames) (hlocals : W9 + (maxL + 11) + rm.locals ≤ R.locals)
    (hws : ∀ w ∈ ws, ∀ a' U, s.WarmedH U.vm → w.before a' U = true) (hcode : Cond.code y bytes maxL ret ∈ ws) (hinit : ∀ a' U, s.WarmedH U.vm → (Cond.initialized y.cls).before a' U = true) :
    vx_Back l R p e below s sargs y len W9 (PreOf R mc ms Pc) (PostOf Qc mc ms free) (vx_Post XC mc ms free) := by
  intro m meth c A g ig mk a X hg hsize hdg hW hn hp
  have h1 : (headSpec ws rm).pre.before a A.U = true := atoms_intro fun w hw => hws w hw _ _ X.warmed
  have h2 : (Cond.code y bytes maxL ret).before a A.U = true := hws _ hcode _ _ X.warmed
  have h3 : (Cond.initialized y.cls).before a A.U = true := hinit _ _ X.warmed
  have h4 : A.cells + (headSpec ws rm).room.cells ≤ R.cells := by rw [show (headSpec ws rm).room.cells = mc from hrc]; exact hp.1
  have h5 : A.slots + (headSpec ws rm).room.slots ≤ R.slots := by rw [show (headSpec ws rm).room.slots = ms from hrs]; exact hp.2.1
  have hPc : Pc a (A.U.calling g mk a) := hblind _ _ _ _ hp.2.2
  obtain ⟨U, Ls, c0, s0⟩ := A
  dsimp only [Pt.U, Pt.locs, Pt.cells, Pt.slots] at h1 h2 h3 h4 h5 X hn hPc ⊢
  obtain ⟨methY, cY, hmY, hcY, -, hlY, -, -, -, -⟩ := Cond.code_spec hn h2
  obtain ⟨kY, hkY, -⟩ := className_of_methodNamed hn
  have hinitY : kY.init = .initialized := Cond.initialized_spec (findClass_of_methodNamed hn) hkY h3
  have h : At U g.method c below := by rw [hg]; exact X.here
  have hlocals9 : W9 + (maxL + 11) + (headSpec ws rm).room.locals ≤ R.locals := hlocals
  have happ : (headSpec ws rm).appliesLoose y e.platform (U.calling g mk a) = true :=
    Spec.appliesLoose_calling (g := g) h hdg hn hkY hinitY
      (X.room_calling (g := g) (R' := (headSpec ws rm).room) hsize hmY hcY hframes (by rw [hlY]; omega) h4 h5) h1
  obtain ⟨mid, hmid⟩ := h.above
  have hfr : (U.setTop g).frames = (.java g :: mid) ++ below := by rw [State.frames_setTop' g h.top, hmid]; rfl
  obtain ⟨o, s₂, hsteps, -, hend, hq⟩ := Steps.callFree hM p X.admits X.cas X.clock (acts := []) hfr happ hPc trivial
  have hq' : vx_Q Qc XC mc ms free a (U.calling g mk a) o s₂ := hq
  rw [State.frames_setTop' g h.top] at hend
  obtain ⟨g₀, hg0⟩ := Option.isSome_iff_exists.mp h.top
  obtain ⟨r, hr⟩ := State.topJava?_eq_some.mp hg0
  have hr' : (({ U with heap := s₂.heap, slotsUsed := s₂.slotsUsed } : State).setVm s₂.vm).frames = .java g₀ :: r := hr
  rcases hq' with ⟨hqc, L, hfe, hL⟩ | ⟨q, rfl, E, ce, L, hx, hce, hcv, hcl, hW₂, hsm, hL⟩
  · obtain ⟨⟨v, rfl⟩, hW₂, e2, q2, q3, q4, q5, q6⟩ := id hfe
    have e3 : s₂ = ({ (U.calling g mk a).setFrames s₂.frames with heap := s₂.heap, slotsUsed := s₂.slotsUsed } : State).setVm s₂.vm := by
      have : s₂ = ({ s₂ with vm := (U.calling g mk a).vm } : State).setVm s₂.vm := rfl
      rw [e2] at this
      exact this
    obtain ⟨c₂, i₂, len₂, hc₂, hd₂, hf₂⟩ := hend
    have hW' : U.WarmedH s₂.vm := hW₂
    have hcc : c₂ = c := by
      have h1 : s₂.code? g.method = U.code? g.method := by
        rw [State.code?_eq, State.code?_eq, hW'.alike.method?]
      exact Option.some.inj (hc₂.symm.trans (h1.trans h.code))
    subst hcc
    have hlen : len₂ = len := by rw [hdg] at hd₂; cases hd₂; rfl
    subst hlen
    have hs₂ : s₂ = (({ U with heap := s₂.heap, slotsUsed := s₂.slotsUsed } : State).setVm s₂.vm).setTop { g with pc := g.pc + len₂, stack := v.toList ++ g.stack } := by
      refine e3.trans ?_
      rw [hf₂, State.calling_eq h.top, State.setFrames_setFrames, State.setTop_of_frames _ hr', hr]
      rfl
    have hsame : U.sameButNew ({ U with heap := s₂.heap, slotsUsed := s₂.slotsUsed } : State) L mc ms := by
      refine ⟨?_, q2, q3, q4, q5, q6⟩
      obtain ⟨t, ht, -⟩ := State.frames_cons hr
      show ({ U with heap := s₂.heap, slotsUsed := s₂.slotsUsed } : State) = { U.setFrames U.frames with heap := s₂.heap, slotsUsed := s₂.slotsUsed }
      rw [State.setFrames_self ht]
    subst hg
    refine Or.inl ⟨v, ⟨(({ U with heap := s₂.heap, slotsUsed := s₂.slotsUsed } : State).setVm s₂.vm), Ls ++ L, c0 + mc, s0 + ms⟩,
      ⟨X.admits, X.cas, X.clock, X.frames, X.room, X.hears, X.method, X.code, (X.here.setHeapUsed s₂.heap s₂.slotsUsed).setVm hW'.alike, X.tail, State.WarmedH.trans X.warmed hW', X.limits, X.bytes, X.same.trans (hsame.setVm s.vm)⟩,
      ⟨g, mk, s₂, L, rfl, rfl, hqc, rfl, hL, rfl, rfl⟩, ?_⟩
    show Steps p.tables e below _ ((({ U with heap := s₂.heap, slotsUsed := s₂.slotsUsed } : State).setVm s₂.vm).setTop { g with pc := g.pc + len₂, stack := v.toList ++ g.stack })
    rw [← hs₂]
    exact hsteps
  · obtain ⟨e2, q2, q3, q4, q5, q6⟩ := id hsm
    have e3 : s₂ = ({ (U.calling g mk a).setFrames s₂.frames with heap := s₂.heap, slotsUsed := s₂.slotsUsed } : State).setVm s₂.vm := by
      have : s₂ = ({ s₂ with vm := (U.calling g mk a).vm } : State).setVm s₂.vm := rfl
      rw [e2] at this
      exact this
    have hf₂ : s₂.frames = .throwing q :: .java g :: U.frames.tail := hend
    have hW' : U.WarmedH s₂.vm := hW₂
    have hs₂ : s₂ = ((({ U with heap := s₂.heap, slotsUsed := s₂.slotsUsed } : State).setVm s₂.vm).setTop g).pushFrame (.throwing q) := by
      refine e3.trans ?_
      rw [hf₂, State.calling_eq h.top, State.setFrames_setFrames, State.pushFrame, State.frames_setTop _ hr', State.setTop_of_frames _ hr', State.setFrames_setFrames, hr]
      rfl
    have hsame : U.sameButNew ({ U with heap := s₂.heap, slotsUsed := s₂.slotsUsed } : State) L mc ms := by
      refine ⟨?_, q2, q3, q4, q5, q6⟩
      obtain ⟨t, ht, -⟩ := State.frames_cons hr
      show ({ U with heap := s₂.heap, slotsUsed := s₂.slotsUsed } : State) = { U.setFrames U.frames with heap := s₂.heap, slotsUsed := s₂.slotsUsed }
      rw [State.setFrames_self ht]
    subst hg
    refine Or.inr ⟨q, ⟨(({ U with heap := s₂.heap, slotsUsed := s₂.slotsUsed } : State).setVm s₂.vm), Ls ++ L, c0 + mc, s0 + ms⟩,
      ⟨X.admits, X.cas, X.clock, X.frames, X.room, X.hears, X.method, X.code, (X.here.setHeapUsed s₂.heap s₂.slotsUsed).setVm hW'.alike, X.tail, State.WarmedH.trans X.warmed hW', X.limits, X.bytes, X.same.trans (hsame.setVm s.vm)⟩,
      ⟨g, mk, s₂, L, E, ce, rfl, rfl, hx, hce, hcv, hcl, rfl, hL, rfl, rfl⟩, ?_⟩
    show Steps p.tables e below _ (((({ U with heap := s₂.heap, slotsUsed := s₂.slotsUsed } : State).setVm s₂.vm).setTop g).pushFrame (.throwing q))
    rw [← hs₂]
    exact hsteps
end Payer
section Calls
variable {p : Program} {l : Launch} {e : Env} {R : Room} {s : State} {m : MethodId} {args : Array Value} {below : List Frame} {meth : Method} {c : Code} {T : State} {locs : List Loc} {cells slots : Nat}
theorem vx_callV (X : Stand p l e R s m args below meth c T locs cells slots) (hexec : p.tables.exec = Jvm.exec) {own C : String} {index : Nat} {y : MethodName} {bytes : ByteArray} {maxL : Nat} {ret : Option FieldType}
    (hown : s.vm.findClass own = some m.cls) (hlink : (Cond.methodLink own index y).before args s = true) (hinst : (Cond.instanceMethod y).before args s = true) (hsel : (Cond.selects C y y).before args s = true)
    (hcode : (Cond.code y bytes maxL ret).before args s = true) (hy : y.cls ≠ "java/lang/invoke/MethodHandle" ∧ y.cls ≠ "java/lang/invoke/VarHandle")
    {W9 : Nat} {Pre : Pt → Array Value → Prop} {Post : Pt → Array Value → Option Value → Pt → Prop} {PostX : Pt → Array Value → Addr → Pt → Prop} (hK : vx_Back l R p e below s args y 3 W9 Pre Post PostX)
    {b : Addr} {cellB : Cell} (hcell : T.heap[b]? = some cellB) (hobj : cellB.vm.isStatics = false) (hcls : s.vm.findClass C = some cellB.cls)
    {g : JFrame} (hg : g.method = m) (hsize : g.locals.size = c.maxLocals) {argsL rest : List Value} (hlen : ∀ sig, parseMethodDescriptor y.desc = some sig → argsL.length = sig.parameters.length)
    (hstack : g.stack = argsL.reverse ++ .ref b :: rest) (hW : 2 * g.monitorRoom + (rest.map fun v => v.category).sum ≤ W9) (hdg : decode c.code g.pc = .ok (.invokevirtual index, 3))
    (hpre : ∀ vm₁, s.WarmedH vm₁ → Pre ⟨T.setVm vm₁, locs, cells, slots⟩ (Value.ref b :: argsL).toArray) :
    (∃ (v : Option Value) (vm₁ : Vm) (B : Pt), s.WarmedH vm₁ ∧ Stand p l e R s m args below meth c B.U B.locs B.cells B.slots ∧ Post ⟨T.setVm vm₁, locs, cells, slots⟩ (Value.ref b :: argsL).toArray v B ∧
      ∀ target, Steps p.tables e below (B.U.setTop { g with pc := g.pc + 3, stack := v.toList ++ rest }) target → Steps p.tables e below (T.setTop g) target) ∨
    (∃ (q : Addr) (vm₁ : Vm) (B : Pt), s.WarmedH vm₁ ∧ Stand p l e R s m args below meth c B.U B.locs B.cells B.slots ∧ PostX ⟨T.setVm vm₁, locs, cells, slots⟩ (Value.ref b :: argsL).toArray q B ∧
      Steps p.tables e below (T.setTop g) ((B.U.setTop { g with stack := rest }).pushFrame (.throwing q))) := by
  obtain ⟨mk, methM, hnamed, hmethM, hstM, habM⟩ := Cond.instanceMethod_spec hinst
  obtain ⟨methM', cM, hmethM', -, -, -, -, -, -, hsigM⟩ := Cond.code_spec hnamed hcode
  cases hmethM.symm.trans hmethM'
  obtain ⟨c2, r2, m2, q1, q2, q3, q4, kP, hkP, hkPi⟩ := Cond.selects_spec hsel
  cases hcls.symm.trans q1
  cases (State.methodFound?_of_named hnamed hy).symm.trans q2
  cases hnamed.symm.trans q3
  have hselP : selectMethod e.platform s.vm cellB.cls mk = .method mk := by rw [Launch.admits_selectMethod X.admits]; exact q4
  obtain ⟨vm₁, X₁, hstep₁⟩ := X.invokevirtual hexec hown hlink hnamed hmethM hstM hkP hkPi hy (a := b) (cell := cellB) hcell
    (fun z h => by rw [h] at hobj; cases hobj) hselP hmethM habM hkP hkPi (g := g) hg (argsL := argsL) (rest := rest) (hlen _ hsigM) hstack hdg
  rcases hK m meth c ⟨T.setVm vm₁, locs, cells, slots⟩ { g with stack := rest } (.invokevirtual index) mk (Value.ref b :: argsL).toArray X₁ hg hsize hdg hW (X₁.named hnamed) (hpre vm₁ X₁.warmed) with ⟨v, B, X', hpost, hsteps⟩ | ⟨q, B, X', hpost, hsteps⟩
  · exact Or.inl ⟨v, vm₁, B, X₁.warmed, X', hpost, fun target h => hstep₁ _ fun acts => by rw [doInvoke_state]; exact hsteps.trans h⟩
  · exact Or.inr ⟨q, vm₁, B, X₁.warmed, X', hpost, hstep₁ _ fun acts => by rw [doInvoke_state]; exact hsteps⟩
theorem vx_callS (X : Stand p l e R s m args below meth c T locs cells slots) (hexec : p.tables.exec = Jvm.exec) {own : String} {index : Nat} {y : MethodName} {bytes : ByteArray} {maxL : Nat} {ret : Option FieldType}
    (hown : s.vm.findClass own = some m.cls) (hlink : (Cond.methodLink own index y).before args s = true) (hstat : (Cond.static y).before args s = true) (hinit : (Cond.initialized y.cls).before args s = true)
    (hcode : (Cond.code y bytes maxL ret).before args s = true) (hy : y.cls ≠ "java/lang/invoke/MethodHandle" ∧ y.cls ≠ "java/lang/invoke/VarHandle")
    {W9 : Nat} {Pre : Pt → Array Value → Prop} {Post : Pt → Array Value → Option Value → Pt → Prop} {PostX : Pt → Array Value → Addr → Pt → Prop} (hK : vx_Back l R p e below s args y 3 W9 Pre Post PostX)
    {g : JFrame} (hg : g.method = m) (hsize : g.locals.size = c.maxLocals) {argsL rest : List Value} (hlen : ∀ sig, parseMethodDescriptor y.desc = some sig → argsL.length = sig.parameters.length)
    (hstack : g.stack = argsL.reverse ++ rest) (hW : 2 * g.monitorRoom + (rest.map fun v => v.category).sum ≤ W9) (hdg : decode c.code g.pc = .ok (.invokestatic index, 3))
    (hpre : ∀ vm₁, s.WarmedH vm₁ → Pre ⟨T.setVm vm₁, locs, cells, slots⟩ argsL.toArray) :
    (∃ (v : Option Value) (vm₁ : Vm) (B : Pt), s.WarmedH vm₁ ∧ Stand p l e R s m args below meth c B.U B.locs B.cells B.slots ∧ Post ⟨T.setVm vm₁, locs, cells, slots⟩ argsL.toArray v B ∧
      ∀ target, Steps p.tables e below (B.U.setTop { g with pc := g.pc + 3, stack := v.toList ++ rest }) target → Steps p.tables e below (T.setTop g) target) ∨
    (∃ (q : Addr) (vm₁ : Vm) (B : Pt), s.WarmedH vm₁ ∧ Stand p l e R s m args below meth c B.U B.locs B.cells B.slots ∧ PostX ⟨T.setVm vm₁, locs, cells, slots⟩ argsL.toArray q B ∧
      Steps p.tables e below (T.setTop g) ((B.U.setTop { g with stack := rest }).pushFrame (.throwing q))) := by
  obtain ⟨mk, hnamed⟩ := Cond.code_named hcode
  obtain ⟨methM, cM, hmethM, -, -, -, -, -, -, hsigM⟩ := Cond.code_spec hnamed hcode
  have hstatic : methM.isStatic = true := Cond.static_spec hnamed hmethM hstat
  obtain ⟨kP, hkP, -⟩ := className_of_methodNamed hnamed
  have hinitP : kP.init = .initialized := Cond.initialized_spec (findClass_of_methodNamed hnamed) hkP hinit
  obtain ⟨vm₁, X₁, hstep₁⟩ := X.invokestatic hexec hown hlink hnamed hmethM hstatic hkP hinitP hy (g := g) hg (argsL := argsL) (rest := rest) (hlen _ hsigM) hstack hdg
  rcases hK m meth c ⟨T.setVm vm₁, locs, cells, slots⟩ { g with stack := rest } (.invokestatic index) mk argsL.toArray X₁ hg hsize hdg hW (X₁.named hnamed) (hpre vm₁ X₁.warmed) with ⟨v, B, X', hpost, hsteps⟩ | ⟨q, B, X', hpost, hsteps⟩
  · exact Or.inl ⟨v, vm₁, B, X₁.warmed, X', hpost, fun target h => hstep₁ _ fun acts => by rw [doInvoke_state]; exact hsteps.trans h⟩
  · exact Or.inr ⟨q, vm₁, B, X₁.warmed, X', hpost, hstep₁ _ fun acts => by rw [doInvoke_state]; exact hsteps⟩
end Calls
theorem vx_cls {s : State} {T : State} {vm₁ : Vm} {E : String} {k : ClassId} (hW : s.WarmedH vm₁) (h : (T.setVm vm₁).vm.findClass E = some k) : s.vm.findClass E = some k := by
  have h1 : vm₁.findClass E = some k := h
  rw [hW.alike.findClass] at h1
  exact h1
/-- the method's frame g, with q thrown over it -/
def vx_W (p : Program) (l : Launch) (e : Env) (R : Room) (s : State) (m : MethodId) (args : Array Value) (below : List Frame) (meth : Method) (c : Code) (H : Heap) (locs : List Loc) (cells slots : Nat) (Q : State → Prop) (g : JFrame) (q : Addr) : Prop :=
  ∀ T : State, T.heap = H → Stand p l e R s m args below meth c T locs cells slots → ∃ t, Steps p.tables e below ((T.setTop g).pushFrame (.throwing q)) t ∧ Q t
def vx_Run (p : Program) (l : Launch) (e : Env) (R : Room) (s : State) (m : MethodId) (args : Array Value) (below : List Frame) (meth : Method) (c : Code) (H : Heap) (locs : List Loc) (cells slots mc ms : Nat) (g : JFrame) (rest : List Value) (Qa : State → Outcome → State → Prop) (XC : String → State → State → Prop) (free : Addr → Prop) : Prop :=
  ∀ T : State, T.heap = H → Stand p l e R s m args below meth c T locs cells slots →
    (∃ (v : Option Value) (st₀ t T' : State) (L : List Loc), st₀.heap = H ∧ Stand p l e R s m args below meth c T' (locs ++ L) (cells + mc) (slots + ms) ∧ (∀ q ∈ L, free q.base) ∧ T'.heap = t.heap ∧ T'.vm = t.vm ∧ Qa st₀ (.returned v) t ∧
      Goes p e below T g T' { g with pc := g.pc + 3, stack := v.toList ++ rest }) ∨
    (∃ (q : Addr) (st₀ t T' : State) (L : List Loc) (E : String) (ce : Cell), st₀.heap = H ∧ Stand p l e R s m args below meth c T' (locs ++ L) (cells + mc) (slots + ms) ∧ (∀ z ∈ L, free z.base) ∧ T'.heap = t.heap ∧ T'.vm = t.vm ∧ XC E st₀ t ∧ t.heap[q]? = some ce ∧ ce.vm = .none ∧ s.vm.findClass E = some ce.cls ∧
      Steps p.tables e below (T.setTop g) ((T'.setTop { g with stack := rest }).pushFrame (.throwing q)))
def vx_X {S : Type} (px : S → Prop) (B : String → S → State → Prop) (A : Nat → Prop) : String → State → State → Prop := fun E st t => ∃ u : S, px u ∧ B E u t ∧ va_F A st t
section Runs
variable {p : Program} {l : Launch} {e : Env} {R : Room} {s : State} {m : MethodId} {args : Array Value} {below : List Frame} {meth : Method} {c : Code} {H : Heap} {locs : List Loc} {cells slots : Nat}
variable {y : MethodName} {bytes cc : ByteArray} {maxL nL mc ms n index : Nat} {ret : Option FieldType} {ws : List Cond} {rm : Room} {Pc : Array Value → State → Prop} {Qc : Array Value → State → Outcome → State → Prop} {XC : String → State → State → Prop} {free : Addr → Prop} {Ts : List Cond} {own C : String} {b : Addr} {As rest : List Value} {g : JFrame}
theorem vx_callBack (cb : CallB R s args own index y bytes maxL ret ws rm mc ms n) (hM : vx_Met l y ws rm Pc Qc XC mc ms free) (hbl : FrameBlind Pc) : vx_Back l R p e below s args y 3 8 (PreOf R mc ms Pc) (PostOf Qc mc ms free) (vx_Post XC mc ms free) := by
  obtain ⟨hrc, hrs, hfr, hlo, hws, hcw, -, hini, -⟩ := cb
  exact vx_back (bytes := bytes) (maxL := maxL) (ret := ret) hM hbl hrc hrs hfr hlo hws hcw (fun a' U hW => word_at hW (Or.inl (by first | rfl | simp [Cond.onTables, Cond.keeps, Cond.steady])) hini)
theorem vx_runV (S : CallFix p m c cc nL s args Ts own) (hM : vx_Met l y ws rm Pc Qc XC mc ms free) (cw : CallW R s args own C index y bytes maxL ret ws rm mc ms n) (hp : PreV s H C b Pc As)
    (hg : g.method = m) (hn : As.length = n) (hsize : g.locals.size = nL) (hstack : g.stack = As.reverse ++ .ref b :: rest) (hW : 2 * g.monitorRoom + (rest.map fun v => v.category).sum ≤ 8) (hdg : decode cc g.pc = .ok (.invokevirtual index, 3)) (hf : cells + mc ≤ R.cells ∧ slots + ms ≤ R.slots) :
    vx_Run p l e R s m args below meth c H locs cells slots mc ms g rest (Qc (Value.ref b :: As).toArray) XC free := by
  have hK : vx_Back l R p e below s args y 3 8 (PreOf R mc ms Pc) (PostOf Qc mc ms free) (vx_Post XC mc ms free) := vx_callBack cw.1 hM hp.1
  obtain ⟨⟨-, -, -, -, -, -, hcode, -, hy, hlen, hl⟩, hin, hse⟩ := cw
  obtain ⟨hx, hb, hml, ho, -⟩ := S
  obtain ⟨-, ⟨cellB, hcB, hoB, hclB⟩, hPc⟩ := hp
  intro T hT X
  rcases vx_callV X hx (C := C) (bytes := bytes) (maxL := maxL) (ret := ret) ho hl hin hse hcode hy hK (by rw [hT]; exact hcB) hoB hclB hg (hsize.trans hml.symm) (argsL := As) (rest := rest) (fun sig h => hn.trans (hlen sig h)) hstack hW (by rw [hb]; exact hdg)
    (fun vm₁ hW₁ => ⟨hf.1, hf.2, hPc (T.setVm vm₁) hT hW₁⟩) with ⟨v, vm₁, ⟨U', l2, c2, s2⟩, hW₁, X', ⟨g', mk, t, L, e1, e2, hq, h1, hL, h2, h3⟩, st⟩ | ⟨q, vm₁, ⟨U', l2, c2, s2⟩, hW₁, X', ⟨g', mk, t, L, E, ce, e1, e2, hq, hce, hcv, hcl, h1, hL, h2, h3⟩, st⟩
  · dsimp only [Pt.U, Pt.locs, Pt.cells, Pt.slots] at X' e1 e2 h1 h2 h3 st
    subst h1; subst h2; subst h3
    exact Or.inl ⟨v, (T.setVm vm₁).calling g' mk (Value.ref b :: As).toArray, t, U', L, hT, X', hL, e1, e2, hq, st⟩
  · dsimp only [Pt.U, Pt.locs, Pt.cells, Pt.slots] at X' e1 e2 h1 h2 h3 st hcl
    subst h1; subst h2; subst h3
    exact Or.inr ⟨q, (T.setVm vm₁).calling g' mk (Value.ref b :: As).toArray, t, U', L, E, ce, hT, X', hL, e1, e2, hq, hce, hcv, vx_cls hW₁ hcl, st⟩
theorem vx_runS (S : CallFix p m c cc nL s args Ts own) (hM : vx_Met l y ws rm Pc Qc XC mc ms free) (cw : CallB R s args own index y bytes maxL ret ws rm mc ms n ∧ (Cond.static y).before args s = true) (hp : PreS s H Pc As)
    (hg : g.method = m) (hn : As.length = n) (hsize : g.locals.size = nL) (hstack : g.stack = As.reverse ++ rest) (hW : 2 * g.monitorRoom + (rest.map fun v => v.category).sum ≤ 8) (hdg : decode cc g.pc = .ok (.invokestatic index, 3)) (hf : cells + mc ≤ R.cells ∧ slots + ms ≤ R.slots) :
    vx_Run p l e R s m args below meth c H locs cells slots mc ms g rest (Qc As.toArray) XC free := by
  have hK : vx_Back l R p e below s args y 3 8 (PreOf R mc ms Pc) (PostOf Qc mc ms free) (vx_Post XC mc ms free) := vx_callBack cw.1 hM hp.1
  obtain ⟨⟨-, -, -, -, -, -, hcode, hini, hy, hlen, hl⟩, hstt⟩ := cw
  obtain ⟨hx, hb, hml, ho, -⟩ := S
  intro T hT X
  rcases vx_callS X hx (bytes := bytes) (maxL := maxL) (ret := ret) ho hl hstt hini hcode hy hK hg (hsize.trans hml.symm) (argsL := As) (rest := rest) (fun sig h => hn.trans (hlen sig h)) hstack hW (by rw [hb]; exact hdg)
    (fun vm₁ hW₁ => ⟨hf.1, hf.2, hp.2 (T.setVm vm₁) hT hW₁⟩) with ⟨v, vm₁, ⟨U', l2, c2, s2⟩, hW₁, X', ⟨g', mk, t, L, e1, e2, hq, h1, hL, h2, h3⟩, st⟩ | ⟨q, vm₁, ⟨U', l2, c2, s2⟩, hW₁, X', ⟨g', mk, t, L, E, ce, e1, e2, hq, hce, hcv, hcl, h1, hL, h2, h3⟩, st⟩
  · dsimp only [Pt.U, Pt.locs, Pt.cells, Pt.slots] at X' e1 e2 h1 h2 h3 st
    subst h1; subst h2; subst h3
    exact Or.inl ⟨v, (T.setVm vm₁).calling g' mk As.toArray, t, U', L, hT, X', hL, e1, e2, hq, st⟩
  · dsimp only [Pt.U, Pt.locs, Pt.cells, Pt.slots] at X' e1 e2 h1 h2 h3 st hcl
    subst h1; subst h2; subst h3
    exact Or.inr ⟨q, (T.setVm vm₁).calling g' mk As.toArray, t, U', L, E, ce, hT, X', hL, e1, e2, hq, hce, hcv, vx_cls hW₁ hcl, st⟩
end Runs
section Rows
variable {p : Program} {l : Launch} {e : Env} {R : Room} {s : State} {m : MethodId} {args : Array Value} {below : List Frame} {meth : Method} {c : Code} {H : Heap} {locs : List Loc} {cells slots : Nat} {Q : State → Prop}
variable {mc ms : Nat} {free : Addr → Prop} {A0 A1 : Nat → Prop} {H0 : Heap} {a : Array Value} {pc : Nat} {ls : Array Slot} {st0 rest : List Value}
theorem vx_keep {st₀ t T' : State} {L : List Loc} (h0 : st₀.heap = H) (e1 : T'.heap = t.heap) (hS : va_S A0 H0 H locs) (hA : ∀ q, q < H.size → A1 q → A0 q) (hf : ∀ q, free q → A0 q) (hL : ∀ q ∈ L, free q.base) (hF : va_F A1 st₀ t) :
    H.size ≤ T'.heap.size ∧ (∀ q : Nat, q < H.size → ¬ A1 q → T'.heap[q]? = H[q]?) ∧ va_S A0 H0 T'.heap (locs ++ L) := by
  obtain ⟨hz, hk⟩ := hF
  rw [h0] at hz hk
  exact ⟨by rw [e1]; exact hz, fun q h1 h2 => by rw [e1]; exact hk q h1 h2,
    ⟨Nat.le_trans hS.1 (by rw [e1]; exact hz), fun q h1 h2 => by rw [e1, hk q (Nat.lt_of_lt_of_le h1 hS.1) (fun z => h2 (hA q (Nat.lt_of_lt_of_le h1 hS.1) z))]; exact hS.2.1 q h1 h2, fun q hq => by
      rcases List.mem_append.mp hq with h | h
      · exact hS.2.2 q h
      · exact hf _ (hL q h)⟩⟩
theorem vx_calli {S SX : Type} {post : Int32 → S → Prop} {px : SX → Prop} {B : S → State → Prop} {BX : String → SX → State → Prop} {AX : Nat → Prop} (hr : vx_Run p l e R s m args below meth c H locs cells slots mc ms (F0 m pc ls st0) rest (va_Qi post B A1 a) (vx_X px BX AX) free) (hS : va_S A0 H0 H locs) (hA : ∀ q, q < H.size → A1 q → A0 q) (hf : ∀ q, free q → A0 q) (hAX : ∀ q, q < H.size → AX q → A0 q)
    (kx : ∀ (E : String) (ce : Cell) (q9 : Addr) (u : SX) (t : State) (H1 : Heap) (locs1 : List Loc), t.heap = H1 → s.vm.Alike t.vm → px u → BX E u t → H.size ≤ H1.size → (∀ q : Nat, q < H.size → ¬ AX q → H1[q]? = H[q]?) → va_S A0 H0 H1 locs1 → H1[q9]? = some ce → ce.vm = .none → s.vm.findClass E = some ce.cls → vx_W p l e R s m args below meth c H1 locs1 (cells + mc) (slots + ms) Q (F0 m pc ls rest) q9)
    (kk : ∀ (r : Int32) (u : S) (t : State) (H1 : Heap) (locs1 : List Loc), t.heap = H1 → s.vm.Alike t.vm → post r u → B u t → H.size ≤ H1.size → (∀ q : Nat, q < H.size → ¬ A1 q → H1[q]? = H[q]?) → va_S A0 H0 H1 locs1 → W p l e R s m args below meth c H1 locs1 (cells + mc) (slots + ms) Q (F0 m (pc + 3) ls (.int r :: rest))) : W p l e R s m args below meth c H locs cells slots Q (F0 m pc ls st0) := by
  intro T hT X
  rcases hr T hT X with ⟨v, st₀, t, T', L, h0, X', hL, e1, e2, ⟨⟨r, u, hv, hp, hb⟩, hF⟩, st⟩ | ⟨q, st₀, t, T', L, E, ce, h0, X', hL, e1, e2, ⟨u, hp, hb, hF⟩, hce, hcv, hcl, st⟩
  · cases hv
    obtain ⟨k1, k2, k3⟩ := vx_keep h0 e1 hS hA hf hL hF
    obtain ⟨t2, a1, b1⟩ := kk r u t T'.heap (locs ++ L) e1.symm (by rw [← e2]; exact X'.warmed.alike) hp hb k1 k2 k3 T' rfl X'
    exact ⟨t2, st t2 a1, b1⟩
  · obtain ⟨k1, k2, k3⟩ := vx_keep h0 e1 hS hAX hf hL hF
    obtain ⟨t2, a1, b1⟩ := kx E ce q u t T'.heap (locs ++ L) e1.symm (by rw [← e2]; exact X'.warmed.alike) hp hb k1 k2 k3 (by rw [e1]; exact hce) hcv hcl T' rfl X'
    exact ⟨t2, st.trans a1, b1⟩
theorem vx_calll {S SX : Type} {post : Int64 → S → Prop} {px : SX → Prop} {B : S → State → Prop} {BX : String → SX → State → Prop} {AX : Nat → Prop} (hr : vx_Run p l e R s m args below meth c H locs cells slots mc ms (F0 m pc ls st0) rest (va_Ql post B A1 a) (vx_X px BX AX) free) (hS : va_S A0 H0 H locs) (hA : ∀ q, q < H.size → A1 q → A0 q) (hf : ∀ q, free q → A0 q) (hAX : ∀ q, q < H.size → AX q → A0 q)
    (kx : ∀ (E : String) (ce : Cell) (q9 : Addr) (u : SX) (t : State) (H1 : Heap) (locs1 : List Loc), t.heap = H1 → s.vm.Alike t.vm → px u → BX E u t → H.size ≤ H1.size → (∀ q : Nat, q < H.size → ¬ AX q → H1[q]? = H[q]?) → va_S A0 H0 H1 locs1 → H1[q9]? = some ce → ce.vm = .none → s.vm.findClass E = some ce.cls → vx_W p l e R s m args below meth c H1 locs1 (cells + mc) (slots + ms) Q (F0 m pc ls rest) q9)
    (kk : ∀ (r : Int64) (u : S) (t : State) (H1 : Heap) (locs1 : List Loc), t.heap = H1 → s.vm.Alike t.vm → post r u → B u t → H.size ≤ H1.size → (∀ q : Nat, q < H.size → ¬ A1 q → H1[q]? = H[q]?) → va_S A0 H0 H1 locs1 → W p l e R s m args below meth c H1 locs1 (cells + mc) (slots + ms) Q (F0 m (pc + 3) ls (.long r :: rest))) : W p l e R s m args below meth c H locs cells slots Q (F0 m pc ls st0) := by
  intro T hT X
  rcases hr T hT X with ⟨v, st₀, t, T', L, h0, X', hL, e1, e2, ⟨⟨r, u, hv, hp, hb⟩, hF⟩, st⟩ | ⟨q, st₀, t, T', L, E, ce, h0, X', hL, e1, e2, ⟨u, hp, hb, hF⟩, hce, hcv, hcl, st⟩
  · cases hv
    obtain ⟨k1, k2, k3⟩ := vx_keep h0 e1 hS hA hf hL hF
    obtain ⟨t2, a1, b1⟩ := kk r u t T'.heap (locs ++ L) e1.symm (by rw [← e2]; exact X'.warmed.alike) hp hb k1 k2 k3 T' rfl X'
    exact ⟨t2, st t2 a1, b1⟩
  · obtain ⟨k1, k2, k3⟩ := vx_keep h0 e1 hS hAX hf hL hF
    obtain ⟨t2, a1, b1⟩ := kx E ce q u t T'.heap (locs ++ L) e1.symm (by rw [← e2]; exact X'.warmed.alike) hp hb k1 k2 k3 (by rw [e1]; exact hce) hcv hcl T' rfl X'
    exact ⟨t2, st.trans a1, b1⟩
theorem vx_callf {S SX : Type} {post : UInt32 → S → Prop} {px : SX → Prop} {B : S → State → Prop} {BX : String → SX → State → Prop} {AX : Nat → Prop} (hr : vx_Run p l e R s m args below meth c H locs cells slots mc ms (F0 m pc ls st0) rest (va_Qf post B A1 a) (vx_X px BX AX) free) (hS : va_S A0 H0 H locs) (hA : ∀ q, q < H.size → A1 q → A0 q) (hf : ∀ q, free q → A0 q) (hAX : ∀ q, q < H.size → AX q → A0 q)
    (kx : ∀ (E : String) (ce : Cell) (q9 : Addr) (u : SX) (t : State) (H1 : Heap) (locs1 : List Loc), t.heap = H1 → s.vm.Alike t.vm → px u → BX E u t → H.size ≤ H1.size → (∀ q : Nat, q < H.size → ¬ AX q → H1[q]? = H[q]?) → va_S A0 H0 H1 locs1 → H1[q9]? = some ce → ce.vm = .none → s.vm.findClass E = some ce.cls → vx_W p l e R s m args below meth c H1 locs1 (cells + mc) (slots + ms) Q (F0 m pc ls rest) q9)
    (kk : ∀ (r : UInt32) (u : S) (t : State) (H1 : Heap) (locs1 : List Loc), t.heap = H1 → s.vm.Alike t.vm → post r u → B u t → H.size ≤ H1.size → (∀ q : Nat, q < H.size → ¬ A1 q → H1[q]? = H[q]?) → va_S A0 H0 H1 locs1 → W p l e R s m args below meth c H1 locs1 (cells + mc) (slots + ms) Q (F0 m (pc + 3) ls (.float r :: rest))) : W p l e R s m args below meth c H locs cells slots Q (F0 m pc ls st0) := by
  intro T hT X
  rcases hr T hT X with ⟨v, st₀, t, T', L, h0, X', hL, e1, e2, ⟨⟨r, u, hv, hp, hb⟩, hF⟩, st⟩ | ⟨q, st₀, t, T', L, E, ce, h0, X', hL, e1, e2, ⟨u, hp, hb, hF⟩, hce, hcv, hcl, st⟩
  · cases hv
    obtain ⟨k1, k2, k3⟩ := vx_keep h0 e1 hS hA hf hL hF
    obtain ⟨t2, a1, b1⟩ := kk r u t T'.heap (locs ++ L) e1.symm (by rw [← e2]; exact X'.warmed.alike) hp hb k1 k2 k3 T' rfl X'
    exact ⟨t2, st t2 a1, b1⟩
  · obtain ⟨k1, k2, k3⟩ := vx_keep h0 e1 hS hAX hf hL hF
    obtain ⟨t2, a1, b1⟩ := kx E ce q u t T'.heap (locs ++ L) e1.symm (by rw [← e2]; exact X'.warmed.alike) hp hb k1 k2 k3 (by rw [e1]; exact hce) hcv hcl T' rfl X'
    exact ⟨t2, st.trans a1, b1⟩
theorem vx_calld {S SX : Type} {post : UInt64 → S → Prop} {px : SX → Prop} {B : S → State → Prop} {BX : String → SX → State → Prop} {AX : Nat → Prop} (hr : vx_Run p l e R s m args below meth c H locs cells slots mc ms (F0 m pc ls st0) rest (va_Qd post B A1 a) (vx_X px BX AX) free) (hS : va_S A0 H0 H locs) (hA : ∀ q, q < H.size → A1 q → A0 q) (hf : ∀ q, free q → A0 q) (hAX : ∀ q, q < H.size → AX q → A0 q)
    (kx : ∀ (E : String) (ce : Cell) (q9 : Addr) (u : SX) (t : State) (H1 : Heap) (locs1 : List Loc), t.heap = H1 → s.vm.Alike t.vm → px u → BX E u t → H.size ≤ H1.size → (∀ q : Nat, q < H.size → ¬ AX q → H1[q]? = H[q]?) → va_S A0 H0 H1 locs1 → H1[q9]? = some ce → ce.vm = .none → s.vm.findClass E = some ce.cls → vx_W p l e R s m args below meth c H1 locs1 (cells + mc) (slots + ms) Q (F0 m pc ls rest) q9)
    (kk : ∀ (r : UInt64) (u : S) (t : State) (H1 : Heap) (locs1 : List Loc), t.heap = H1 → s.vm.Alike t.vm → post r u → B u t → H.size ≤ H1.size → (∀ q : Nat, q < H.size → ¬ A1 q → H1[q]? = H[q]?) → va_S A0 H0 H1 locs1 → W p l e R s m args below meth c H1 locs1 (cells + mc) (slots + ms) Q (F0 m (pc + 3) ls (.double r :: rest))) : W p l e R s m args below meth c H locs cells slots Q (F0 m pc ls st0) := by
  intro T hT X
  rcases hr T hT X with ⟨v, st₀, t, T', L, h0, X', hL, e1, e2, ⟨⟨r, u, hv, hp, hb⟩, hF⟩, st⟩ | ⟨q, st₀, t, T', L, E, ce, h0, X', hL, e1, e2, ⟨u, hp, hb, hF⟩, hce, hcv, hcl, st⟩
  · cases hv
    obtain ⟨k1, k2, k3⟩ := vx_keep h0 e1 hS hA hf hL hF
    obtain ⟨t2, a1, b1⟩ := kk r u t T'.heap (locs ++ L) e1.symm (by rw [← e2]; exact X'.warmed.alike) hp hb k1 k2 k3 T' rfl X'
    exact ⟨t2, st t2 a1, b1⟩
  · obtain ⟨k1, k2, k3⟩ := vx_keep h0 e1 hS hAX hf hL hF
    obtain ⟨t2, a1, b1⟩ := kx E ce q u t T'.heap (locs ++ L) e1.symm (by rw [← e2]; exact X'.warmed.alike) hp hb k1 k2 k3 (by rw [e1]; exact hce) hcv hcl T' rfl X'
    exact ⟨t2, st.trans a1, b1⟩
theorem vx_callv {S SX : Type} {post : S → Prop} {px : SX → Prop} {B : S → State → Prop} {BX : String → SX → State → Prop} {AX : Nat → Prop} (hr : vx_Run p l e R s m args below meth c H locs cells slots mc ms (F0 m pc ls st0) rest (va_Qv post B A1 a) (vx_X px BX AX) free) (hS : va_S A0 H0 H locs) (hA : ∀ q, q < H.size → A1 q → A0 q) (hf : ∀ q, free q → A0 q) (hAX : ∀ q, q < H.size → AX q → A0 q)
    (kx : ∀ (E : String) (ce : Cell) (q9 : Addr) (u : SX) (t : State) (H1 : Heap) (locs1 : List Loc), t.heap = H1 → s.vm.Alike t.vm → px u → BX E u t → H.size ≤ H1.size → (∀ q : Nat, q < H.size → ¬ AX q → H1[q]? = H[q]?) → va_S A0 H0 H1 locs1 → H1[q9]? = some ce → ce.vm = .none → s.vm.findClass E = some ce.cls → vx_W p l e R s m args below meth c H1 locs1 (cells + mc) (slots + ms) Q (F0 m pc ls rest) q9)
    (kk : ∀ (u : S) (t : State) (H1 : Heap) (locs1 : List Loc), t.heap = H1 → s.vm.Alike t.vm → post u → B u t → H.size ≤ H1.size → (∀ q : Nat, q < H.size → ¬ A1 q → H1[q]? = H[q]?) → va_S A0 H0 H1 locs1 → W p l e R s m args below meth c H1 locs1 (cells + mc) (slots + ms) Q (F0 m (pc + 3) ls (rest))) : W p l e R s m args below meth c H locs cells slots Q (F0 m pc ls st0) := by
  intro T hT X
  rcases hr T hT X with ⟨v, st₀, t, T', L, h0, X', hL, e1, e2, ⟨⟨u, hv, hp, hb⟩, hF⟩, st⟩ | ⟨q, st₀, t, T', L, E, ce, h0, X', hL, e1, e2, ⟨u, hp, hb, hF⟩, hce, hcv, hcl, st⟩
  · cases hv
    obtain ⟨k1, k2, k3⟩ := vx_keep h0 e1 hS hA hf hL hF
    obtain ⟨t2, a1, b1⟩ := kk u t T'.heap (locs ++ L) e1.symm (by rw [← e2]; exact X'.warmed.alike) hp hb k1 k2 k3 T' rfl X'
    exact ⟨t2, st t2 a1, b1⟩
  · obtain ⟨k1, k2, k3⟩ := vx_keep h0 e1 hS hAX hf hL hF
    obtain ⟨t2, a1, b1⟩ := kx E ce q u t T'.heap (locs ++ L) e1.symm (by rw [← e2]; exact X'.warmed.alike) hp hb k1 k2 k3 (by rw [e1]; exact hce) hcv hcl T' rfl X'
    exact ⟨t2, st.trans a1, b1⟩
/-- caught by the row x of this method's table; the rows ahead don't take it -/
theorem vx_catch {own name : String} {E : String} {ce : Cell} {q : Addr} (hown : s.vm.findClass own = some m.cls) (pre : List ExceptionTableEntry) (x : ExceptionTableEntry) (suf : List ExceptionTableEntry) (hsplit : c.exceptionTable.toList = pre ++ x :: suf)
    (hpass : ∀ z ∈ pre, covers z pc = false ∨ (z.catchType ≠ 0 ∧ ∃ nm : String, (Cond.classLink own z.catchType nm).before args s = true ∧ va_Nc E nm s)) (hx : covers x pc = true) (h0 : x.catchType ≠ 0)
    (hlink : (Cond.classLink own x.catchType name).before args s = true) (hcast : (Cond.castable E name).before args s = true) (hcell : H[q]? = some ce) (hv : ce.vm = .none) (hcl : s.vm.findClass E = some ce.cls)
    (kk : W p l e R s m args below meth c H locs cells slots Q (F0 m x.handlerPc ls [.ref q])) : vx_W p l e R s m args below meth c H locs cells slots Q (F0 m pc ls rest) q := by
  intro T hT X
  have hpl : e.platform.magicAccessors = ({} : Platform).magicAccessors := by rw [X.admits.platform]
  obtain ⟨c3, c4, hc3, hc4, hasg⟩ := Cond.castable_spec hcast
  cases Option.some.inj (hc3.symm.trans hcl)
  obtain ⟨c5, hc5, hcl5⟩ := Cond.classLink_spec hown hlink e.platform hpl
  cases Option.some.inj (hc4.symm.trans hc5)
  obtain ⟨vm', X', st⟩ := X.thenCaughtThrough q (g := F0 m pc ls rest) rfl (Steps.refl _) (by rw [hT]; exact hcell) (by rw [hv]; rfl) (by obtain ⟨k9, h9, -⟩ := Vm.findClass_spec hcl; exact ⟨k9, h9⟩) pre x suf hsplit
    (fun z hz => by
      rcases hpass z hz with h | ⟨hz0, nm, hl1, hn1⟩
      · exact Or.inl h
      · obtain ⟨c6, hc6, hcl6⟩ := Cond.classLink_spec hown hl1 e.platform hpl
        obtain ⟨a8, b8, h1, h2, h3⟩ := hn1
        cases Option.some.inj (h1.symm.trans hcl)
        cases Option.some.inj (h2.symm.trans hc6)
        exact Or.inr ⟨hz0, _, hcl6, h3⟩) hx (Or.inr ⟨h0, c4, hcl5, hasg⟩)
  obtain ⟨t, a1, b1⟩ := kk (T.setVm vm') hT X'
  exact ⟨t, st.trans a1, b1⟩
end Rows
section Ends
variable {p : Program} {l : Launch} {e : Env} {R : Room} {s : State} {m : MethodId} {args : Array Value} {below : List Frame} {meth : Method} {c : Code} {H : Heap} {locs : List Loc} {cells slots : Nat} {Q : State → Prop}
variable {mc ms : Nat} {free : Addr → Prop} {A0 A1 : Nat → Prop} {H0 : Heap} {a : Array Value} {ls : Array Slot} {st0 rest : List Value}
variable {Qc : Array Value → State → Outcome → State → Prop} {XC : String → State → State → Prop}
/-- what a body that may throw owes at its end -/
def vx_MQ (below : List Frame) (Qc : Array Value → State → Outcome → State → Prop) (XC : String → State → State → Prop) (a : Array Value) (s : State) (mc ms : Nat) (free : Addr → Prop) : State → Prop := fun t =>
  ∃ o, t.status = .running ∧ Ended t below o ∧ vx_Q Qc XC mc ms free a s o t
theorem vx_ret {g : JFrame} {mc ms : Nat} (k : W p l e R s m args below meth c H locs cells slots (MQ below Qc args s mc ms free) g) : W p l e R s m args below meth c H locs cells slots (vx_MQ below Qc XC args s mc ms free) g := by
  intro T hT X
  obtain ⟨t, a1, o, b1, b2, b3, b4⟩ := k T hT X
  exact ⟨t, a1, o, b1, b2, Or.inl ⟨b3, b4⟩⟩
/-- not caught here: it goes on to the caller -/
theorem vx_widen {g : JFrame} {q : Addr} {k n : Nat} (h1 : cells ≤ k) (h2 : slots ≤ n) (kk : vx_W p l e R s m args below meth c H locs k n Q g q) : vx_W p l e R s m args below meth c H locs cells slots Q g q := fun T hT X => kk T hT (stand_widen X h1 h2)
theorem vx_out {pc : Nat} {E : String} {ce : Cell} {q : Addr} {mc ms : Nat} (hout : ∀ x ∈ c.exceptionTable.toList, covers x pc = false) (hlocks : meth.locks = false) (hcell : H[q]? = some ce) (hv : ce.vm = .none) (hcl : s.vm.findClass E = some ce.cls)
    (hx : ∀ t : State, t.heap = H → s.vm.Alike t.vm → XC E s t) (hf : ∀ z ∈ locs, free z.base) (hc : cells ≤ mc) (hs : slots ≤ ms) :
    vx_W p l e R s m args below meth c H locs cells slots (vx_MQ below Qc XC args s mc ms free) (F0 m pc ls rest) q := by
  intro T hT X
  obtain ⟨st1, hrun, hend, hW, hsm⟩ := X.leaveThrown q (g := F0 m pc ls rest) rfl rfl rfl hout hlocks
  have hcell9 : (T.setFrames (.throwing q :: below)).heap[q]? = some ce := by
    show T.heap[q]? = some ce
    rw [hT]; exact hcell
  exact ⟨_, st1, .threw q, hrun, hend, Or.inr ⟨q, rfl, E, ce, locs, hx _ hT hW.alike, hcell9, hv, hcl, hW, hsm.mono hc hs, hf⟩⟩
theorem vx_frame {U : State} {k n : Nat} (h : s.sameButNew ({ U with vm := s.vm } : State) locs k n) : s.heap.size ≤ U.heap.size ∧ ∀ q : Nat, q < s.heap.size → (∀ z ∈ locs, z.base ≠ q) → U.heap[q]? = s.heap[q]? := by
  obtain ⟨-, h2, -, -, -, h6⟩ := h
  refine ⟨h2, fun q hq hz => ?_⟩
  obtain ⟨c9, e1, e2, e3, e4⟩ := h6 q _ (Array.getElem?_eq_getElem hq)
  have hs : c9.slots = (s.heap[q]).slots := Array.ext_getElem? fun i => e4 i fun hm => hz _ hm rfl
  have h9 : c9 = s.heap[q] := by
    rw [hs] at e2
    exact e2
  have e5 : U.heap[q]? = some c9 := e1
  rw [e5, h9, Array.getElem?_eq_getElem hq]
/-- the words of a throw but the four that speak of the heap -/
def vx_no (w : Cond) : Bool := decide (w ≠ .isRef (.static Bundle.tN "UNASSIGNED_STACK" Bundle.steD)) && decide (w ≠ .isRef (.static Bundle.tN "SUPPRESSED_SENTINEL" Bundle.listD)) && decide (w ≠ .laysStatic Bundle.tN "UNASSIGNED_STACK" Bundle.steD) && decide (w ≠ .laysStatic Bundle.tN "SUPPRESSED_SENTINEL" Bundle.listD)
def vx_at0 (own : String) (ic : Nat) (X : String) (names : List String) : List Cond := (Bundle.ownAtoms0 own ic X names).filter vx_no
def vx_atS (own : String) (ic : Nat) (X : String) (names : List String) : List Cond := (Bundle.ownAtoms own ic X names).filter vx_no
/-- a word that the tables alone decide, or a good one -/
def vx_ot (w : Cond) : Bool := w.onTables || goodWord w
theorem vx_ot_at {args a' : Array Value} {s U : State} {w : Cond} (hW : s.WarmedH U.vm) (hvm : s.vm = U.vm) (hg : vx_ot w = true) (h : w.before args s = true) : w.before a' U = true := by
  simp only [vx_ot, Bool.or_eq_true] at hg
  rcases hg with hg | hg
  · exact va_tabs hg hvm h
  · exact word_at hW (good_of_word hg) h
/-- a list's words: the good ones out of the method's own list, the others by premises of their own -/
theorem vx_hat {args : Array Value} {s : State} {L B : List Cond} (h1 : ∀ w ∈ L.filter goodWord, w.before args s = true) (h2 : ∀ w ∈ L.filter (fun w => !goodWord w), w ∈ B) (h3 : ∀ w ∈ B, w.before args s = true) : ∀ w ∈ L, w.before args s = true := by
  intro w hw
  by_cases g : goodWord w = true
  · exact h1 w (List.mem_filter.mpr ⟨hw, g⟩)
  · refine h3 w (h2 w (List.mem_filter.mpr ⟨hw, ?_⟩))
    show (!goodWord w) = true
    cases hgw : goodWord w
    · rfl
    · exact absurd hgw g
theorem vx_c {args : Array Value} {s : State} {w : Cond} {B : List Cond} (h : w.before args s = true) (t : ∀ w ∈ B, w.before args s = true) : ∀ w' ∈ w :: B, w'.before args s = true := fun w' h' => (List.mem_cons.mp h').elim (fun e => by rw [e]; exact h) (t w')
theorem vx_n {args : Array Value} {s : State} : ∀ w ∈ ([] : List Cond), w.before args s = true := fun _ h => nomatch h
theorem vx_own {args : Array Value} {s : State} {L : List Cond} (h1 : ∀ w ∈ L.filter vx_no, w.before args s = true)
    (hU : (Cond.isRef (.static Bundle.tN "UNASSIGNED_STACK" Bundle.steD)).before args s = true) (hN : (Cond.isRef (.static Bundle.tN "SUPPRESSED_SENTINEL" Bundle.listD)).before args s = true)
    (lU : (Cond.laysStatic Bundle.tN "UNASSIGNED_STACK" Bundle.steD).before args s = true) (lN : (Cond.laysStatic Bundle.tN "SUPPRESSED_SENTINEL" Bundle.listD).before args s = true) : ∀ w ∈ L, w.before args s = true := by
  intro w hw
  by_cases e1 : w = .isRef (.static Bundle.tN "UNASSIGNED_STACK" Bundle.steD)
  · rw [e1]; exact hU
  · by_cases e2 : w = .isRef (.static Bundle.tN "SUPPRESSED_SENTINEL" Bundle.listD)
    · rw [e2]; exact hN
    · by_cases e3 : w = .laysStatic Bundle.tN "UNASSIGNED_STACK" Bundle.steD
      · rw [e3]; exact lU
      · by_cases e4 : w = .laysStatic Bundle.tN "SUPPRESSED_SENTINEL" Bundle.listD
        · rw [e4]; exact lN
        · exact h1 w (List.mem_filter.mpr ⟨hw, by unfold vx_no; rw [decide_eq_true e1, decide_eq_true e2, decide_eq_true e3, decide_eq_true e4]; rfl⟩)
/-- where a static field lies, its class's statics cell in H -/
def vx_L (C n d : String) (A : Nat → Prop) (U : State) (H : Heap) : Prop := ∃ (c : ClassId) (k : Class) (i : Nat) (f : Field) (a : Nat) (cell : Cell), U.vm.findClass C = some c ∧ U.fieldFound? C n d = some (c, k, i, f) ∧ f.isStatic = true ∧ k.statics = some a ∧ H[a]? = some cell ∧ cell.vm.isStatics = true ∧ cell.cls = c ∧ f.slot < cell.slots.size ∧ k.staticTypes[f.slot]? = some f.type ∧ ¬ A a
theorem vx_L.moved {C n d : String} {A : Nat → Prop} {u U : State} {H : Heap} (hvm : u.vm.Alike U.vm) (h : vx_L C n d A u H) : vx_L C n d A U H := by
  obtain ⟨c, k, i, f, a, cell, h1, h2, h3, h4, h5, h6, h7, h8, h9, h10⟩ := h
  obtain ⟨k', hi', he⟩ := State.fieldFound?_setVm hvm h2
  exact ⟨c, k', i, f, a, cell, by rw [hvm.findClass]; exact h1, hi', h3, by rw [he]; exact h4, h5, h6, h7, h8, by rw [he]; exact h9, h10⟩
theorem vx_L.kept {C n d : String} {A : Nat → Prop} {U : State} {H H1 : Heap} (h : vx_L C n d A U H) (hq : ∀ a : Nat, a < H.size → ¬ A a → H1[a]? = H[a]?) : vx_L C n d A U H1 := by
  obtain ⟨c, k, i, f, a, cell, h1, h2, h3, h4, h5, h6, h7, h8, h9, h10⟩ := h
  exact ⟨c, k, i, f, a, cell, h1, h2, h3, h4, by rw [hq a (Array.getElem?_eq_some_iff.mp h5).1 h10]; exact h5, h6, h7, h8, h9, h10⟩
theorem vx_L.narrow {C n d : String} {A B : Nat → Prop} {U : State} {H : Heap} (h : vx_L C n d A U H) (hAB : ∀ q, B q → A q) : vx_L C n d B U H := by
  obtain ⟨c, k, i, f, a, cell, h1, h2, h3, h4, h5, h6, h7, h8, h9, h10⟩ := h
  exact ⟨c, k, i, f, a, cell, h1, h2, h3, h4, h5, h6, h7, h8, h9, fun z => h10 (hAB _ z)⟩
theorem vx_L.word {C n d : String} {A : Nat → Prop} {s : State} {args : Array Value} (h : vx_L C n d A s s.heap) : (Cond.laysStatic C n d).before args s = true := by
  obtain ⟨c, k, i, f, a, cell, h1, h2, h3, h4, h5, h6, h7, h8, h9, -⟩ := h
  show (Cond.laysStatic C n d).holds args s none s [] = true
  exact Cond.laysStatic_of h1 h2 h3 h4 h5 h6 h7 h8 h9
/-- .. and what it holds: null or some reference -/
def vx_Zq (C n d : String) (A : Nat → Prop) (U : State) (H : Heap) : Prop := va_Zq C n d A U H ∧ vx_L C n d A U H
theorem vx_Zq.moved {C n d : String} {A : Nat → Prop} {u U : State} {H : Heap} (hvm : u.vm.Alike U.vm) (h : vx_Zq C n d A u H) : vx_Zq C n d A U H := ⟨va_Zq.moved hvm h.1, vx_L.moved hvm h.2⟩
theorem vx_Zq.kept {C n d : String} {A : Nat → Prop} {U : State} {H H1 : Heap} (h : vx_Zq C n d A U H) (hq : ∀ a : Nat, a < H.size → ¬ A a → H1[a]? = H[a]?) : vx_Zq C n d A U H1 := ⟨va_Zq.kept h.1 hq, vx_L.kept h.2 hq⟩
theorem vx_Zq.narrow {C n d : String} {A B : Nat → Prop} {U : State} {H : Heap} (h : vx_Zq C n d A U H) (hAB : ∀ q, B q → A q) : vx_Zq C n d B U H := ⟨va_Zq.narrow h.1 hAB, vx_L.narrow h.2 hAB⟩
theorem vx_Zqof {args : Array Value} {s : State} {C n d : String} {A : Nat → Prop} (hl : (Cond.laysStatic C n d).before args s = true) (hini : (Cond.initialized C).before args s = true) (h : (Cond.isRef (.static C n d)).before args s = true) (hA : ∀ a : Nat, a < s.heap.size → ¬ A a) : vx_Zq C n d A s s.heap := by
  refine ⟨va_Zqof hl hini h hA, ?_⟩
  obtain ⟨c, k, i, f, a, cell, h1, h2, h3, h4, h5, h6, h7, h8, h9⟩ := Cond.laysStatic_spec hl
  exact ⟨c, k, i, f, a, cell, h1, h2, h3, h4, h5, h6, h7, h8, h9, hA a (Array.getElem?_eq_some_iff.mp h5).1⟩
theorem vx_isRef {C n d : String} {v : Value} {A : Nat → Prop} {s : State} {args : Array Value} (h : va_Z C n d v A s s.heap) (hv : v.isRef = true) : (Cond.isRef (.static C n d)).before args s = true := by
  obtain ⟨cf, kf, fi, f, a, cell, h1, h2, h3, h4, h5, h6, h7, -⟩ := h
  have he : (Term.static C n d).eval args s none [] s = some v := by
    simp [Term.eval, State.fieldNamed?, h1, h2, h4, h5, h6, h7]
  simp only [Cond.before, Cond.holds, Cond.value, he]
  cases v <;> simp_all [Value.isRef]
theorem vx_isRefq {C n d : String} {A : Nat → Prop} {s : State} {args : Array Value} (h : va_Zq C n d A s s.heap) : (Cond.isRef (.static C n d)).before args s = true := by
  rcases h with h | ⟨t, h⟩
  · exact vx_isRef h rfl
  · exact vx_isRef h rfl
/-- the same frame, seen from here: as if the method were called anew in this heap -/
theorem vx_rebase {T : State} (X : Stand p l e R s m args below meth c T locs cells slots) {R' : Room} (hf : R'.frames ≤ R.frames) (hl : R'.locals ≤ R.locals) (hc : cells + R'.cells ≤ R.cells) (hs : slots + R'.slots ≤ R.slots) :
    Stand p l e R' ((T.setVm s.vm).setFrames (.invoking m args :: below)) m args below meth c T [] 0 0 := by
  have htop : (T.setVm s.vm).topJava?.isSome := X.here.top
  have hF : ((T.setVm s.vm).setFrames (.invoking m args :: below)).frames = .invoking m args :: below := State.frames_setFrames _ (State.cur_lt_of_top htop)
  obtain ⟨g₀, hg0⟩ := Option.isSome_iff_exists.mp htop
  obtain ⟨r, hr⟩ := State.topJava?_eq_some.mp hg0
  have hl9 : e.platform.stackLimits (T.setVm s.vm).me = e.platform.stackLimits s.me := X.limits
  have hb9 : (T.setVm s.vm).me.stackBytes = s.me.stackBytes := X.bytes
  refine ⟨X.admits, X.cas, X.clock, hF, ?_, X.hears, X.method, X.code, X.here, X.tail, X.warmed, ?_, ?_, ?_⟩
  · have h := X.room
    have hU : ((T.setVm s.vm).setFrames (.invoking m args :: below)).localsInUse = s.localsInUse := by
      rw [State.localsInUse_invoking hF (meth := meth) (c := c) X.method X.code, State.localsInUse_invoking X.frames X.method X.code]
    simp only [State.hasRoom, Bool.and_eq_true, decide_eq_true_eq] at h ⊢
    obtain ⟨⟨⟨⟨h1, h2, h3, h4, h5, h6⟩, h7⟩, h8⟩, h9⟩ := h
    rw [X.frames, List.length_cons] at h2 h3
    have q1 := X.heapSize
    have q2 := X.used
    simp only [hF, hU, List.length_cons, State.stackLimits_setFrames, State.stackBytes_setFrames, hl9, hb9]
    refine ⟨⟨⟨⟨by omega, by omega, by omega, by omega, by omega, h6⟩, ?_⟩, ?_⟩, X.book⟩
    · show T.heap.size + R'.cells ≤ e.platform.maxCells
      omega
    · show T.slotsUsed + R'.slots ≤ e.platform.maxSlots
      omega
  · rw [State.stackLimits_setFrames]; rfl
  · rw [State.stackBytes_setFrames]; rfl
  · refine ⟨?_, Nat.le_refl _, Nat.le_refl _, ?_, ?_, fun a c9 h9 => ⟨c9, h9, rfl, rfl, fun _ _ => rfl⟩⟩
    · obtain ⟨t, ht, -⟩ := State.frames_cons hr
      show T.setVm s.vm = { ((T.setVm s.vm).setFrames (.invoking m args :: below)).setFrames (T.setVm s.vm).frames with heap := T.heap, slotsUsed := T.slotsUsed }
      rw [State.setFrames_setFrames, State.setFrames_self ht]
      rfl
    · show T.slotsUsed = T.slotsUsed + ((T.heap.toList.drop T.heap.size).map (·.slots.size)).sum
      rw [List.drop_eq_nil_of_le (Nat.le_of_eq Array.length_toList)]
      rfl
    · show ((T.heap.toList.drop T.heap.size).map (·.slots.size)).sum ≤ 0
      rw [List.drop_eq_nil_of_le (Nat.le_of_eq Array.length_toList)]
      exact Nat.le_refl _
/-- 'throw new E()': new; dup; invokespecial; athrow -/
theorem vx_throw0 {cc : ByteArray} {pc : Nat} (hexec : p.tables.exec = Jvm.exec) (hb : c.code = cc) (hl : l.stackTraces = false) {own cls : String} {names : List String} {ik ic mc ms : Nat} {A : Nat → Prop}
    (hown : s.vm.findClass own = some m.cls) (hcls : Bundle.fit cls = true) (hnames : ∀ n ∈ names, Bundle.fit n = true)
    (hk : (Cond.classLink own ik cls).before args s = true) (hini : (Cond.initialized cls).before args s = true) (hat : ∀ w ∈ vx_at0 own ic cls names, w.before args s = true)
    (hgood : ∀ w ∈ Cond.classLink own ik cls :: Cond.initialized cls :: vx_at0 own ic cls names, vx_ot w = true)
    (hU : vx_Zq Bundle.tN "UNASSIGNED_STACK" Bundle.steD A s s.heap) (hN : vx_Zq Bundle.tN "SUPPRESSED_SENTINEL" Bundle.listD A s s.heap) (hS : va_S A s.heap H locs) (hsize : ls.size = c.maxLocals)
    (d0 : decode cc pc = .ok (.new ik, 3)) (d3 : decode cc (pc + 3) = .ok (.dup, 1)) (d4 : decode cc (pc + 4) = .ok (.invokespecial ic, 3)) (d7 : decode cc (pc + 7) = .ok (.athrow, 1))
    (hout : ∀ x ∈ c.exceptionTable.toList, covers x (pc + 7) = false)
    (hRframes : names.length + 3 < R.frames) (hRlocals : (rest.map fun v => v.category).sum + (13 * (names.length + 1) + 42) ≤ R.locals) (hRcells : cells + 1 ≤ R.cells) (hRslots : slots + 6 ≤ R.slots) (hlocks : meth.locks = false)
    (hx : ∀ t : State, s.vm.Alike t.vm → H.size ≤ t.heap.size → (∀ q : Nat, q < H.size → t.heap[q]? = H[q]?) → XC cls s t)
    (hf : ∀ z ∈ locs, free z.base) (hc : cells + 1 ≤ mc) (hs : slots + 6 ≤ ms) :
    W p l e R s m args below meth c H locs cells slots (vx_MQ below Qc XC args s mc ms free) (F0 m pc ls rest) := by
  intro T hT X
  have htr : e.platform.stackTraces = false := (show e.platform.stackTraces = l.stackTraces by rw [X.admits.platform]).trans hl
  have Y := vx_rebase X (R' := { frames := R.frames, locals := R.locals, cells := 1, slots := 6 }) (Nat.le_refl _) (Nat.le_refl _) hRcells hRslots
  obtain ⟨s', hA⟩ : ∃ z, z = (T.setVm s.vm).setFrames (.invoking m args :: below) := ⟨_, rfl⟩
  rw [← hA] at Y
  have hvm : s'.vm = s.vm := by rw [hA]; rfl
  have hhp : s'.heap = H := by rw [hA]; exact hT
  have hW0 : s.WarmedH s'.vm := by rw [hvm]; exact State.WarmedH.refl s
  have hat' : ∀ w ∈ vx_at0 own ic cls names, w.before args s' = true := fun w hw => vx_ot_at hW0 hvm.symm (hgood w (List.mem_cons_of_mem _ (List.mem_cons_of_mem _ hw))) (hat w hw)
  have hk' : (Cond.classLink own ik cls).before args s' = true := vx_ot_at hW0 hvm.symm (hgood _ List.mem_cons_self) hk
  have hini' : (Cond.initialized cls).before args s' = true := vx_ot_at hW0 hvm.symm (hgood _ (List.mem_cons_of_mem _ List.mem_cons_self)) hini
  have hU' : vx_Zq Bundle.tN "UNASSIGNED_STACK" Bundle.steD A s' s'.heap := by rw [hhp]; exact vx_Zq.moved hW0.alike (hU.kept hS.2.1)
  have hN' : vx_Zq Bundle.tN "SUPPRESSED_SENTINEL" Bundle.listD A s' s'.heap := by rw [hhp]; exact vx_Zq.moved hW0.alike (hN.kept hS.2.1)
  have h : ∀ w ∈ Bundle.ownAtoms0 own ic cls names, w.before args s' = true := vx_own hat' (vx_isRefq hU'.1) (vx_isRefq hN'.1) hU'.2.word hN'.2.word
  have hown' : s'.vm.findClass own = some m.cls := by rw [hvm]; exact hown
  have hins : (Cond.instantiable cls 6).before args s' = true := h _ (by simp [Bundle.ownAtoms0])
  obtain ⟨vm₁, cX, kX, hfX, hkX, -, -, X₁, st1⟩ := Y.newCold hexec (own := own) (C := cls) (index := ik) (n := 6) hown' hk' hins hini'
    (g := F0 m pc ls rest) rfl (by rw [hb]; exact d0) (Nat.le_refl _) (Nat.le_refl _)
  generalize hT1 : (T.setVm vm₁).pushCell { cls := cX, slots := kX.instanceTypes.map defaultValue, vm := .none } = T1 at X₁ st1
  have hcat : (Value.ref T.heap.size).category = 1 := rfl
  have hcellA : T1.heap[T.heap.size]? = some (freshCell cX kX) := by rw [← hT1]; exact State.heap_pushCell_size _ _
  have d3' : decode c.code (pc + 3) = .ok (.dup, 1) := by rw [hb]; exact d3
  obtain ⟨U, hsteps, hrun, hend, hW, hsame, ce, hce, hO⟩ := X₁.ctorThrow0 hexec htr (own := own) (cls := cls) (names := names) (ic := ic) hown' hcls hnames h (fun x hx => nomatch hx) hfX hkX hcellA (by rw [hhp, hT]; exact Nat.le_refl _)
    (g := { method := m, pc := pc + 4, locals := ls, stack := .ref T.heap.size :: .ref T.heap.size :: rest, locked := none }) rfl hsize rfl rfl (rest := rest) rfl
    (by rw [hb]; exact d4) (by rw [hb]; exact d7) hout hRframes (by simp only [List.map_cons, List.sum_cons, hcat]; omega) hlocks
  obtain ⟨f1, f2⟩ := vx_frame hsame
  rw [hhp] at f1 f2
  have hWs : s.WarmedH U.vm := State.WarmedH.trans hW0 hW
  have hcl : s.vm.findClass cls = some ce.cls := by
    have h9 := hO.cls
    rw [hvm] at h9
    exact h9
  have hall : s.sameButNew ({ U with vm := s.vm } : State) locs mc ms := by
    subst hA
    obtain ⟨e1, e2⟩ := hsame
    rw [State.setFrames_setFrames] at e1
    have h2 : (T.setVm s.vm).sameButNew ({ U with vm := s.vm } : State) [] (0 + 1) (0 + 6) := ⟨e1, e2⟩
    have h3 := X.same.trans h2
    rw [List.append_nil] at h3
    exact h3.mono hc hs
  refine ⟨U, ?_, .threw T.heap.size, hrun, hend, Or.inr ⟨T.heap.size, rfl, cls, ce, locs, hx U hWs.alike f1 (fun q hq => f2 q hq (fun z hz => nomatch hz)), hce, hO.vm, hcl, hWs, hall, hf⟩⟩
  refine st1 _ ?_
  show Steps p.tables e below (T1.setTop { method := m, pc := pc + 3, locals := ls, stack := .ref T.heap.size :: rest, locked := none }) _
  jvm_step X₁.here [X₁.here.top, hexec, d3', Value.category]
  exact hsteps
/-- 'throw new E("text")': new; dup; ldc; invokespecial; athrow -/
theorem vx_throwS {cc : ByteArray} {pc : Nat} (hexec : p.tables.exec = Jvm.exec) (hb : c.code = cc) (hl : l.stackTraces = false) {own cls text : String} {names : List String} {ik is ic mc ms sa : Nat} {A : Nat → Prop}
    (hown : s.vm.findClass own = some m.cls) (hcls : Bundle.fit cls = true) (hnames : ∀ n ∈ names, Bundle.fit n = true)
    (hk : (Cond.classLink own ik cls).before args s = true) (hini : (Cond.initialized cls).before args s = true) (hstr : vk_R own is text sa s) (hat : ∀ w ∈ vx_atS own ic cls names, w.before args s = true)
    (hgood : ∀ w ∈ Cond.classLink own ik cls :: Cond.initialized cls :: vx_atS own ic cls names, vx_ot w = true)
    (hU : vx_Zq Bundle.tN "UNASSIGNED_STACK" Bundle.steD A s s.heap) (hN : vx_Zq Bundle.tN "SUPPRESSED_SENTINEL" Bundle.listD A s s.heap) (hS : va_S A s.heap H locs) (hsize : ls.size = c.maxLocals)
    (d0 : decode cc pc = .ok (.new ik, 3)) (d3 : decode cc (pc + 3) = .ok (.dup, 1)) (d4 : decode cc (pc + 4) = .ok (.ldc is, 2)) (d6 : decode cc (pc + 6) = .ok (.invokespecial ic, 3)) (d9 : decode cc (pc + 9) = .ok (.athrow, 1))
    (hout : ∀ x ∈ c.exceptionTable.toList, covers x (pc + 9) = false)
    (hRframes : names.length + 3 < R.frames) (hRlocals : (rest.map fun v => v.category).sum + (13 * (names.length + 1) + 43) ≤ R.locals) (hRcells : cells + 1 ≤ R.cells) (hRslots : slots + 6 ≤ R.slots) (hlocks : meth.locks = false)
    (hx : ∀ t : State, s.vm.Alike t.vm → H.size ≤ t.heap.size → (∀ q : Nat, q < H.size → t.heap[q]? = H[q]?) → XC cls s t)
    (hf : ∀ z ∈ locs, free z.base) (hc : cells + 1 ≤ mc) (hs : slots + 6 ≤ ms) :
    W p l e R s m args below meth c H locs cells slots (vx_MQ below Qc XC args s mc ms free) (F0 m pc ls rest) := by
  intro T hT X
  have htr : e.platform.stackTraces = false := (show e.platform.stackTraces = l.stackTraces by rw [X.admits.platform]).trans hl
  have Y := vx_rebase X (R' := { frames := R.frames, locals := R.locals, cells := 1, slots := 6 }) (Nat.le_refl _) (Nat.le_refl _) hRcells hRslots
  obtain ⟨s', hA⟩ : ∃ z, z = (T.setVm s.vm).setFrames (.invoking m args :: below) := ⟨_, rfl⟩
  rw [← hA] at Y
  have hvm : s'.vm = s.vm := by rw [hA]; rfl
  have hhp : s'.heap = H := by rw [hA]; exact hT
  have hW0 : s.WarmedH s'.vm := by rw [hvm]; exact State.WarmedH.refl s
  have hat' : ∀ w ∈ vx_atS own ic cls names, w.before args s' = true := fun w hw => vx_ot_at hW0 hvm.symm (hgood w (List.mem_cons_of_mem _ (List.mem_cons_of_mem _ hw))) (hat w hw)
  have hk' : (Cond.classLink own ik cls).before args s' = true := vx_ot_at hW0 hvm.symm (hgood _ List.mem_cons_self) hk
  have hini' : (Cond.initialized cls).before args s' = true := vx_ot_at hW0 hvm.symm (hgood _ (List.mem_cons_of_mem _ List.mem_cons_self)) hini
  have hU' : vx_Zq Bundle.tN "UNASSIGNED_STACK" Bundle.steD A s' s'.heap := by rw [hhp]; exact vx_Zq.moved hW0.alike (hU.kept hS.2.1)
  have hN' : vx_Zq Bundle.tN "SUPPRESSED_SENTINEL" Bundle.listD A s' s'.heap := by rw [hhp]; exact vx_Zq.moved hW0.alike (hN.kept hS.2.1)
  have h : ∀ w ∈ Bundle.ownAtoms own ic cls names, w.before args s' = true := vx_own hat' (vx_isRefq hU'.1) (vx_isRefq hN'.1) hU'.2.word hN'.2.word
  have hown' : s'.vm.findClass own = some m.cls := by rw [hvm]; exact hown
  have hins : (Cond.instantiable cls 6).before args s' = true := h _ (by simp [Bundle.ownAtoms])
  obtain ⟨vm₁, cX, kX, hfX, hkX, -, -, X₁, st1⟩ := Y.newCold hexec (own := own) (C := cls) (index := ik) (n := 6) hown' hk' hins hini'
    (g := F0 m pc ls rest) rfl (by rw [hb]; exact d0) (Nat.le_refl _) (Nat.le_refl _)
  generalize hT1 : (T.setVm vm₁).pushCell { cls := cX, slots := kX.instanceTypes.map defaultValue, vm := .none } = T1 at X₁ st1
  have hcat : (Value.ref T.heap.size).category = 1 := rfl
  have hcellA : T1.heap[T.heap.size]? = some (freshCell cX kX) := by rw [← hT1]; exact State.heap_pushCell_size _ _
  have d3' : decode c.code (pc + 3) = .ok (.dup, 1) := by rw [hb]; exact d3
  have d4' : decode c.code (pc + 4) = .ok (.ldc is, 2) := by rw [hb]; exact d4
  have hstr' : vk_R own is text sa s' := vk_R.warm hW0 hstr
  obtain ⟨U, hsteps, hrun, hend, hW, hsame, ce, hce, hO⟩ := X₁.ctorThrowS hexec htr (own := own) (cls := cls) (names := names) (ic := ic) hown' hcls hnames h (fun x hx => nomatch hx) hfX hkX hcellA (by rw [hhp, hT]; exact Nat.le_refl _) (msg := .ref sa) rfl
    (g := { method := m, pc := pc + 6, locals := ls, stack := .ref sa :: .ref T.heap.size :: .ref T.heap.size :: rest, locked := none }) rfl hsize rfl rfl (rest := rest) rfl
    (by rw [hb]; exact d6) (by rw [hb]; exact d9) hout hRframes (by simp only [List.map_cons, List.sum_cons, hcat]; omega) hlocks
  obtain ⟨f1, f2⟩ := vx_frame hsame
  rw [hhp] at f1 f2
  have hWs : s.WarmedH U.vm := State.WarmedH.trans hW0 hW
  have hcl : s.vm.findClass cls = some ce.cls := by
    have h9 := hO.cls
    rw [hvm] at h9
    exact h9
  have hall : s.sameButNew ({ U with vm := s.vm } : State) locs mc ms := by
    subst hA
    obtain ⟨e1, e2⟩ := hsame
    rw [State.setFrames_setFrames] at e1
    have h2 : (T.setVm s.vm).sameButNew ({ U with vm := s.vm } : State) [] (0 + 1) (0 + 6) := ⟨e1, e2⟩
    have h3 := X.same.trans h2
    rw [List.append_nil] at h3
    exact h3.mono hc hs
  refine ⟨U, ?_, .threw T.heap.size, hrun, hend, Or.inr ⟨T.heap.size, rfl, cls, ce, locs, hx U hWs.alike f1 (fun q hq => f2 q hq (fun z hz => nomatch hz)), hce, hO.vm, hcl, hWs, hall, hf⟩⟩
  refine st1 _ ?_
  show Steps p.tables e below (T1.setTop { method := m, pc := pc + 3, locals := ls, stack := .ref T.heap.size :: rest, locked := none }) _
  jvm_step X₁.here [X₁.here.top, hexec, d3', Value.category]
  exact X₁.ldcString hexec (own := own) (text := text) (index := is) (a := sa) hown' hstr'.1 hstr'.2
    (g := { method := m, pc := pc + 4, locals := ls, stack := .ref T.heap.size :: .ref T.heap.size :: rest, locked := none }) rfl d4' _ hsteps
/-- 'throw new E("text")', the text by a wide index -/
theorem vx_throwSW {cc : ByteArray} {pc : Nat} (hexec : p.tables.exec = Jvm.exec) (hb : c.code = cc) (hl : l.stackTraces = false) {own cls text : String} {names : List String} {ik is ic mc ms sa : Nat} {A : Nat → Prop}
    (hown : s.vm.findClass own = some m.cls) (hcls : Bundle.fit cls = true) (hnames : ∀ n ∈ names, Bundle.fit n = true)
    (hk : (Cond.classLink own ik cls).before args s = true) (hini : (Cond.initialized cls).before args s = true) (hstr : vk_R own is text sa s) (hat : ∀ w ∈ vx_atS own ic cls names, w.before args s = true)
    (hgood : ∀ w ∈ Cond.classLink own ik cls :: Cond.initialized cls :: vx_atS own ic cls names, vx_ot w = true)
    (hU : vx_Zq Bundle.tN "UNASSIGNED_STACK" Bundle.steD A s s.heap) (hN : vx_Zq Bundle.tN "SUPPRESSED_SENTINEL" Bundle.listD A s s.heap) (hS : va_S A s.heap H locs) (hsize : ls.size = c.maxLocals)
    (d0 : decode cc pc = .ok (.new ik, 3)) (d3 : decode cc (pc + 3) = .ok (.dup, 1)) (d4 : decode cc (pc + 4) = .ok (.ldc_w is, 3)) (d7 : decode cc (pc + 7) = .ok (.invokespecial ic, 3)) (d10 : decode cc (pc + 10) = .ok (.athrow, 1))
    (hout : ∀ x ∈ c.exceptionTable.toList, covers x (pc + 10) = false)
    (hRframes : names.length + 3 < R.frames) (hRlocals : (rest.map fun v => v.category).sum + (13 * (names.length + 1) + 43) ≤ R.locals) (hRcells : cells + 1 ≤ R.cells) (hRslots : slots + 6 ≤ R.slots) (hlocks : meth.locks = false)
    (hx : ∀ t : State, s.vm.Alike t.vm → H.size ≤ t.heap.size → (∀ q : Nat, q < H.size → t.heap[q]? = H[q]?) → XC cls s t)
    (hf : ∀ z ∈ locs, free z.base) (hc : cells + 1 ≤ mc) (hs : slots + 6 ≤ ms) :
    W p l e R s m args below meth c H locs cells slots (vx_MQ below Qc XC args s mc ms free) (F0 m pc ls rest) := by
  intro T hT X
  have htr : e.platform.stackTraces = false := (show e.platform.stackTraces = l.stackTraces by rw [X.admits.platform]).trans hl
  have Y := vx_rebase X (R' := { frames := R.frames, locals := R.locals, cells := 1, slots := 6 }) (Nat.le_refl _) (Nat.le_refl _) hRcells hRslots
  obtain ⟨s', hA⟩ : ∃ z, z = (T.setVm s.vm).setFrames (.invoking m args :: below) := ⟨_, rfl⟩
  rw [← hA] at Y
  have hvm : s'.vm = s.vm := by rw [hA]; rfl
  have hhp : s'.heap = H := by rw [hA]; exact hT
  have hW0 : s.WarmedH s'.vm := by rw [hvm]; exact State.WarmedH.refl s
  have hat' : ∀ w ∈ vx_atS own ic cls names, w.before args s' = true := fun w hw => vx_ot_at hW0 hvm.symm (hgood w (List.mem_cons_of_mem _ (List.mem_cons_of_mem _ hw))) (hat w hw)
  have hk' : (Cond.classLink own ik cls).before args s' = true := vx_ot_at hW0 hvm.symm (hgood _ List.mem_cons_self) hk
  have hini' : (Cond.initialized cls).before args s' = true := vx_ot_at hW0 hvm.symm (hgood _ (List.mem_cons_of_mem _ List.mem_cons_self)) hini
  have hU' : vx_Zq Bundle.tN "UNASSIGNED_STACK" Bundle.steD A s' s'.heap := by rw [hhp]; exact vx_Zq.moved hW0.alike (hU.kept hS.2.1)
  have hN' : vx_Zq Bundle.tN "SUPPRESSED_SENTINEL" Bundle.listD A s' s'.heap := by rw [hhp]; exact vx_Zq.moved hW0.alike (hN.kept hS.2.1)
  have h : ∀ w ∈ Bundle.ownAtoms own ic cls names, w.before args s' = true := vx_own hat' (vx_isRefq hU'.1) (vx_isRefq hN'.1) hU'.2.word hN'.2.word
  have hown' : s'.vm.findClass own = some m.cls := by rw [hvm]; exact hown
  have hins : (Cond.instantiable cls 6).before args s' = true := h _ (by simp [Bundle.ownAtoms])
  obtain ⟨vm₁, cX, kX, hfX, hkX, -, -, X₁, st1⟩ := Y.newCold hexec (own := own) (C := cls) (index := ik) (n := 6) hown' hk' hins hini'
    (g := F0 m pc ls rest) rfl (by rw [hb]; exact d0) (Nat.le_refl _) (Nat.le_refl _)
  generalize hT1 : (T.setVm vm₁).pushCell { cls := cX, slots := kX.instanceTypes.map defaultValue, vm := .none } = T1 at X₁ st1
  have hcat : (Value.ref T.heap.size).category = 1 := rfl
  have hcellA : T1.heap[T.heap.size]? = some (freshCell cX kX) := by rw [← hT1]; exact State.heap_pushCell_size _ _
  have d3' : decode c.code (pc + 3) = .ok (.dup, 1) := by rw [hb]; exact d3
  have d4' : decode c.code (pc + 4) = .ok (.ldc_w is, 3) := by rw [hb]; exact d4
  have hstr' : vk_R own is text sa s' := vk_R.warm hW0 hstr
  obtain ⟨U, hsteps, hrun, hend, hW, hsame, ce, hce, hO⟩ := X₁.ctorThrowS hexec htr (own := own) (cls := cls) (names := names) (ic := ic) hown' hcls hnames h (fun x hx => nomatch hx) hfX hkX hcellA (by rw [hhp, hT]; exact Nat.le_refl _) (msg := .ref sa) rfl
    (g := { method := m, pc := pc + 7, locals := ls, stack := .ref sa :: .ref T.heap.size :: .ref T.heap.size :: rest, locked := none }) rfl hsize rfl rfl (rest := rest) rfl
    (by rw [hb]; exact d7) (by rw [hb]; exact d10) hout hRframes (by simp only [List.map_cons, List.sum_cons, hcat]; omega) hlocks
  obtain ⟨f1, f2⟩ := vx_frame hsame
  rw [hhp] at f1 f2
  have hWs : s.WarmedH U.vm := State.WarmedH.trans hW0 hW
  have hcl : s.vm.findClass cls = some ce.cls := by
    have h9 := hO.cls
    rw [hvm] at h9
    exact h9
  have hall : s.sameButNew ({ U with vm := s.vm } : State) locs mc ms := by
    subst hA
    obtain ⟨e1, e2⟩ := hsame
    rw [State.setFrames_setFrames] at e1
    have h2 : (T.setVm s.vm).sameButNew ({ U with vm := s.vm } : State) [] (0 + 1) (0 + 6) := ⟨e1, e2⟩
    have h3 := X.same.trans h2
    rw [List.append_nil] at h3
    exact h3.mono hc hs
  refine ⟨U, ?_, .threw T.heap.size, hrun, hend, Or.inr ⟨T.heap.size, rfl, cls, ce, locs, hx U hWs.alike f1 (fun q hq => f2 q hq (fun z hz => nomatch hz)), hce, hO.vm, hcl, hWs, hall, hf⟩⟩
  refine st1 _ ?_
  show Steps p.tables e below (T1.setTop { method := m, pc := pc + 3, locals := ls, stack := .ref T.heap.size :: rest, locked := none }) _
  jvm_step X₁.here [X₁.here.top, hexec, d3', Value.category]
  exact X₁.ldcStringW hexec (own := own) (text := text) (index := is) (a := sa) hown' hstr'.1 hstr'.2
    (g := { method := m, pc := pc + 4, locals := ls, stack := .ref T.heap.size :: .ref T.heap.size :: rest, locked := none }) rfl d4' _ hsteps
end Ends
section Bodies
variable {l : Launch}
theorem vx_ofW {y : MethodName} {ws ws' : List Cond} {rm : Room} {Pc : Array Value → State → Prop} {Qc : Array Value → State → Outcome → State → Prop} {XC : String → State → State → Prop} {mc ms : Nat} {free : Addr → Prop} {cc : ByteArray} {maxL : Nat} {ret : Option FieldType}
    (hy : plainName y.cls = true) (hw : ws = Cond.code y cc maxL ret :: ws')
    (body : ∀ p e s m args below meth c s₁, BodyLoose p l y (headSpec ws rm) cc maxL ret e s m args below meth c s₁ → c.maxLocals = maxL → (∀ x ∈ c.exceptionTable.toList, False) → Pc args s →
      W p l e (headSpec ws rm).room s m args below meth c s.heap [] 0 0 (vx_MQ below Qc XC args s mc ms free) (entryFrame m args maxL)) : vx_Met l y ws rm Pc Qc XC mc ms free := by
  refine MetFree.of_bodyS (code := cc) (maxLocals := maxL) (ret := ret) hy ?_ ?_
  · intro args s m h hn
    obtain ⟨meth, c, h1, h2, h3, h4, h5, h6, -, -⟩ := Cond.code_spec hn (atoms_spec (ws := ws) h _ (by rw [hw]; exact List.mem_cons_self))
    exact ⟨meth, c, h1, h2, h3, h4, h5, h6⟩
  · intro p e s m args below meth c s₁ B hml hP _
    have hh0 : s₁.heap = s.heap := by rw [B.state]; rfl
    have ht : ∀ x ∈ c.exceptionTable.toList, False := by
      obtain ⟨meth9, c9, h1, h2, -, -, -, -, h7, -⟩ := Cond.code_spec B.named (atoms_spec (ws := ws) B.pre _ (by rw [hw]; exact List.mem_cons_self))
      cases Option.some.inj (h1.symm.trans B.method)
      cases Option.some.inj (h2.symm.trans (Stand.of_body B).code)
      intro x hx
      rw [Array.isEmpty_iff.mp h7] at hx
      cases hx
    obtain ⟨t, a1, o, b1, b2, b3⟩ := body p e s m args below meth c s₁ B hml ht hP s₁ hh0 (Stand.of_body B)
    exact ⟨t, o, a1, b1, b2, b3⟩
/-- the table of a body with handlers -/
theorem vx_table {p : Program} {x y : MethodName} {S : Spec} {cc bytes : ByteArray} {maxL maxL' : Nat} {ret ret' : Option FieldType} {e : Env} {s s₁ : State} {m : MethodId} {args : Array Value} {below : List Frame} {meth : Method} {c : Code} {hh : List (Nat × Nat × Nat × Nat)}
    (B : BodyLoose p l y S cc maxL ret e s m args below meth c s₁) (h : (Cond.codeWith y bytes maxL' ret' hh).before args s = true) : c.exceptionTable.toList = tableOf hh := by
  obtain ⟨m9, meth9, c9, hn9, h1, h2, -, -, h6, -⟩ := Cond.codeWith_spec h
  cases Option.some.inj (hn9.symm.trans B.named)
  cases Option.some.inj (h1.symm.trans B.method)
  cases Option.some.inj (h2.symm.trans (Stand.of_body B).code)
  rw [← h6, table_eq]
end Bodies
end VXA
/-! ===== END ===== -/
/-! ===== BEGIN a static call of a method with an exception table ===== -/
section VXS
variable {p : Program} {l : Launch} {e : Env} {R : Room} {s : State} {m : MethodId} {args : Array Value} {below : List Frame} {meth : Method} {c : Code} {T : State} {H : Heap} {locs : List Loc} {cells slots : Nat}
abbrev vx_CSW (R : Room) (s : State) (args : Array Value) (own : String) (index : Nat) (y : MethodName) (bytes : ByteArray) (maxL : Nat) (ret : Option FieldType) (hh : List (Nat × Nat × Nat × Nat)) (ws : List Cond) (rm : Room) (mc ms n : Nat) : Prop :=
  (rm.cells = mc ∧ rm.slots = ms ∧ rm.frames + 1 ≤ R.frames ∧ 8 + (maxL + 11) + rm.locals ≤ R.locals ∧ (∀ w ∈ ws, ∀ (a' : Array Value) (U : State), s.WarmedH U.vm → w.before a' U = true) ∧ Cond.codeWith y bytes maxL ret hh ∈ ws) ∧
  (Cond.codeWith y bytes maxL ret hh).before args s = true ∧ (Cond.initialized y.cls).before args s = true ∧ (y.cls ≠ "java/lang/invoke/MethodHandle" ∧ y.cls ≠ "java/lang/invoke/VarHandle") ∧
  (∀ sig, parseMethodDescriptor y.desc = some sig → n = sig.parameters.length) ∧ (Cond.methodLink own index y).before args s = true ∧ (Cond.static y).before args s = true
theorem vx_cwSW {own : String} {index maxL mc ms : Nat} {y : MethodName} {bytes : ByteArray} {ret : Option FieldType} {hh : List (Nat × Nat × Nat × Nat)} {Ts ws ws' : List Cond} {rm : Room} (n : Nat) (ht : ∀ w ∈ Ts, w.before args s = true) (hT : GoodIn Ts (va_wsS own index y ws)) (hw : ws = Cond.codeWith y bytes maxL ret hh :: ws') (hrc : rm.cells = mc) (hrs : rm.slots = ms)
    (hd : y.cls ≠ "java/lang/invoke/MethodHandle" ∧ y.cls ≠ "java/lang/invoke/VarHandle" ∧ (parseMethodDescriptor y.desc).map (fun d => d.parameters.length) = some n) (hR : rm.frames + 1 ≤ R.frames ∧ 8 + (maxL + 11) + rm.locals ≤ R.locals) :
    vx_CSW R s args own index y bytes maxL ret hh ws rm mc ms n := by
  have ok : ∀ w ∈ va_wsS own index y ws, w.before args s = true := fun w h => ht w (hT w h).1
  have hG : GoodIn Ts ws := fun w h => hT w (by unfold va_wsS; exact List.mem_append_right _ h)
  have hc : Cond.codeWith y bytes maxL ret hh ∈ ws := by rw [hw]; exact List.mem_cons_self
  refine ⟨⟨hrc, hrs, hR.1, hR.2, pay_in ht hG, hc⟩, ht _ (hG _ hc).1, ok _ (by simp [va_wsS]), ⟨hd.1, hd.2.1⟩, fun sig h => ?_, ok _ (by simp [va_wsS]), ok _ (by simp [va_wsS])⟩
  have h2 := hd.2.2
  rw [h] at h2
  exact (Option.some.inj h2).symm
theorem vx_callSW (X : Stand p l e R s m args below meth c T locs cells slots) (hexec : p.tables.exec = Jvm.exec) {own : String} {index : Nat} {y : MethodName} {bytes : ByteArray} {maxL : Nat} {ret : Option FieldType} {hh : List (Nat × Nat × Nat × Nat)}
    (hown : s.vm.findClass own = some m.cls) (hlink : (Cond.methodLink own index y).before args s = true) (hstat : (Cond.static y).before args s = true) (hinit : (Cond.initialized y.cls).before args s = true)
    (hcode : (Cond.codeWith y bytes maxL ret hh).before args s = true) (hy : y.cls ≠ "java/lang/invoke/MethodHandle" ∧ y.cls ≠ "java/lang/invoke/VarHandle")
    {W9 : Nat} {Pre : Pt → Array Value → Prop} {Post : Pt → Array Value → Option Value → Pt → Prop} (hK : Back l R p e below s args y 3 W9 Pre Post)
    {g : JFrame} (hg : g.method = m) (hsize : g.locals.size = c.maxLocals) {argsL rest : List Value} (hlen : ∀ sig, parseMethodDescriptor y.desc = some sig → argsL.length = sig.parameters.length)
    (hstack : g.stack = argsL.reverse ++ rest) (hW : 2 * g.monitorRoom + (rest.map fun v => v.category).sum ≤ W9) (hdg : decode c.code g.pc = .ok (.invokestatic index, 3))
    (hpre : ∀ vm₁, s.WarmedH vm₁ → Pre ⟨T.setVm vm₁, locs, cells, slots⟩ argsL.toArray) :
    ∃ (v : Option Value) (vm₁ : Vm) (B : Pt), s.WarmedH vm₁ ∧ Stand p l e R s m args below meth c B.U B.locs B.cells B.slots ∧ Post ⟨T.setVm vm₁, locs, cells, slots⟩ argsL.toArray v B ∧
      ∀ target, Steps p.tables e below (B.U.setTop { g with pc := g.pc + 3, stack := v.toList ++ rest }) target → Steps p.tables e below (T.setTop g) target := by
  obtain ⟨mk, methM, cM, hnamed, hmethM, -, -, -, -, -, -, hsigM⟩ := Cond.codeWith_spec hcode
  have hstatic : methM.isStatic = true := Cond.static_spec hnamed hmethM hstat
  obtain ⟨kP, hkP, -⟩ := className_of_methodNamed hnamed
  have hinitP : kP.init = .initialized := Cond.initialized_spec (findClass_of_methodNamed hnamed) hkP hinit
  obtain ⟨vm₁, X₁, hstep₁⟩ := X.invokestatic hexec hown hlink hnamed hmethM hstatic hkP hinitP hy (g := g) hg (argsL := argsL) (rest := rest) (hlen _ hsigM) hstack hdg
  obtain ⟨v, B, X', hpost, hsteps⟩ := hK m meth c ⟨T.setVm vm₁, locs, cells, slots⟩ { g with stack := rest } (.invokestatic index) mk argsL.toArray X₁ hg hsize hdg hW (X₁.named hnamed) (hpre vm₁ X₁.warmed)
  exact ⟨v, vm₁, B, X₁.warmed, X', hpost, fun target h => hstep₁ _ fun acts => by rw [doInvoke_state]; exact hsteps.trans h⟩
theorem vx_runSW {y : MethodName} {bytes cc : ByteArray} {maxL nL mc ms n index : Nat} {ret : Option FieldType} {hh : List (Nat × Nat × Nat × Nat)} {ws : List Cond} {rm : Room} {Pc : Array Value → State → Prop} {Qc : Array Value → State → Outcome → State → Prop} {free : Addr → Prop} {Ts : List Cond} {own : String} {As rest : List Value} {g : JFrame}
    (S : CallFix p m c cc nL s args Ts own) (hM : Met l y ws rm Pc Qc mc ms free) (cw : vx_CSW R s args own index y bytes maxL ret hh ws rm mc ms n) (hp : PreS s H Pc As)
    (hg : g.method = m) (hn : As.length = n) (hsize : g.locals.size = nL) (hstack : g.stack = As.reverse ++ rest) (hW : 2 * g.monitorRoom + (rest.map fun v => v.category).sum ≤ 8) (hdg : decode cc g.pc = .ok (.invokestatic index, 3)) (hf : cells + mc ≤ R.cells ∧ slots + ms ≤ R.slots) :
    va_Run p l e R s m args below meth c H locs cells slots mc ms g rest (Qc As.toArray) (free) := by
  obtain ⟨⟨hrc, hrs, hfr, hlo, hws, hcw⟩, hcode, hini, hy, hlen, hl, hstt⟩ := cw
  have hK : Back l R p e below s args y 3 8 (PreOf R mc ms Pc) (PostOf Qc mc ms free) := va_backW (hh := hh) (bytes := bytes) (maxL := maxL) (ret := ret) hM hp.1 hrc hrs hfr hlo hws hcw (fun a' U hW => word_at hW (Or.inl (by first | rfl | simp [Cond.onTables, Cond.keeps, Cond.steady])) hini)
  obtain ⟨hx, hb, hml, ho, -⟩ := S
  intro T hT X
  obtain ⟨v, vm₁, ⟨U', l2, c2, s2⟩, hW₁, X', ⟨g', mk, t, L, e1, e2, hq, h1, hL, h2, h3⟩, st⟩ := vx_callSW X hx (hh := hh) (bytes := bytes) (maxL := maxL) (ret := ret) ho hl hstt hini hcode hy hK hg (hsize.trans hml.symm) (argsL := As) (rest := rest) (fun sig h => hn.trans (hlen sig h)) hstack hW (by rw [hb]; exact hdg)
    (fun vm₁ hW₁ => ⟨hf.1, hf.2, hp.2 (T.setVm vm₁) hT hW₁⟩)
  dsimp only [Pt.U, Pt.locs, Pt.cells, Pt.slots] at X' e1 e2 h1 h2 h3 st
  subst h1; subst h2; subst h3
  exact ⟨v, (T.setVm vm₁).calling g' mk As.toArray, t, U', L, hT, X', hL, e1, e2, hq, st⟩
/-- not caught here, past rows that name other classes: it goes on to the caller -/
theorem vx_outP {p : Program} {l : Launch} {e : Env} {R : Room} {s : State} {m : MethodId} {args : Array Value} {below : List Frame} {meth : Method} {c : Code} {H : Heap} {locs : List Loc} {cells slots : Nat} {free : Addr → Prop} {ls : Array Slot} {rest : List Value} {Qc : Array Value → State → Outcome → State → Prop} {XC : String → State → State → Prop}
    {pc : Nat} {own E : String} {ce : Cell} {q : Addr} {mc ms : Nat} (hown : s.vm.findClass own = some m.cls) (hlocks : meth.locks = false)
    (hpass : ∀ z ∈ c.exceptionTable.toList, covers z pc = false ∨ (z.catchType ≠ 0 ∧ ∃ nm : String, (Cond.classLink own z.catchType nm).before args s = true ∧ va_Nc E nm s)) (hcell : H[q]? = some ce) (hv : ce.vm = .none) (hcl : s.vm.findClass E = some ce.cls)
    (hx : ∀ t : State, t.heap = H → s.vm.Alike t.vm → XC E s t) (hf : ∀ z ∈ locs, free z.base) (hc : cells ≤ mc) (hs : slots ≤ ms) :
    vx_W p l e R s m args below meth c H locs cells slots (vx_MQ below Qc XC args s mc ms free) (F0 m pc ls rest) q := by
  intro T hT X
  have hpl : e.platform.magicAccessors = ({} : Platform).magicAccessors := by rw [X.admits.platform]
  obtain ⟨vm', hW', X', st⟩ := X.outThrough hlocks q (g := F0 m pc ls rest) rfl rfl rfl (cell := ce) (by rw [hT]; exact hcell) (by rw [hv]; rfl)
    (by obtain ⟨k9, h9, -⟩ := Vm.findClass_spec hcl; exact ⟨k9, h9⟩) (fun z hz => by
      rcases hpass z hz with h | ⟨hz0, nm, hl1, hn1⟩
      · exact Or.inl h
      · obtain ⟨c6, hc6, hcl6⟩ := Cond.classLink_spec hown hl1 e.platform hpl
        obtain ⟨a8, b8, h1, h2, h3⟩ := hn1
        cases Option.some.inj (h1.symm.trans hcl)
        cases Option.some.inj (h2.symm.trans hc6)
        exact Or.inr ⟨hz0, _, hcl6, h3⟩)
  obtain ⟨g₀, hfr⟩ := X'.frames_eq
  have hcell9 : ((T.setVm vm').setFrames (.throwing q :: below)).heap[q]? = some ce := by
    show T.heap[q]? = some ce
    rw [hT]; exact hcell
  have hend : Ended ((T.setVm vm').setFrames (.throwing q :: below)) below (.threw q) := State.frames_setFrames _ (State.cur_lt_of_frames hfr)
  refine ⟨(T.setVm vm').setFrames (.throwing q :: below), ?_, .threw q, X'.here.running, hend, Or.inr ⟨q, rfl, E, ce, locs, hx _ hT (X'.ends _).1.alike, hcell9, hv, hcl, (X'.ends _).1, (X'.ends _).2.mono hc hs, hf⟩⟩
  rw [X.pushThrowing_eq]
  exact st
/-- a thing of a world lies in the heap -/
theorem vx_lt {D : va_G} {cl : List vw_C} {ws : va_W} {H1 : Heap} (h : va_P D cl ws H1) {k : Nat} {q : Nat × va_E} (hk : ws[k]? = some q) : q.1 < H1.size := (h k q hk).lt
end VXS
/-! ===== END ===== -/
/-! ===== BEGIN methods with a table of their own: called by a name, returning or throwing ===== -/
section VXH
/-! vx_backW, vx_callVX, vx_callSX, vx_callVW, vx_runVW, vx_runVX, vx_runSX, vx_ofWH follow the same proofs as their sisters above (Free/Laws.lean, Shelf42/LK1.lean); vx_outP calls Shelf42/NT130.lean (outThrough). -/
section
variable {l : Launch} {R : Room} {p : Program} {e : Env} {below : List Frame} {s : State} {sargs : Array Value} {y : MethodName} {len W9 : Nat}
theorem vx_backW {ws : List Cond} {rm : Room} {Pc : Array Value → State → Prop} {Qc : Array Value → State → Outcome → State → Prop} {XC : String → State → State → Prop} {mc ms : Nat} {free : Addr → Prop} {bytes : ByteArray} {maxL : Nat} {ret : Option FieldType} {hh : List (Nat × Nat × Nat × Nat)}
    (hM : vx_Met l y ws rm Pc Qc XC mc ms free) (hblind : FrameBlind Pc) (hrc : rm.cells = mc) (hrs : rm.slots = ms)
    (hframes : rm.frames + 1 ≤ R.frames) (hlocals : W9 + (maxL + 11) + rm.locals ≤ R.locals)
    (hws : ∀ w ∈ ws, ∀ a' U, s.WarmedH U.vm → w.before a' U = true) (hcode : Cond.codeWith y bytes maxL ret hh ∈ ws) (hinit : ∀ a' U, s.WarmedH U.vm → (Cond.initialized y.cls).before a' U = true) :
    vx_Back l R p e below s sargs y len W9 (PreOf R mc ms Pc) (PostOf Qc mc ms free) (vx_Post XC mc ms free) := by
  intro m meth c A g ig mk a X hg hsize hdg hW hn hp
  have h1 : (headSpec ws rm).pre.before a A.U = true := atoms_intro fun w hw => hws w hw _ _ X.warmed
  have h2 : (Cond.codeWith y bytes maxL ret hh).before a A.U = true := hws _ hcode _ _ X.warmed
  have h3 : (Cond.initialized y.cls).before a A.U = true := hinit _ _ X.warmed
  have h4 : A.cells + (headSpec ws rm).room.cells ≤ R.cells := by rw [show (headSpec ws rm).room.cells = mc from hrc]; exact hp.1
  have h5 : A.slots + (headSpec ws rm).room.slots ≤ R.slots := by rw [show (headSpec ws rm).room.slots = ms from hrs]; exact hp.2.1
  have hPc : Pc a (A.U.calling g mk a) := hblind _ _ _ _ hp.2.2
  obtain ⟨U, Ls, c0, s0⟩ := A
  dsimp only [Pt.U, Pt.locs, Pt.cells, Pt.slots] at h1 h2 h3 h4 h5 X hn hPc ⊢
  obtain ⟨m9, methY, cY, hn9, hmY, hcY, -, hlY, -⟩ := Cond.codeWith_spec h2
  cases Option.some.inj (hn9.symm.trans hn)
  obtain ⟨kY, hkY, -⟩ := className_of_methodNamed hn
  have hinitY : kY.init = .initialized := Cond.initialized_spec (findClass_of_methodNamed hn) hkY h3
  have h : At U g.method c below := by rw [hg]; exact X.here
  have hlocals9 : W9 + (maxL + 11) + (headSpec ws rm).room.locals ≤ R.locals := hlocals
  have happ : (headSpec ws rm).appliesLoose y e.platform (U.calling g mk a) = true :=
    Spec.appliesLoose_calling (g := g) h hdg hn hkY hinitY
      (X.room_calling (g := g) (R' := (headSpec ws rm).room) hsize hmY hcY hframes (by rw [hlY]; omega) h4 h5) h1
  obtain ⟨mid, hmid⟩ := h.above
  have hfr : (U.setTop g).frames = (.java g :: mid) ++ below := by rw [State.frames_setTop' g h.top, hmid]; rfl
  obtain ⟨o, s₂, hsteps, -, hend, hq⟩ := Steps.callFree hM p X.admits X.cas X.clock (acts := []) hfr happ hPc trivial
  have hq' : vx_Q Qc XC mc ms free a (U.calling g mk a) o s₂ := hq
  rw [State.frames_setTop' g h.top] at hend
  obtain ⟨g₀, hg0⟩ := Option.isSome_iff_exists.mp h.top
  obtain ⟨r, hr⟩ := State.topJava?_eq_some.mp hg0
  have hr' : (({ U with heap := s₂.heap, slotsUsed := s₂.slotsUsed } : State).setVm s₂.vm).frames = .java g₀ :: r := hr
  rcases hq' with ⟨hqc, L, hfe, hL⟩ | ⟨q, rfl, E, ce, L, hx, hce, hcv, hcl, hW₂, hsm, hL⟩
  · obtain ⟨⟨v, rfl⟩, hW₂, e2, q2, q3, q4, q5, q6⟩ := id hfe
    have e3 : s₂ = ({ (U.calling g mk a).setFrames s₂.frames with heap := s₂.heap, slotsUsed := s₂.slotsUsed } : State).setVm s₂.vm := by
      have : s₂ = ({ s₂ with vm := (U.calling g mk a).vm } : State).setVm s₂.vm := rfl
      rw [e2] at this
      exact this
    obtain ⟨c₂, i₂, len₂, hc₂, hd₂, hf₂⟩ := hend
    have hW' : U.WarmedH s₂.vm := hW₂
    have hcc : c₂ = c := by
      have h1 : s₂.code? g.method = U.code? g.method := by
        rw [State.code?_eq, State.code?_eq, hW'.alike.method?]
      exact Option.some.inj (hc₂.symm.trans (h1.trans h.code))
    subst hcc
    have hlen : len₂ = len := by rw [hdg] at hd₂; cases hd₂; rfl
    subst hlen
    have hs₂ : s₂ = (({ U with heap := s₂.heap, slotsUsed := s₂.slotsUsed } : State).setVm s₂.vm).setTop { g with pc := g.pc + len₂, stack := v.toList ++ g.stack } := by
      refine e3.trans ?_
      rw [hf₂, State.calling_eq h.top, State.setFrames_setFrames, State.setTop_of_frames _ hr', hr]
      rfl
    have hsame : U.sameButNew ({ U with heap := s₂.heap, slotsUsed := s₂.slotsUsed } : State) L mc ms := by
      refine ⟨?_, q2, q3, q4, q5, q6⟩
      obtain ⟨t, ht, -⟩ := State.frames_cons hr
      show ({ U with heap := s₂.heap, slotsUsed := s₂.slotsUsed } : State) = { U.setFrames U.frames with heap := s₂.heap, slotsUsed := s₂.slotsUsed }
      rw [State.setFrames_self ht]
    subst hg
    refine Or.inl ⟨v, ⟨(({ U with heap := s₂.heap, slotsUsed := s₂.slotsUsed } : State).setVm s₂.vm), Ls ++ L, c0 + mc, s0 + ms⟩,
      ⟨X.admits, X.cas, X.clock, X.frames, X.room, X.hears, X.method, X.code, (X.here.setHeapUsed s₂.heap s₂.slotsUsed).setVm hW'.alike, X.tail, State.WarmedH.trans X.warmed hW', X.limits, X.bytes, X.same.trans (hsame.setVm s.vm)⟩,
      ⟨g, mk, s₂, L, rfl, rfl, hqc, rfl, hL, rfl, rfl⟩, ?_⟩
    show Steps p.tables e below _ ((({ U with heap := s₂.heap, slotsUsed := s₂.slotsUsed } : State).setVm s₂.vm).setTop { g with pc := g.pc + len₂, stack := v.toList ++ g.stack })
    rw [← hs₂]
    exact hsteps
  · obtain ⟨e2, q2, q3, q4, q5, q6⟩ := id hsm
    have e3 : s₂ = ({ (U.calling g mk a).setFrames s₂.frames with heap := s₂.heap, slotsUsed := s₂.slotsUsed } : State).setVm s₂.vm := by
      have : s₂ = ({ s₂ with vm := (U.calling g mk a).vm } : State).setVm s₂.vm := rfl
      rw [e2] at this
      exact this
    have hf₂ : s₂.frames = .throwing q :: .java g :: U.frames.tail := hend
    have hW' : U.WarmedH s₂.vm := hW₂
    have hs₂ : s₂ = ((({ U with heap := s₂.heap, slotsUsed := s₂.slotsUsed } : State).setVm s₂.vm).setTop g).pushFrame (.throwing q) := by
      refine e3.trans ?_
      rw [hf₂, State.calling_eq h.top, State.setFrames_setFrames, State.pushFrame, State.frames_setTop _ hr', State.setTop_of_frames _ hr', State.setFrames_setFrames, hr]
      rfl
    have hsame : U.sameButNew ({ U with heap := s₂.heap, slotsUsed := s₂.slotsUsed } : State) L mc ms := by
      refine ⟨?_, q2, q3, q4, q5, q6⟩
      obtain ⟨t, ht, -⟩ := State.frames_cons hr
      show ({ U with heap := s₂.heap, slotsUsed := s₂.slotsUsed } : State) = { U.setFrames U.frames with heap := s₂.heap, slotsUsed := s₂.slotsUsed }
      rw [State.setFrames_self ht]
    subst hg
    refine Or.inr ⟨q, ⟨(({ U with heap := s₂.heap, slotsUsed := s₂.slotsUsed } : State).setVm s₂.vm), Ls ++ L, c0 + mc, s0 + ms⟩,
      ⟨X.admits, X.cas, X.clock, X.frames, X.room, X.hears, X.method, X.code, (X.here.setHeapUsed s₂.heap s₂.slotsUsed).setVm hW'.alike, X.tail, State.WarmedH.trans X.warmed hW', X.limits, X.bytes, X.same.trans (hsame.setVm s.vm)⟩,
      ⟨g, mk, s₂, L, E, ce, rfl, rfl, hx, hce, hcv, hcl, rfl, hL, rfl, rfl⟩, ?_⟩
    show Steps p.tables e below _ (((({ U with heap := s₂.heap, slotsUsed := s₂.slotsUsed } : State).setVm s₂.vm).setTop g).pushFrame (.throwing q))
    rw [← hs₂]
    exact hsteps
end
variable {p : Program} {l : Launch} {e : Env} {R : Room} {s : State} {m : MethodId} {args : Array Value} {below : List Frame} {meth : Method} {c : Code} {T : State} {H : Heap} {locs : List Loc} {cells slots : Nat}
theorem vx_callVX (X : Stand p l e R s m args below meth c T locs cells slots) (hexec : p.tables.exec = Jvm.exec) {own C : String} {index : Nat} {y : MethodName} {bytes : ByteArray} {maxL : Nat} {ret : Option FieldType} {hh : List (Nat × Nat × Nat × Nat)}
    (hown : s.vm.findClass own = some m.cls) (hlink : (Cond.methodLink own index y).before args s = true) (hinst : (Cond.instanceMethod y).before args s = true) (hsel : (Cond.selects C y y).before args s = true)
    (hcode : (Cond.codeWith y bytes maxL ret hh).before args s = true) (hy : y.cls ≠ "java/lang/invoke/MethodHandle" ∧ y.cls ≠ "java/lang/invoke/VarHandle")
    {W9 : Nat} {Pre : Pt → Array Value → Prop} {Post : Pt → Array Value → Option Value → Pt → Prop} {PostX : Pt → Array Value → Addr → Pt → Prop} (hK : vx_Back l R p e below s args y 3 W9 Pre Post PostX)
    {b : Addr} {cellB : Cell} (hcell : T.heap[b]? = some cellB) (hobj : cellB.vm.isStatics = false) (hcls : s.vm.findClass C = some cellB.cls)
    {g : JFrame} (hg : g.method = m) (hsize : g.locals.size = c.maxLocals) {argsL rest : List Value} (hlen : ∀ sig, parseMethodDescriptor y.desc = some sig → argsL.length = sig.parameters.length)
    (hstack : g.stack = argsL.reverse ++ .ref b :: rest) (hW : 2 * g.monitorRoom + (rest.map fun v => v.category).sum ≤ W9) (hdg : decode c.code g.pc = .ok (.invokevirtual index, 3))
    (hpre : ∀ vm₁, s.WarmedH vm₁ → Pre ⟨T.setVm vm₁, locs, cells, slots⟩ (Value.ref b :: argsL).toArray) :
    (∃ (v : Option Value) (vm₁ : Vm) (B : Pt), s.WarmedH vm₁ ∧ Stand p l e R s m args below meth c B.U B.locs B.cells B.slots ∧ Post ⟨T.setVm vm₁, locs, cells, slots⟩ (Value.ref b :: argsL).toArray v B ∧
      ∀ target, Steps p.tables e below (B.U.setTop { g with pc := g.pc + 3, stack := v.toList ++ rest }) target → Steps p.tables e below (T.setTop g) target) ∨
    (∃ (q : Addr) (vm₁ : Vm) (B : Pt), s.WarmedH vm₁ ∧ Stand p l e R s m args below meth c B.U B.locs B.cells B.slots ∧ PostX ⟨T.setVm vm₁, locs, cells, slots⟩ (Value.ref b :: argsL).toArray q B ∧
      Steps p.tables e below (T.setTop g) ((B.U.setTop { g with stack := rest }).pushFrame (.throwing q))) := by
  obtain ⟨mk, methM, hnamed, hmethM, hstM, habM⟩ := Cond.instanceMethod_spec hinst
  obtain ⟨m8, methM', cM, hn8, hmethM', -, -, -, -, -, -, hsigM⟩ := Cond.codeWith_spec hcode
  cases Option.some.inj (hn8.symm.trans hnamed)
  cases hmethM.symm.trans hmethM'
  obtain ⟨c2, r2, m2, q1, q2, q3, q4, kP, hkP, hkPi⟩ := Cond.selects_spec hsel
  cases hcls.symm.trans q1
  cases (State.methodFound?_of_named hnamed hy).symm.trans q2
  cases hnamed.symm.trans q3
  have hselP : selectMethod e.platform s.vm cellB.cls mk = .method mk := by rw [Launch.admits_selectMethod X.admits]; exact q4
  obtain ⟨vm₁, X₁, hstep₁⟩ := X.invokevirtual hexec hown hlink hnamed hmethM hstM hkP hkPi hy (a := b) (cell := cellB) hcell
    (fun z h => by rw [h] at hobj; cases hobj) hselP hmethM habM hkP hkPi (g := g) hg (argsL := argsL) (rest := rest) (hlen _ hsigM) hstack hdg
  rcases hK m meth c ⟨T.setVm vm₁, locs, cells, slots⟩ { g with stack := rest } (.invokevirtual index) mk (Value.ref b :: argsL).toArray X₁ hg hsize hdg hW (X₁.named hnamed) (hpre vm₁ X₁.warmed) with ⟨v, B, X', hpost, hsteps⟩ | ⟨q, B, X', hpost, hsteps⟩
  · exact Or.inl ⟨v, vm₁, B, X₁.warmed, X', hpost, fun target h => hstep₁ _ fun acts => by rw [doInvoke_state]; exact hsteps.trans h⟩
  · exact Or.inr ⟨q, vm₁, B, X₁.warmed, X', hpost, hstep₁ _ fun acts => by rw [doInvoke_state]; exact hsteps⟩
theorem vx_callSX (X : Stand p l e R s m args below meth c T locs cells slots) (hexec : p.tables.exec = Jvm.exec) {own : String} {index : Nat} {y : MethodName} {bytes : ByteArray} {maxL : Nat} {ret : Option FieldType} {hh : List (Nat × Nat × Nat × Nat)}
    (hown : s.vm.findClass own = some m.cls) (hlink : (Cond.methodLink own index y).before args s = true) (hstat : (Cond.static y).before args s = true) (hinit : (Cond.initialized y.cls).before args s = true)
    (hcode : (Cond.codeWith y bytes maxL ret hh).before args s = true) (hy : y.cls ≠ "java/lang/invoke/MethodHandle" ∧ y.cls ≠ "java/lang/invoke/VarHandle")
    {W9 : Nat} {Pre : Pt → Array Value → Prop} {Post : Pt → Array Value → Option Value → Pt → Prop} {PostX : Pt → Array Value → Addr → Pt → Prop} (hK : vx_Back l R p e below s args y 3 W9 Pre Post PostX)
    {g : JFrame} (hg : g.method = m) (hsize : g.locals.size = c.maxLocals) {argsL rest : List Value} (hlen : ∀ sig, parseMethodDescriptor y.desc = some sig → argsL.length = sig.parameters.length)
    (hstack : g.stack = argsL.reverse ++ rest) (hW : 2 * g.monitorRoom + (rest.map fun v => v.category).sum ≤ W9) (hdg : decode c.code g.pc = .ok (.invokestatic index, 3))
    (hpre : ∀ vm₁, s.WarmedH vm₁ → Pre ⟨T.setVm vm₁, locs, cells, slots⟩ argsL.toArray) :
    (∃ (v : Option Value) (vm₁ : Vm) (B : Pt), s.WarmedH vm₁ ∧ Stand p l e R s m args below meth c B.U B.locs B.cells B.slots ∧ Post ⟨T.setVm vm₁, locs, cells, slots⟩ argsL.toArray v B ∧
      ∀ target, Steps p.tables e below (B.U.setTop { g with pc := g.pc + 3, stack := v.toList ++ rest }) target → Steps p.tables e below (T.setTop g) target) ∨
    (∃ (q : Addr) (vm₁ : Vm) (B : Pt), s.WarmedH vm₁ ∧ Stand p l e R s m args below meth c B.U B.locs B.cells B.slots ∧ PostX ⟨T.setVm vm₁, locs, cells, slots⟩ argsL.toArray q B ∧
      Steps p.tables e below (T.setTop g) ((B.U.setTop { g with stack := rest }).pushFrame (.throwing q))) := by
  obtain ⟨mk, methM, cM, hnamed, hmethM, -, -, -, -, -, -, hsigM⟩ := Cond.codeWith_spec hcode
  have hstatic : methM.isStatic = true := Cond.static_spec hnamed hmethM hstat
  obtain ⟨kP, hkP, -⟩ := className_of_methodNamed hnamed
  have hinitP : kP.init = .initialized := Cond.initialized_spec (findClass_of_methodNamed hnamed) hkP hinit
  obtain ⟨vm₁, X₁, hstep₁⟩ := X.invokestatic hexec hown hlink hnamed hmethM hstatic hkP hinitP hy (g := g) hg (argsL := argsL) (rest := rest) (hlen _ hsigM) hstack hdg
  rcases hK m meth c ⟨T.setVm vm₁, locs, cells, slots⟩ { g with stack := rest } (.invokestatic index) mk argsL.toArray X₁ hg hsize hdg hW (X₁.named hnamed) (hpre vm₁ X₁.warmed) with ⟨v, B, X', hpost, hsteps⟩ | ⟨q, B, X', hpost, hsteps⟩
  · exact Or.inl ⟨v, vm₁, B, X₁.warmed, X', hpost, fun target h => hstep₁ _ fun acts => by rw [doInvoke_state]; exact hsteps.trans h⟩
  · exact Or.inr ⟨q, vm₁, B, X₁.warmed, X', hpost, hstep₁ _ fun acts => by rw [doInvoke_state]; exact hsteps⟩
theorem vx_callVW (X : Stand p l e R s m args below meth c T locs cells slots) (hexec : p.tables.exec = Jvm.exec) {own C : String} {index : Nat} {y : MethodName} {bytes : ByteArray} {maxL : Nat} {ret : Option FieldType} {hh : List (Nat × Nat × Nat × Nat)}
    (hown : s.vm.findClass own = some m.cls) (hlink : (Cond.methodLink own index y).before args s = true) (hinst : (Cond.instanceMethod y).before args s = true) (hsel : (Cond.selects C y y).before args s = true)
    (hcode : (Cond.codeWith y bytes maxL ret hh).before args s = true) (hy : y.cls ≠ "java/lang/invoke/MethodHandle" ∧ y.cls ≠ "java/lang/invoke/VarHandle")
    {W9 : Nat} {Pre : Pt → Array Value → Prop} {Post : Pt → Array Value → Option Value → Pt → Prop} (hK : Back l R p e below s args y 3 W9 Pre Post)
    {b : Addr} {cellB : Cell} (hcell : T.heap[b]? = some cellB) (hobj : cellB.vm.isStatics = false) (hcls : s.vm.findClass C = some cellB.cls)
    {g : JFrame} (hg : g.method = m) (hsize : g.locals.size = c.maxLocals) {argsL rest : List Value} (hlen : ∀ sig, parseMethodDescriptor y.desc = some sig → argsL.length = sig.parameters.length)
    (hstack : g.stack = argsL.reverse ++ .ref b :: rest) (hW : 2 * g.monitorRoom + (rest.map fun v => v.category).sum ≤ W9) (hdg : decode c.code g.pc = .ok (.invokevirtual index, 3))
    (hpre : ∀ vm₁, s.WarmedH vm₁ → Pre ⟨T.setVm vm₁, locs, cells, slots⟩ (Value.ref b :: argsL).toArray) :
    ∃ (v : Option Value) (vm₁ : Vm) (B : Pt), s.WarmedH vm₁ ∧ Stand p l e R s m args below meth c B.U B.locs B.cells B.slots ∧ Post ⟨T.setVm vm₁, locs, cells, slots⟩ (Value.ref b :: argsL).toArray v B ∧
      ∀ target, Steps p.tables e below (B.U.setTop { g with pc := g.pc + 3, stack := v.toList ++ rest }) target → Steps p.tables e below (T.setTop g) target := by
  obtain ⟨mk, methM, hnamed, hmethM, hstM, habM⟩ := Cond.instanceMethod_spec hinst
  obtain ⟨m8, methM', cM, hn8, hmethM', -, -, -, -, -, -, hsigM⟩ := Cond.codeWith_spec hcode
  cases Option.some.inj (hn8.symm.trans hnamed)
  cases hmethM.symm.trans hmethM'
  obtain ⟨c2, r2, m2, q1, q2, q3, q4, kP, hkP, hkPi⟩ := Cond.selects_spec hsel
  cases hcls.symm.trans q1
  cases (State.methodFound?_of_named hnamed hy).symm.trans q2
  cases hnamed.symm.trans q3
  have hselP : selectMethod e.platform s.vm cellB.cls mk = .method mk := by rw [Launch.admits_selectMethod X.admits]; exact q4
  obtain ⟨vm₁, X₁, hstep₁⟩ := X.invokevirtual hexec hown hlink hnamed hmethM hstM hkP hkPi hy (a := b) (cell := cellB) hcell
    (fun z h => by rw [h] at hobj; cases hobj) hselP hmethM habM hkP hkPi (g := g) hg (argsL := argsL) (rest := rest) (hlen _ hsigM) hstack hdg
  obtain ⟨v, B, X', hpost, hsteps⟩ := hK m meth c ⟨T.setVm vm₁, locs, cells, slots⟩ { g with stack := rest } (.invokevirtual index) mk (Value.ref b :: argsL).toArray X₁ hg hsize hdg hW (X₁.named hnamed) (hpre vm₁ X₁.warmed)
  exact ⟨v, vm₁, B, X₁.warmed, X', hpost, fun target h => hstep₁ _ fun acts => by rw [doInvoke_state]; exact hsteps.trans h⟩
abbrev vx_CVW (R : Room) (s : State) (args : Array Value) (own C : String) (index : Nat) (y : MethodName) (bytes : ByteArray) (maxL : Nat) (ret : Option FieldType) (hh : List (Nat × Nat × Nat × Nat)) (ws : List Cond) (rm : Room) (mc ms n : Nat) : Prop :=
  (rm.cells = mc ∧ rm.slots = ms ∧ rm.frames + 1 ≤ R.frames ∧ 8 + (maxL + 11) + rm.locals ≤ R.locals ∧ (∀ w ∈ ws, ∀ (a' : Array Value) (U : State), s.WarmedH U.vm → w.before a' U = true) ∧ Cond.codeWith y bytes maxL ret hh ∈ ws) ∧
  (Cond.codeWith y bytes maxL ret hh).before args s = true ∧ (Cond.initialized y.cls).before args s = true ∧ (y.cls ≠ "java/lang/invoke/MethodHandle" ∧ y.cls ≠ "java/lang/invoke/VarHandle") ∧
  (∀ sig, parseMethodDescriptor y.desc = some sig → n = sig.parameters.length) ∧ (Cond.methodLink own index y).before args s = true ∧ (Cond.instanceMethod y).before args s = true ∧ (Cond.selects C y y).before args s = true
theorem vx_cwVW {own C : String} {index maxL mc ms : Nat} {y : MethodName} {bytes : ByteArray} {ret : Option FieldType} {hh : List (Nat × Nat × Nat × Nat)} {Ts ws ws' : List Cond} {rm : Room} (n : Nat) (ht : ∀ w ∈ Ts, w.before args s = true) (hT : GoodIn Ts (wsV own index C y ws)) (hw : ws = Cond.codeWith y bytes maxL ret hh :: ws') (hrc : rm.cells = mc) (hrs : rm.slots = ms)
    (hd : y.cls = C ∧ y.cls ≠ "java/lang/invoke/MethodHandle" ∧ y.cls ≠ "java/lang/invoke/VarHandle" ∧ (parseMethodDescriptor y.desc).map (fun d => d.parameters.length) = some n) (hR : rm.frames + 1 ≤ R.frames ∧ 8 + (maxL + 11) + rm.locals ≤ R.locals) :
    vx_CVW R s args own C index y bytes maxL ret hh ws rm mc ms n := by
  obtain ⟨hC, hd⟩ := hd
  subst hC
  have ok : ∀ w ∈ wsV own index y.cls y ws, w.before args s = true := fun w h => ht w (hT w h).1
  have hG : GoodIn Ts ws := fun w h => hT w (by unfold wsV; exact List.mem_append_right _ h)
  have hc : Cond.codeWith y bytes maxL ret hh ∈ ws := by rw [hw]; exact List.mem_cons_self
  refine ⟨⟨hrc, hrs, hR.1, hR.2, pay_in ht hG, hc⟩, ht _ (hG _ hc).1, ok _ (by simp [wsV]), ⟨hd.1, hd.2.1⟩, fun sig h => ?_, ok _ (by simp [wsV]), ok _ (by simp [wsV]), ok _ (by simp [wsV])⟩
  have h2 := hd.2.2
  rw [h] at h2
  exact (Option.some.inj h2).symm
theorem vx_runVW {y : MethodName} {bytes cc : ByteArray} {maxL nL mc ms n index : Nat} {ret : Option FieldType} {hh : List (Nat × Nat × Nat × Nat)} {ws : List Cond} {rm : Room} {Pc : Array Value → State → Prop} {Qc : Array Value → State → Outcome → State → Prop} {free : Addr → Prop} {Ts : List Cond} {own C : String} {b : Addr} {As rest : List Value} {g : JFrame}
    (S : CallFix p m c cc nL s args Ts own) (hM : Met l y ws rm Pc Qc mc ms free) (cw : vx_CVW R s args own C index y bytes maxL ret hh ws rm mc ms n) (hp : PreV s H C b Pc As)
    (hg : g.method = m) (hn : As.length = n) (hsize : g.locals.size = nL) (hstack : g.stack = As.reverse ++ .ref b :: rest) (hW : 2 * g.monitorRoom + (rest.map fun v => v.category).sum ≤ 8) (hdg : decode cc g.pc = .ok (.invokevirtual index, 3)) (hf : cells + mc ≤ R.cells ∧ slots + ms ≤ R.slots) :
    va_Run p l e R s m args below meth c H locs cells slots mc ms g rest (Qc (Value.ref b :: As).toArray) free := by
  obtain ⟨⟨hrc, hrs, hfr, hlo, hws, hcw⟩, hcode, hini, hy, hlen, hl, hin, hse⟩ := cw
  have hK : Back l R p e below s args y 3 8 (PreOf R mc ms Pc) (PostOf Qc mc ms free) := va_backW (hh := hh) (bytes := bytes) (maxL := maxL) (ret := ret) hM hp.1 hrc hrs hfr hlo hws hcw (fun a' U hW => word_at hW (Or.inl (by first | rfl | simp [Cond.onTables, Cond.keeps, Cond.steady])) hini)
  obtain ⟨hx, hb, hml, ho, -⟩ := S
  obtain ⟨-, ⟨cellB, hcB, hoB, hclB⟩, hPc⟩ := hp
  intro T hT X
  obtain ⟨v, vm₁, ⟨U', l2, c2, s2⟩, hW₁, X', ⟨g', mk, t, L, e1, e2, hq, h1, hL, h2, h3⟩, st⟩ := vx_callVW X hx (C := C) (hh := hh) (bytes := bytes) (maxL := maxL) (ret := ret) ho hl hin hse hcode hy hK (by rw [hT]; exact hcB) hoB hclB hg (hsize.trans hml.symm) (argsL := As) (rest := rest) (fun sig h => hn.trans (hlen sig h)) hstack hW (by rw [hb]; exact hdg)
    (fun vm₁ hW₁ => ⟨hf.1, hf.2, hPc (T.setVm vm₁) hT hW₁⟩)
  dsimp only [Pt.U, Pt.locs, Pt.cells, Pt.slots] at X' e1 e2 h1 h2 h3 st
  subst h1; subst h2; subst h3
  exact ⟨v, (T.setVm vm₁).calling g' mk (Value.ref b :: As).toArray, t, U', L, hT, X', hL, e1, e2, hq, st⟩
section
variable {y : MethodName} {bytes cc : ByteArray} {maxL nL mc ms n index : Nat} {ret : Option FieldType} {ws : List Cond} {rm : Room} {Pc : Array Value → State → Prop} {Qc : Array Value → State → Outcome → State → Prop} {XC : String → State → State → Prop} {free : Addr → Prop} {Ts : List Cond} {own C : String} {b : Addr} {As rest : List Value} {g : JFrame}
theorem vx_runVX {hh : List (Nat × Nat × Nat × Nat)} (S : CallFix p m c cc nL s args Ts own) (hM : vx_Met l y ws rm Pc Qc XC mc ms free) (cw : vx_CVW R s args own C index y bytes maxL ret hh ws rm mc ms n) (hp : PreV s H C b Pc As)
    (hg : g.method = m) (hn : As.length = n) (hsize : g.locals.size = nL) (hstack : g.stack = As.reverse ++ .ref b :: rest) (hW : 2 * g.monitorRoom + (rest.map fun v => v.category).sum ≤ 8) (hdg : decode cc g.pc = .ok (.invokevirtual index, 3)) (hf : cells + mc ≤ R.cells ∧ slots + ms ≤ R.slots) :
    vx_Run p l e R s m args below meth c H locs cells slots mc ms g rest (Qc (Value.ref b :: As).toArray) XC free := by
  obtain ⟨⟨hrc, hrs, hfr, hlo, hws, hcw⟩, hcode, hini, hy, hlen, hl, hin, hse⟩ := cw
  have hK : vx_Back l R p e below s args y 3 8 (PreOf R mc ms Pc) (PostOf Qc mc ms free) (vx_Post XC mc ms free) := vx_backW (hh := hh) (bytes := bytes) (maxL := maxL) (ret := ret) hM hp.1 hrc hrs hfr hlo hws hcw (fun a' U hW => word_at hW (Or.inl (by first | rfl | simp [Cond.onTables, Cond.keeps, Cond.steady])) hini)
  obtain ⟨hx, hb, hml, ho, -⟩ := S
  obtain ⟨-, ⟨cellB, hcB, hoB, hclB⟩, hPc⟩ := hp
  intro T hT X
  rcases vx_callVX X hx (C := C) (hh := hh) (bytes := bytes) (maxL := maxL) (ret := ret) ho hl hin hse hcode hy hK (by rw [hT]; exact hcB) hoB hclB hg (hsize.trans hml.symm) (argsL := As) (rest := rest) (fun sig h => hn.trans (hlen sig h)) hstack hW (by rw [hb]; exact hdg)
    (fun vm₁ hW₁ => ⟨hf.1, hf.2, hPc (T.setVm vm₁) hT hW₁⟩) with ⟨v, vm₁, ⟨U', l2, c2, s2⟩, hW₁, X', ⟨g', mk, t, L, e1, e2, hq, h1, hL, h2, h3⟩, st⟩ | ⟨q, vm₁, ⟨U', l2, c2, s2⟩, hW₁, X', ⟨g', mk, t, L, E, ce, e1, e2, hq, hce, hcv, hcl, h1, hL, h2, h3⟩, st⟩
  · dsimp only [Pt.U, Pt.locs, Pt.cells, Pt.slots] at X' e1 e2 h1 h2 h3 st
    subst h1; subst h2; subst h3
    exact Or.inl ⟨v, (T.setVm vm₁).calling g' mk (Value.ref b :: As).toArray, t, U', L, hT, X', hL, e1, e2, hq, st⟩
  · dsimp only [Pt.U, Pt.locs, Pt.cells, Pt.slots] at X' e1 e2 h1 h2 h3 st hcl
    subst h1; subst h2; subst h3
    exact Or.inr ⟨q, (T.setVm vm₁).calling g' mk (Value.ref b :: As).toArray, t, U', L, E, ce, hT, X', hL, e1, e2, hq, hce, hcv, vx_cls hW₁ hcl, st⟩
theorem vx_runSX {hh : List (Nat × Nat × Nat × Nat)} (S : CallFix p m c cc nL s args Ts own) (hM : vx_Met l y ws rm Pc Qc XC mc ms free) (cw : vx_CSW R s args own index y bytes maxL ret hh ws rm mc ms n) (hp : PreS s H Pc As)
    (hg : g.method = m) (hn : As.length = n) (hsize : g.locals.size = nL) (hstack : g.stack = As.reverse ++ rest) (hW : 2 * g.monitorRoom + (rest.map fun v => v.category).sum ≤ 8) (hdg : decode cc g.pc = .ok (.invokestatic index, 3)) (hf : cells + mc ≤ R.cells ∧ slots + ms ≤ R.slots) :
    vx_Run p l e R s m args below meth c H locs cells slots mc ms g rest (Qc As.toArray) XC free := by
  obtain ⟨⟨hrc, hrs, hfr, hlo, hws, hcw⟩, hcode, hini, hy, hlen, hl, hstt⟩ := cw
  have hK : vx_Back l R p e below s args y 3 8 (PreOf R mc ms Pc) (PostOf Qc mc ms free) (vx_Post XC mc ms free) := vx_backW (hh := hh) (bytes := bytes) (maxL := maxL) (ret := ret) hM hp.1 hrc hrs hfr hlo hws hcw (fun a' U hW => word_at hW (Or.inl (by first | rfl | simp [Cond.onTables, Cond.keeps, Cond.steady])) hini)
  obtain ⟨hx, hb, hml, ho, -⟩ := S
  intro T hT X
  rcases vx_callSX X hx (hh := hh) (bytes := bytes) (maxL := maxL) (ret := ret) ho hl hstt hini hcode hy hK hg (hsize.trans hml.symm) (argsL := As) (rest := rest) (fun sig h => hn.trans (hlen sig h)) hstack hW (by rw [hb]; exact hdg)
    (fun vm₁ hW₁ => ⟨hf.1, hf.2, hp.2 (T.setVm vm₁) hT hW₁⟩) with ⟨v, vm₁, ⟨U', l2, c2, s2⟩, hW₁, X', ⟨g', mk, t, L, e1, e2, hq, h1, hL, h2, h3⟩, st⟩ | ⟨q, vm₁, ⟨U', l2, c2, s2⟩, hW₁, X', ⟨g', mk, t, L, E, ce, e1, e2, hq, hce, hcv, hcl, h1, hL, h2, h3⟩, st⟩
  · dsimp only [Pt.U, Pt.locs, Pt.cells, Pt.slots] at X' e1 e2 h1 h2 h3 st
    subst h1; subst h2; subst h3
    exact Or.inl ⟨v, (T.setVm vm₁).calling g' mk As.toArray, t, U', L, hT, X', hL, e1, e2, hq, st⟩
  · dsimp only [Pt.U, Pt.locs, Pt.cells, Pt.slots] at X' e1 e2 h1 h2 h3 st hcl
    subst h1; subst h2; subst h3
    exact Or.inr ⟨q, (T.setVm vm₁).calling g' mk As.toArray, t, U', L, E, ce, hT, X', hL, e1, e2, hq, hce, hcv, vx_cls hW₁ hcl, st⟩
end
end VXH
theorem vx_ofWH {l : Launch} {y : MethodName} {ws ws' : List Cond} {rm : Room} {Pc : Array Value → State → Prop} {Qc : Array Value → State → Outcome → State → Prop} {XC : String → State → State → Prop} {mc ms : Nat} {free : Addr → Prop} {cc : ByteArray} {maxL : Nat} {ret : Option FieldType} {hh : List (Nat × Nat × Nat × Nat)}
    (hy : plainName y.cls = true) (hw : ws = Cond.codeWith y cc maxL ret hh :: ws')
    (body : ∀ p e s m args below meth c s₁, BodyLoose p l y (headSpec ws rm) cc maxL ret e s m args below meth c s₁ → c.maxLocals = maxL → Pc args s →
      W p l e (headSpec ws rm).room s m args below meth c s.heap [] 0 0 (vx_MQ below Qc XC args s mc ms free) (entryFrame m args maxL)) : vx_Met l y ws rm Pc Qc XC mc ms free := by
  refine MetFree.of_bodyS (code := cc) (maxLocals := maxL) (ret := ret) hy ?_ ?_
  · intro args s m h hn
    obtain ⟨m9, meth, c, hn9, h1, h2, h3, h4, -, h5, h6, -⟩ := Cond.codeWith_spec (atoms_spec (ws := ws) h _ (by rw [hw]; exact List.mem_cons_self))
    cases hn.symm.trans hn9
    exact ⟨meth, c, h1, h2, h3, h4, h5, h6⟩
  · intro p e s m args below meth c s₁ B hml hP _
    have hh0 : s₁.heap = s.heap := by rw [B.state]; rfl
    obtain ⟨t, a1, o, b1, b2, b3⟩ := body p e s m args below meth c s₁ B hml hP s₁ hh0 (Stand.of_body B)
    exact ⟨t, o, a1, b1, b2, b3⟩
/-! ===== END ===== -/
end
section
/-! THE PURE SIDE: what the class's marker and search do to numbers, and why they end at what is reached. Nothing here speaks of the machine. -/
section
/-- k is an object's number -/
def pm_has (N : Nat) (x : Int32) : Bool := decide (0 ≤ x) && decide (x < nI N)
theorem pm_has_nI {N j : Nat} (hN : N < 2 ^ 31) (hj : j < N) : pm_has N (nI j) = true := by
  simp only [pm_has, Bool.and_eq_true, decide_eq_true_eq]
  exact ⟨nI_pos' (by omega), nI_lt hj hN⟩
theorem pm_has_of {N : Nat} {x : Int32} (hN : N < 2 ^ 31) (h : pm_has N x = true) : ∃ j : Nat, j < N ∧ x = nI j := by
  simp only [pm_has, Bool.and_eq_true, decide_eq_true_eq] at h
  have h0 : ¬ x < 0 := by
    have := h.1
    rw [Int32.le_iff_toInt_le] at this
    rw [Int32.lt_iff_toInt_lt]
    omega
  obtain ⟨j, hj, rfl⟩ := nI_of h0
  exact ⟨j, (nI_ltI hj hN).mp h.2, rfl⟩
theorem pm_has_cl {N : Nat} {x : Int32} (hN : N < 2 ^ 31) (h : pm_has N x = true) : x.toNatClampNeg < N ∧ x = nI x.toNatClampNeg := by
  obtain ⟨j, hj, rfl⟩ := pm_has_of hN h
  rw [nI_clamp (by omega)]
  exact ⟨hj, rfl⟩
theorem pm_has_no {N : Nat} (x : Int32) (hN : N < 2 ^ 31) (h : ∀ j, j < N → x ≠ nI j) : pm_has N x = false := by
  cases hh : pm_has N x with
  | false => rfl
  | true =>
    obtain ⟨j, hj, e⟩ := pm_has_of hN hh
    exact absurd e (h j hj)
/-- how many of the first n are not 0 -/
def pm_cnt (f : Nat → Int32) : Nat → Nat
  | 0 => 0
  | n + 1 => pm_cnt f n + (if f n = 0 then 0 else 1)
theorem pm_cnt_le (f : Nat → Int32) : ∀ n, pm_cnt f n ≤ n := by
  intro n
  induction n with
  | zero => exact Nat.le_refl 0
  | succ n ih => simp only [pm_cnt]; split <;> omega
theorem pm_cnt_congr {f g : Nat → Int32} : ∀ n, (∀ i, i < n → (f i = 0 ↔ g i = 0)) → pm_cnt f n = pm_cnt g n := by
  intro n
  induction n with
  | zero => intro _; rfl
  | succ n ih =>
    intro h
    have h1 := ih (fun i hi => h i (by omega))
    have h2 := h n (by omega)
    simp only [pm_cnt, h1]
    by_cases hf : f n = 0
    · rw [if_pos hf, if_pos (h2.mp hf)]
    · rw [if_neg hf, if_neg (fun q => hf (h2.mpr q))]
theorem pm_cnt_up {f : Nat → Int32} {k : Nat} {v : Int32} (hv : ¬ v = 0) (h0 : f k = 0) : ∀ n, k < n → pm_cnt (upd f k v) n = pm_cnt f n + 1 := by
  intro n
  induction n with
  | zero => intro h; omega
  | succ n ih =>
    intro h
    by_cases hk : k = n
    · subst hk
      have h1 : pm_cnt (upd f k v) k = pm_cnt f k := pm_cnt_congr k (fun i hi => by rw [pk_un (by omega)])
      simp only [pm_cnt, h1, pk_us, if_neg hv, if_pos h0]
    · have h1 := ih (by omega)
      simp only [pm_cnt, h1]
      rw [pk_un (show n ≠ k by omega)]
      omega
theorem pm_cnt_lt {f : Nat → Int32} {k n : Nat} (h0 : f k = 0) (hk : k < n) : pm_cnt f n < n := by
  have h1 := pm_cnt_up (v := 1) (by decide) h0 n hk
  have h2 := pm_cnt_le (upd f k 1) n
  omega
theorem pm_cnt_0 {f : Nat → Int32} : ∀ n, (∀ i, i < n → f i = 0) → pm_cnt f n = 0 := by
  intro n
  induction n with
  | zero => intro _; rfl
  | succ n ih =>
    intro h
    simp only [pm_cnt, ih (fun i hi => h i (by omega)), if_pos (h n (by omega))]
/-- the first n are 0 -/
def pm_clr (n : Nat) (f : Nat → Int32) : Nat → Int32 := fun i => if i < n then 0 else f i
theorem pm_clr_0 (f : Nat → Int32) : pm_clr 0 f = f := by
  funext i
  simp [pm_clr]
theorem pm_clr_s (n : Nat) (f : Nat → Int32) : upd (pm_clr n f) n 0 = pm_clr (n + 1) f := by
  funext i
  simp only [upd, pm_clr]
  by_cases h : i = n
  · rw [if_pos h, if_pos (by omega)]
  · rw [if_neg h]
    by_cases h2 : i < n
    · rw [if_pos h2, if_pos (by omega)]
    · rw [if_neg h2, if_neg (by omega)]
theorem pm_clr_in {n i : Nat} (f : Nat → Int32) (h : i < n) : pm_clr n f i = 0 := by
  simp [pm_clr, h]
/-! the graph -/
def pm_Ok (N : Nat) (cn : Nat → Nat) (fl rt : Nat → Int32) : Prop :=
  N ≤ 400 ∧ (∀ k, k < N → cn k ≤ 20) ∧ (∀ k, k < N → ∀ j, j < cn k → fl (k * 20 + j) = -1 ∨ ∃ m, m < N ∧ fl (k * 20 + j) = nI m) ∧ (∀ i, i < 16 → rt i = -1 ∨ ∃ m, m < N ∧ rt i = nI m)
def pm_E (N : Nat) (cn : Nat → Nat) (fl : Nat → Int32) (a b : Nat) : Prop := a < N ∧ b < N ∧ ∃ j, j < cn a ∧ fl (a * 20 + j) = nI b
def pm_R (N : Nat) (rt : Nat → Int32) (b : Nat) : Prop := b < N ∧ ∃ i, i < 16 ∧ rt i = nI b
def pm_reach (N : Nat) (cn : Nat → Nat) (fl rt : Nat → Int32) (m : Nat) : Prop := ∀ S : Nat → Prop, (∀ b, pm_R N rt b → S b) → (∀ a b, S a → pm_E N cn fl a b → S b) → S m
theorem pm_reach_r {N : Nat} {cn : Nat → Nat} {fl rt : Nat → Int32} {b : Nat} (h : pm_R N rt b) : pm_reach N cn fl rt b := fun _ h1 _ => h1 b h
theorem pm_reach_e {N : Nat} {cn : Nat → Nat} {fl rt : Nat → Int32} {a b : Nat} (h : pm_reach N cn fl rt a) (he : pm_E N cn fl a b) : pm_reach N cn fl rt b := fun S h1 h2 => h2 a b (h S h1 h2) he
theorem pm_reach_lt {N : Nat} {cn : Nat → Nat} {fl rt : Nat → Int32} {m : Nat} (h : pm_reach N cn fl rt m) : m < N := h (fun b => b < N) (fun _ hb => hb.1) (fun _ _ _ he => he.2.1)
/-! the pile: marks, what is kept, how many are kept, the lowest forgotten -/
abbrev pm_P : Type := (Nat → Int32) × (Nat → Int32) × Nat × Nat
def pm_keep (lim : Nat) (P : pm_P) (k : Nat) : pm_P := match P with
  | (mr, kp, kc, nf) => if kc < lim ∧ kc < 64 then (mr, upd kp kc (nI k), kc + 1, nf) else if k < nf then (mr, kp, kc, k) else (mr, kp, kc, nf)
def pm_put (N lim : Nat) (P : pm_P) (x : Int32) : pm_P := match P with
  | (mr, kp, kc, nf) => if pm_has N x = true then (if mr x.toNatClampNeg = 0 then pm_keep lim (upd mr x.toNatClampNeg 1, kp, kc, nf) x.toNatClampNeg else (mr, kp, kc, nf)) else (mr, kp, kc, nf)
def pm_mf (N lim : Nat) (g : Nat → Int32) : Nat → pm_P → pm_P
  | 0, P => P
  | j + 1, P => pm_put N lim (pm_mf N lim g j P) (g j)
def pm_go (N : Nat) (cn : Nat → Nat) (fl : Nat → Int32) (lim : Nat) (P : pm_P) (x : Int32) : pm_P :=
  if pm_has N x = true then pm_mf N lim (fun j => fl (x.toNatClampNeg * 20 + j)) (cn x.toNatClampNeg) P else P
/-- what a pile is worth: it falls with each mark -/
def pm_pot (P : pm_P) : Nat := (400 - pm_cnt P.1 400) * 402 + P.2.2.1 + (400 - P.2.2.2)
/-- the pile P' comes of P by marking: S is where the marks may lie -/
def pm_Le (N : Nat) (P P' : pm_P) : Prop :=
  (∀ m, m < 400 → ¬ P.1 m = 0 → ¬ P'.1 m = 0) ∧ P.2.2.1 ≤ P'.2.2.1 ∧ (∀ i, i < P.2.2.1 → P'.2.1 i = P.2.1 i) ∧ P'.2.2.2 ≤ P.2.2.2 ∧
  (∀ m, m < 400 → P.1 m = 0 → ¬ P'.1 m = 0 → m < N ∧ ((∃ i, i < P'.2.2.1 ∧ P'.2.1 i = nI m) ∨ P'.2.2.2 ≤ m)) ∧
  (∀ i, P.2.2.1 ≤ i → i < P'.2.2.1 → ∃ m, m < N ∧ P'.2.1 i = nI m ∧ ¬ P'.1 m = 0) ∧
  (P.2.2.1 ≤ 64 → P'.2.2.1 ≤ 64) ∧ pm_pot P' ≤ pm_pot P
theorem pm_Le_rf {N : Nat} (P : pm_P) : pm_Le N P P :=
  ⟨fun _ _ h => h, Nat.le_refl _, fun _ _ => rfl, Nat.le_refl _, fun m _ h h' => absurd h h', fun i h h' => by omega, fun h => h, Nat.le_refl _⟩
theorem pm_Le_tr {N : Nat} (hN : N ≤ 400) {P P1 P2 : pm_P} (h : pm_Le N P P1) (h' : pm_Le N P1 P2) : pm_Le N P P2 := by
  obtain ⟨a1, a2, a3, a4, a5, a6, a7, a8⟩ := h
  obtain ⟨b1, b2, b3, b4, b5, b6, b7, b8⟩ := h'
  refine ⟨fun m hm q => b1 m hm (a1 m hm q), by omega, fun i hi => ?_, by omega, fun m hm q q' => ?_, fun i hi hi' => ?_, fun q => b7 (a7 q), by omega⟩
  · rw [b3 i (by omega), a3 i hi]
  · by_cases hm1 : P1.1 m = 0
    · exact b5 m hm hm1 q'
    · obtain ⟨c1, c2⟩ := a5 m hm q hm1
      refine ⟨c1, ?_⟩
      rcases c2 with ⟨i, hi, e⟩ | c2
      · exact Or.inl ⟨i, by omega, by rw [b3 i hi]; exact e⟩
      · exact Or.inr (by omega)
  · by_cases hx : i < P1.2.2.1
    · obtain ⟨m, hm, e, hk⟩ := a6 i hi hx
      exact ⟨m, hm, by rw [b3 i hx]; exact e, b1 m (by omega) hk⟩
    · exact b6 i (by omega) hi'
/-- one object is marked: what comes of it -/
theorem pm_put_le {N lim : Nat} (hN : N ≤ 400) (P : pm_P) (x : Int32) : pm_Le N P (pm_put N lim P x) := by
  obtain ⟨mr, kp, kc, nf⟩ := P
  simp only [pm_put]
  by_cases hx : pm_has N x = true
  · rw [if_pos hx]
    obtain ⟨k, hk, rfl⟩ := pm_has_of (by omega) hx
    rw [nI_clamp (by omega)]
    by_cases h0 : mr k = 0
    · rw [if_pos h0]
      have hc := pm_cnt_up (v := 1) (by decide) h0 400 (by omega)
      have hl := pm_cnt_le (upd mr k 1) 400
      have hmk : ∀ m, m < 400 → ¬ mr m = 0 → ¬ upd mr k 1 m = 0 := fun m _ q => by
        by_cases e : m = k
        · rw [e, pk_us]; decide
        · rw [pk_un e]; exact q
      have hnew : ∀ m, mr m = 0 → ¬ upd mr k 1 m = 0 → m = k := fun m q q' => by
        by_cases e : m = k
        · exact e
        · rw [pk_un e] at q'; exact absurd q q'
      simp only [pm_keep]
      by_cases hp : kc < lim ∧ kc < 64
      · rw [if_pos hp]
        refine ⟨hmk, Nat.le_succ _, fun i hi => pk_un (show i ≠ kc from Nat.ne_of_lt hi), Nat.le_refl _, fun m _ q q' => ?_, fun i hi hi' => ?_, fun _ => hp.2, ?_⟩
        · have e := hnew m q q'
          subst e
          exact ⟨hk, Or.inl ⟨kc, Nat.lt_succ_self _, pk_us⟩⟩
        · have e : i = kc := by dsimp only at hi hi'; omega
          subst e
          exact ⟨k, hk, pk_us, by show ¬ upd mr k 1 k = 0; rw [pk_us]; decide⟩
        · simp only [pm_pot]; omega
      · rw [if_neg hp]
        by_cases hf : k < nf
        · rw [if_pos hf]
          refine ⟨hmk, Nat.le_refl _, fun i _ => rfl, Nat.le_of_lt hf, fun m _ q q' => ?_, fun i hi hi' => by dsimp only at hi hi'; omega, fun h => h, ?_⟩
          · have e := hnew m q q'
            subst e
            exact ⟨hk, Or.inr (Nat.le_refl _)⟩
          · simp only [pm_pot]; omega
        · rw [if_neg hf]
          refine ⟨hmk, Nat.le_refl _, fun i _ => rfl, Nat.le_refl _, fun m _ q q' => ?_, fun i hi hi' => by dsimp only at hi hi'; omega, fun h => h, ?_⟩
          · have e := hnew m q q'
            subst e
            exact ⟨hk, Or.inr (by dsimp only; omega)⟩
          · simp only [pm_pot]; omega
    · rw [if_neg h0]; exact pm_Le_rf _
  · rw [if_neg hx]; exact pm_Le_rf _
theorem pm_put_mk {N lim : Nat} (hN : N ≤ 400) (P : pm_P) {k : Nat} (hk : k < N) : ¬ (pm_put N lim P (nI k)).1 k = 0 := by
  obtain ⟨mr, kp, kc, nf⟩ := P
  simp only [pm_put]
  rw [if_pos (pm_has_nI (by omega) hk), nI_clamp (by omega)]
  by_cases h0 : mr k = 0
  · rw [if_pos h0]
    have e : (pm_keep lim (upd mr k 1, kp, kc, nf) k).1 = upd mr k 1 := by
      simp only [pm_keep]
      split
      · rfl
      · split <;> rfl
    rw [e, pk_us]; decide
  · rw [if_neg h0]; exact h0
/-- marks lie in S -/
def pm_Sd (S : Nat → Prop) (P : pm_P) : Prop := ∀ m, m < 400 → ¬ P.1 m = 0 → S m
theorem pm_put_sd {N lim : Nat} (hN : N ≤ 400) {S : Nat → Prop} {P : pm_P} {x : Int32} (h : pm_Sd S P) (hx : ∀ k, k < N → x = nI k → S k) : pm_Sd S (pm_put N lim P x) := by
  obtain ⟨mr, kp, kc, nf⟩ := P
  simp only [pm_put]
  by_cases hh : pm_has N x = true
  · rw [if_pos hh]
    obtain ⟨k, hk, rfl⟩ := pm_has_of (by omega) hh
    rw [nI_clamp (by omega)]
    by_cases h0 : mr k = 0
    · rw [if_pos h0]
      have e : (pm_keep lim (upd mr k 1, kp, kc, nf) k).1 = upd mr k 1 := by
        simp only [pm_keep]
        split
        · rfl
        · split <;> rfl
      intro m hm hmk
      rw [e] at hmk
      by_cases em : m = k
      · subst em; exact hx m hk rfl
      · rw [pk_un em] at hmk; exact h m hm hmk
    · rw [if_neg h0]; exact h
  · rw [if_neg hh]; exact h
theorem pm_mf_le {N lim : Nat} (hN : N ≤ 400) (g : Nat → Int32) : ∀ (n : Nat) (P : pm_P), pm_Le N P (pm_mf N lim g n P) := by
  intro n
  induction n with
  | zero => intro P; exact pm_Le_rf P
  | succ n ih => intro P; exact pm_Le_tr hN (ih P) (pm_put_le hN _ _)
theorem pm_mf_mk {N lim : Nat} (hN : N ≤ 400) (g : Nat → Int32) : ∀ (n : Nat) (P : pm_P) (j k : Nat), j < n → k < N → g j = nI k → ¬ (pm_mf N lim g n P).1 k = 0 := by
  intro n
  induction n with
  | zero => intro P j k h; omega
  | succ n ih =>
    intro P j k hj hk e
    simp only [pm_mf]
    by_cases h : j = n
    · subst h; rw [e]; exact pm_put_mk hN _ hk
    · exact (pm_put_le hN _ _).1 k (by omega) (ih P j k (by omega) hk e)
theorem pm_mf_sd {N lim : Nat} (hN : N ≤ 400) {S : Nat → Prop} (g : Nat → Int32) : ∀ (n : Nat) (P : pm_P), pm_Sd S P → (∀ j k, j < n → k < N → g j = nI k → S k) → pm_Sd S (pm_mf N lim g n P) := by
  intro n
  induction n with
  | zero => intro P h _; exact h
  | succ n ih =>
    intro P h hg
    simp only [pm_mf]
    exact pm_put_sd hN (ih P h (fun j k hj => hg j k (by omega))) (fun k hk e => hg n k (Nat.lt_succ_self n) hk e)
theorem pm_go_le {N lim : Nat} (hN : N ≤ 400) (cn : Nat → Nat) (fl : Nat → Int32) (P : pm_P) (x : Int32) : pm_Le N P (pm_go N cn fl lim P x) := by
  simp only [pm_go]
  split
  · exact pm_mf_le hN _ _ _
  · exact pm_Le_rf P
theorem pm_go_mk {N lim : Nat} (hN : N ≤ 400) {cn : Nat → Nat} {fl : Nat → Int32} (P : pm_P) {a b : Nat} (h : pm_E N cn fl a b) : ¬ (pm_go N cn fl lim P (nI a)).1 b = 0 := by
  obtain ⟨ha, hb, j, hj, e⟩ := h
  simp only [pm_go]
  rw [if_pos (pm_has_nI (by omega) ha), nI_clamp (by omega)]
  exact pm_mf_mk hN _ _ _ j b hj hb e
theorem pm_go_sd {N lim : Nat} (hN : N ≤ 400) {S : Nat → Prop} {cn : Nat → Nat} {fl : Nat → Int32} {P : pm_P} {a : Nat} (h : pm_Sd S P) (ha : a < N) (hS : ∀ b, pm_E N cn fl a b → S b) : pm_Sd S (pm_go N cn fl lim P (nI a)) := by
  simp only [pm_go]
  rw [if_pos (pm_has_nI (by omega) ha), nI_clamp (by omega)]
  exact pm_mf_sd hN _ _ _ h (fun j k hj hk e => hS k ⟨ha, hk, j, hj, e⟩)
end
end
section
/-! THE MARKER: a step of marking, a step of cleaning, and their runs -/
section
/-- marks, changed, kept, the limit, how many are kept, the next root, the lowest forgotten, the lowest changed -/
abbrev pm_M : Type := (Nat → Int32) × (Nat → Int32) × (Nat → Int32) × Nat × Nat × Nat × Nat × Nat
def pm_in (ch : Nat → Int32) (lim nr nc : Nat) (P : pm_P) : pm_M := (P.1, ch, P.2.1, lim, P.2.2.1, nr, P.2.2.2, nc)
def pm_ms (N : Nat) (cn : Nat → Nat) (fl rt : Nat → Int32) (M : pm_M) : Bool × pm_M := match M with
  | (mr, ch, kp, lim, kc, nr, nf, nc) =>
    if nr < 16 then (true, pm_in ch lim (nr + 1) nc (pm_put N lim (mr, kp, kc, nf) (rt nr)))
    else if 0 < kc then (true, pm_in ch lim nr nc (pm_go N cn fl lim (mr, kp, kc - 1, nf) (kp (kc - 1))))
    else if nf < N then (if mr nf = 0 then (true, (mr, ch, kp, lim, kc, nr, nf + 1, nc)) else (true, pm_in ch lim nr nc (pm_go N cn fl lim (mr, kp, kc, nf + 1) (nI nf))))
    else (false, (mr, ch, kp, lim, kc, nr, nf, nc))
def pm_cs (N : Nat) (cn : Nat → Nat) (fl : Nat → Int32) (M : pm_M) : Bool × pm_M := match M with
  | (mr, ch, kp, lim, kc, nr, nf, nc) =>
    if nc < N then (if ch nc = 0 then (true, (mr, ch, kp, lim, kc, nr, nf, nc + 1)) else if mr nc = 0 then (true, (mr, upd ch nc 0, kp, lim, kc, nr, nf, nc + 1)) else (true, pm_in (upd ch nc 0) lim nr (nc + 1) (pm_go N cn fl lim (mr, kp, kc, nf) (nI nc))))
    else (false, (mr, ch, kp, lim, kc, nr, nf, nc))
def pm_fs (N : Nat) (cn : Nat → Nat) (fl rt : Nat → Int32) (M : pm_M) : Bool × pm_M := if (pm_ms N cn fl rt M).1 = true then pm_ms N cn fl rt M else pm_cs N cn fl (pm_ms N cn fl rt M).2
def pm_run (f : pm_M → Bool × pm_M) : Nat → pm_M → pm_M
  | 0, M => M
  | n + 1, M => if (f M).1 = true then pm_run f n (f M).2 else (f M).2
/-- the pile of a marker -/
abbrev pm_pl (M : pm_M) : pm_P := (M.1, M.2.2.1, M.2.2.2.2.1, M.2.2.2.2.2.2.1)
abbrev pm_ch (M : pm_M) : Nat → Int32 := M.2.1
abbrev pm_lim (M : pm_M) : Nat := M.2.2.2.1
abbrev pm_kc (M : pm_M) : Nat := M.2.2.2.2.1
abbrev pm_nr (M : pm_M) : Nat := M.2.2.2.2.2.1
abbrev pm_nf (M : pm_M) : Nat := M.2.2.2.2.2.2.1
abbrev pm_nc (M : pm_M) : Nat := M.2.2.2.2.2.2.2
/-- a marked object waits somewhere, or all that it has is marked -/
def pm_Cv (N : Nat) (cn : Nat → Nat) (fl : Nat → Int32) (P : pm_P) (ch : Nat → Int32) (nc m : Nat) : Prop :=
  (∃ i, i < P.2.2.1 ∧ P.2.1 i = nI m) ∨ P.2.2.2 ≤ m ∨ (¬ ch m = 0 ∧ nc ≤ m) ∨ ∀ b, pm_E N cn fl m b → ¬ P.1 b = 0
def pm_Si (M : pm_M) : Prop := pm_lim M ≤ 64 ∧ pm_kc M ≤ 64 ∧ pm_nr M ≤ 16 ∧ pm_nf M ≤ 400 ∧ pm_nc M ≤ 400
def pm_Zi (N : Nat) (P : pm_P) : Prop := ∀ m, m < 400 → ¬ P.1 m = 0 → m < N
def pm_Ki (N : Nat) (P : pm_P) : Prop := ∀ i, i < P.2.2.1 → ∃ m, m < N ∧ P.2.1 i = nI m ∧ ¬ P.1 m = 0
def pm_Ci (N : Nat) (cn : Nat → Nat) (fl : Nat → Int32) (M : pm_M) : Prop := ∀ m, m < N → ¬ M.1 m = 0 → pm_Cv N cn fl (pm_pl M) (pm_ch M) (pm_nc M) m
def pm_Inv (N : Nat) (cn : Nat → Nat) (fl : Nat → Int32) (M : pm_M) : Prop := pm_Si M ∧ pm_Zi N (pm_pl M) ∧ pm_Ki N (pm_pl M) ∧ pm_Ci N cn fl M
def pm_Ri (N : Nat) (rt : Nat → Int32) (M : pm_M) : Prop := ∀ i m, i < pm_nr M → i < 16 → m < N → rt i = nI m → ¬ M.1 m = 0
def pm_mu (M : pm_M) : Nat := pm_pot (pm_pl M) + (16 - pm_nr M) + (400 - pm_nc M)
theorem pm_le_zi {N : Nat} {P P' : pm_P} (h : pm_Le N P P') (z : pm_Zi N P) : pm_Zi N P' := fun m hm q => by
  by_cases e : P.1 m = 0
  · exact (h.2.2.2.2.1 m hm e q).1
  · exact z m hm e
theorem pm_le_ki {N : Nat} (hN : N ≤ 400) {P P' : pm_P} (h : pm_Le N P P') (z : pm_Ki N P) : pm_Ki N P' := fun i hi => by
  by_cases e : i < P.2.2.1
  · obtain ⟨m, hm, e1, e2⟩ := z i e
    exact ⟨m, hm, by rw [h.2.2.1 i e]; exact e1, h.1 m (by omega) e2⟩
  · exact h.2.2.2.2.2.1 i (by omega) hi
/-- what was covered stays so; what is new is covered -/
theorem pm_le_cv {N : Nat} (hN : N ≤ 400) {cn : Nat → Nat} {fl : Nat → Int32} {P P' : pm_P} {ch : Nat → Int32} {nc : Nat} (h : pm_Le N P P') {m : Nat} (hm : m < N) (hk : ¬ P'.1 m = 0)
    (z : ¬ P.1 m = 0 → pm_Cv N cn fl P ch nc m ∨ ∀ b, pm_E N cn fl m b → ¬ P'.1 b = 0) : pm_Cv N cn fl P' ch nc m := by
  by_cases e : P.1 m = 0
  · rcases (h.2.2.2.2.1 m (by omega) e hk).2 with q | q
    · exact Or.inl q
    · exact Or.inr (Or.inl q)
  · rcases z e with (⟨i, hi, q⟩ | q | q | q) | q
    · exact Or.inl ⟨i, Nat.lt_of_lt_of_le hi h.2.1, by rw [h.2.2.1 i hi]; exact q⟩
    · exact Or.inr (Or.inl (Nat.le_trans h.2.2.2.1 q))
    · exact Or.inr (Or.inr (Or.inl q))
    · exact Or.inr (Or.inr (Or.inr (fun b he => h.1 b (by have := he.2.1; omega) (q b he))))
    · exact Or.inr (Or.inr (Or.inr q))
/-- what a step does -/
def pm_Stp (N : Nat) (cn : Nat → Nat) (fl rt : Nat → Int32) (M : pm_M) (r : Bool) (M' : pm_M) : Prop :=
  pm_Inv N cn fl M' ∧ pm_lim M' = pm_lim M ∧ (pm_Ri N rt M → pm_Ri N rt M') ∧ (r = true → pm_mu M' < pm_mu M) ∧
  (∀ S : Nat → Prop, (∀ b, pm_R N rt b → S b) → (∀ a b, S a → pm_E N cn fl a b → S b) → pm_Sd S (pm_pl M) → pm_Sd S (pm_pl M'))
theorem pm_ms_ok {N : Nat} {cn : Nat → Nat} {fl rt : Nat → Int32} (hN : N ≤ 400) {M : pm_M} (h : pm_Inv N cn fl M) : pm_Stp N cn fl rt M (pm_ms N cn fl rt M).1 (pm_ms N cn fl rt M).2 := by
  obtain ⟨mr, ch, kp, lim, kc, nr, nf, nc⟩ := M
  obtain ⟨⟨s1, s2, s3, s4, s5⟩, hz, hk, hc⟩ := h
  dsimp only [pm_pl, pm_ch, pm_lim, pm_kc, pm_nr, pm_nf, pm_nc] at s1 s2 s3 s4 s5 hz hk hc
  simp only [pm_ms]
  by_cases h1 : nr < 16
  · rw [if_pos h1]
    have L := pm_put_le (lim := lim) hN (mr, kp, kc, nf) (rt nr)
    have hmk : ∀ m, m < N → rt nr = nI m → ¬ (pm_put N lim (mr, kp, kc, nf) (rt nr)).1 m = 0 := fun m hm e => by rw [e]; exact pm_put_mk hN _ hm
    have hsd : ∀ S : Nat → Prop, (∀ b, pm_R N rt b → S b) → pm_Sd S (mr, kp, kc, nf) → pm_Sd S (pm_put N lim (mr, kp, kc, nf) (rt nr)) := fun S hS h0 => pm_put_sd hN h0 (fun k hk e => hS k ⟨hk, nr, h1, e⟩)
    generalize pm_put N lim (mr, kp, kc, nf) (rt nr) = P' at L hmk hsd
    obtain ⟨mr', kp', kc', nf'⟩ := P'
    refine ⟨⟨⟨s1, L.2.2.2.2.2.2.1 s2, h1, Nat.le_trans L.2.2.2.1 s4, s5⟩, pm_le_zi L hz, pm_le_ki hN L hk, fun m hm q => ?_⟩, rfl, fun hR i m hi h16 hm e => ?_, fun _ => ?_, fun S hS _ h0 => hsd S hS h0⟩
    · exact pm_le_cv hN L hm q (fun q0 => Or.inl (hc m hm q0))
    · by_cases ei : i = nr
      · subst ei; exact hmk m hm e
      · exact L.1 m (by omega) (hR i m (by have : i < nr + 1 := hi; show i < nr; omega) h16 hm e)
    · have := L.2.2.2.2.2.2.2
      simp only [pm_mu, pm_pl, pm_nr, pm_nc, pm_in] at this ⊢
      omega
  · rw [if_neg h1]
    by_cases h2 : 0 < kc
    · rw [if_pos h2]
      obtain ⟨x, hx, ex, mx⟩ := hk (kc - 1) (by show kc - 1 < kc; omega)
      dsimp only at ex mx
      rw [ex]
      have L := pm_go_le (lim := lim) hN cn fl (mr, kp, kc - 1, nf) (nI x)
      have hgo : ∀ b, pm_E N cn fl x b → ¬ (pm_go N cn fl lim (mr, kp, kc - 1, nf) (nI x)).1 b = 0 := fun b he => pm_go_mk hN _ he
      have hsd : ∀ S : Nat → Prop, (∀ a b, S a → pm_E N cn fl a b → S b) → pm_Sd S (mr, kp, kc, nf) → pm_Sd S (pm_go N cn fl lim (mr, kp, kc - 1, nf) (nI x)) := fun S hS h0 => pm_go_sd (P := (mr, kp, kc - 1, nf)) hN h0 hx (fun b he => hS x b (h0 x (by omega) mx) he)
      generalize pm_go N cn fl lim (mr, kp, kc - 1, nf) (nI x) = P' at L hgo hsd
      obtain ⟨mr', kp', kc', nf'⟩ := P'
      refine ⟨⟨⟨s1, L.2.2.2.2.2.2.1 (by show kc - 1 ≤ 64; omega), s3, Nat.le_trans L.2.2.2.1 s4, s5⟩, pm_le_zi (P := (mr, kp, kc - 1, nf)) L hz, pm_le_ki (P := (mr, kp, kc - 1, nf)) hN L (fun i hi => hk i (by have : i < kc - 1 := hi; show i < kc; omega)), fun m hm q => ?_⟩, rfl, fun hR i m hi h16 hm e => ?_, fun _ => ?_, fun S _ hS h0 => hsd S hS h0⟩
      · refine pm_le_cv hN L hm q (fun q0 => ?_)
        by_cases em : m = x
        · subst em; exact Or.inr hgo
        · rcases hc m hm q0 with ⟨i, hi, e⟩ | e
          · have hi' : i < kc := hi
            have ei : i ≠ kc - 1 := fun ee => by
              subst ee
              have e' : kp (kc - 1) = nI m := e
              rw [ex] at e'
              exact em ((nI_eq (by omega) (by omega)).mp e').symm
            exact Or.inl (Or.inl ⟨i, by show i < kc - 1; omega, e⟩)
          · exact Or.inl (Or.inr e)
      · exact L.1 m (by omega) (hR i m hi h16 hm e)
      · have := L.2.2.2.2.2.2.2
        simp only [pm_mu, pm_pl, pm_nr, pm_nc, pm_in, pm_pot] at this ⊢
        omega
    · rw [if_neg h2]
      have hk0 : kc = 0 := by omega
      by_cases h3 : nf < N
      · rw [if_pos h3]
        by_cases h4 : mr nf = 0
        · rw [if_pos h4]
          refine ⟨⟨⟨s1, s2, s3, by show nf + 1 ≤ 400; omega, s5⟩, hz, hk, fun m hm q => ?_⟩, rfl, fun hR => hR, fun _ => ?_, fun S _ _ h0 => h0⟩
          · rcases hc m hm q with e | e | e
            · exact Or.inl e
            · have e' : nf ≤ m := e
              have ne : m ≠ nf := fun ee => by subst ee; exact q h4
              exact Or.inr (Or.inl (by show nf + 1 ≤ m; omega))
            · exact Or.inr (Or.inr e)
          · simp only [pm_mu, pm_pl, pm_nr, pm_nc, pm_pot]
            omega
        · rw [if_neg h4]
          have L := pm_go_le (lim := lim) hN cn fl (mr, kp, kc, nf + 1) (nI nf)
          have hgo : ∀ b, pm_E N cn fl nf b → ¬ (pm_go N cn fl lim (mr, kp, kc, nf + 1) (nI nf)).1 b = 0 := fun b he => pm_go_mk hN _ he
          have hsd : ∀ S : Nat → Prop, (∀ a b, S a → pm_E N cn fl a b → S b) → pm_Sd S (mr, kp, kc, nf) → pm_Sd S (pm_go N cn fl lim (mr, kp, kc, nf + 1) (nI nf)) := fun S hS h0 => pm_go_sd (P := (mr, kp, kc, nf + 1)) hN h0 h3 (fun b he => hS nf b (h0 nf (by omega) h4) he)
          generalize pm_go N cn fl lim (mr, kp, kc, nf + 1) (nI nf) = P' at L hgo hsd
          obtain ⟨mr', kp', kc', nf'⟩ := P'
          refine ⟨⟨⟨s1, L.2.2.2.2.2.2.1 s2, s3, Nat.le_trans L.2.2.2.1 (by show nf + 1 ≤ 400; omega), s5⟩, pm_le_zi (P := (mr, kp, kc, nf + 1)) L hz, pm_le_ki (P := (mr, kp, kc, nf + 1)) hN L hk, fun m hm q => ?_⟩, rfl, fun hR i m hi h16 hm e => ?_, fun _ => ?_, fun S _ hS h0 => hsd S hS h0⟩
          · refine pm_le_cv hN L hm q (fun q0 => ?_)
            by_cases em : m = nf
            · subst em; exact Or.inr hgo
            · rcases hc m hm q0 with e | e | e
              · exact Or.inl (Or.inl e)
              · have e' : nf ≤ m := e
                exact Or.inl (Or.inr (Or.inl (by show nf + 1 ≤ m; omega)))
              · exact Or.inl (Or.inr (Or.inr e))
          · exact L.1 m (by omega) (hR i m hi h16 hm e)
          · have := L.2.2.2.2.2.2.2
            simp only [pm_mu, pm_pl, pm_nr, pm_nc, pm_in, pm_pot] at this ⊢
            omega
      · rw [if_neg h3]
        exact ⟨⟨⟨s1, s2, s3, s4, s5⟩, hz, hk, hc⟩, rfl, fun hR => hR, fun q => (by cases q), fun S _ _ h0 => h0⟩
theorem pm_cs_ok {N : Nat} {cn : Nat → Nat} {fl rt : Nat → Int32} (hN : N ≤ 400) {M : pm_M} (h : pm_Inv N cn fl M) : pm_Stp N cn fl rt M (pm_cs N cn fl M).1 (pm_cs N cn fl M).2 := by
  obtain ⟨mr, ch, kp, lim, kc, nr, nf, nc⟩ := M
  obtain ⟨⟨s1, s2, s3, s4, s5⟩, hz, hk, hc⟩ := h
  dsimp only [pm_pl, pm_ch, pm_lim, pm_kc, pm_nr, pm_nf, pm_nc] at s1 s2 s3 s4 s5 hz hk hc
  simp only [pm_cs]
  by_cases h1 : nc < N
  · rw [if_pos h1]
    by_cases h2 : ch nc = 0
    · rw [if_pos h2]
      refine ⟨⟨⟨s1, s2, s3, s4, by show nc + 1 ≤ 400; omega⟩, hz, hk, fun m hm q => ?_⟩, rfl, fun hR => hR, fun _ => ?_, fun S _ _ h0 => h0⟩
      · rcases hc m hm q with e | e | ⟨e1, e2⟩ | e
        · exact Or.inl e
        · exact Or.inr (Or.inl e)
        · have e2' : nc ≤ m := e2
          have ne : m ≠ nc := fun ee => by subst ee; exact e1 h2
          exact Or.inr (Or.inr (Or.inl ⟨e1, by show nc + 1 ≤ m; omega⟩))
        · exact Or.inr (Or.inr (Or.inr e))
      · simp only [pm_mu, pm_pl, pm_nr, pm_nc, pm_pot]
        omega
    · rw [if_neg h2]
      by_cases h3 : mr nc = 0
      · rw [if_pos h3]
        refine ⟨⟨⟨s1, s2, s3, s4, by show nc + 1 ≤ 400; omega⟩, hz, hk, fun m hm q => ?_⟩, rfl, fun hR => hR, fun _ => ?_, fun S _ _ h0 => h0⟩
        · have ne : m ≠ nc := fun ee => by subst ee; exact q h3
          rcases hc m hm q with e | e | ⟨e1, e2⟩ | e
          · exact Or.inl e
          · exact Or.inr (Or.inl e)
          · have e2' : nc ≤ m := e2
            exact Or.inr (Or.inr (Or.inl ⟨by show ¬ upd ch nc 0 m = 0; rw [pk_un ne]; exact e1, by show nc + 1 ≤ m; omega⟩))
          · exact Or.inr (Or.inr (Or.inr e))
        · simp only [pm_mu, pm_pl, pm_nr, pm_nc, pm_pot]
          omega
      · rw [if_neg h3]
        have L := pm_go_le (lim := lim) hN cn fl (mr, kp, kc, nf) (nI nc)
        have hgo : ∀ b, pm_E N cn fl nc b → ¬ (pm_go N cn fl lim (mr, kp, kc, nf) (nI nc)).1 b = 0 := fun b he => pm_go_mk hN _ he
        have hsd : ∀ S : Nat → Prop, (∀ a b, S a → pm_E N cn fl a b → S b) → pm_Sd S (mr, kp, kc, nf) → pm_Sd S (pm_go N cn fl lim (mr, kp, kc, nf) (nI nc)) := fun S hS h0 => pm_go_sd hN h0 h1 (fun b he => hS nc b (h0 nc (by omega) h3) he)
        generalize pm_go N cn fl lim (mr, kp, kc, nf) (nI nc) = P' at L hgo hsd
        obtain ⟨mr', kp', kc', nf'⟩ := P'
        refine ⟨⟨⟨s1, L.2.2.2.2.2.2.1 s2, s3, Nat.le_trans L.2.2.2.1 s4, by show nc + 1 ≤ 400; omega⟩, pm_le_zi L hz, pm_le_ki hN L hk, fun m hm q => ?_⟩, rfl, fun hR i m hi h16 hm e => ?_, fun _ => ?_, fun S _ hS h0 => hsd S hS h0⟩
        · refine pm_le_cv hN L hm q (fun q0 => ?_)
          by_cases em : m = nc
          · subst em; exact Or.inr hgo
          · rcases hc m hm q0 with e | e | ⟨e1, e2⟩ | e
            · exact Or.inl (Or.inl e)
            · exact Or.inl (Or.inr (Or.inl e))
            · have e2' : nc ≤ m := e2
              exact Or.inl (Or.inr (Or.inr (Or.inl ⟨by show ¬ upd ch nc 0 m = 0; rw [pk_un em]; exact e1, by show nc + 1 ≤ m; omega⟩)))
            · exact Or.inl (Or.inr (Or.inr (Or.inr e)))
        · exact L.1 m (by omega) (hR i m hi h16 hm e)
        · have := L.2.2.2.2.2.2.2
          simp only [pm_mu, pm_pl, pm_nr, pm_nc, pm_in, pm_pot] at this ⊢
          omega
  · rw [if_neg h1]
    exact ⟨⟨⟨s1, s2, s3, s4, s5⟩, hz, hk, hc⟩, rfl, fun hR => hR, fun q => (by cases q), fun S _ _ h0 => h0⟩
theorem pm_ms_f {N : Nat} {cn : Nat → Nat} {fl rt : Nat → Int32} {M : pm_M} (h : (pm_ms N cn fl rt M).1 = false) : (pm_ms N cn fl rt M).2 = M ∧ 16 ≤ pm_nr M ∧ pm_kc M = 0 ∧ N ≤ pm_nf M := by
  obtain ⟨mr, ch, kp, lim, kc, nr, nf, nc⟩ := M
  simp only [pm_ms] at h ⊢
  by_cases h1 : nr < 16
  · rw [if_pos h1] at h; cases h
  · rw [if_neg h1] at h ⊢
    by_cases h2 : 0 < kc
    · rw [if_pos h2] at h; cases h
    · rw [if_neg h2] at h ⊢
      by_cases h3 : nf < N
      · rw [if_pos h3] at h
        by_cases h4 : mr nf = 0
        · rw [if_pos h4] at h; cases h
        · rw [if_neg h4] at h; cases h
      · rw [if_neg h3]
        exact ⟨rfl, by show 16 ≤ nr; omega, by show kc = 0; omega, by show N ≤ nf; omega⟩
theorem pm_cs_f {N : Nat} {cn : Nat → Nat} {fl : Nat → Int32} {M : pm_M} (h : (pm_cs N cn fl M).1 = false) : (pm_cs N cn fl M).2 = M ∧ N ≤ pm_nc M := by
  obtain ⟨mr, ch, kp, lim, kc, nr, nf, nc⟩ := M
  simp only [pm_cs] at h ⊢
  by_cases h1 : nc < N
  · rw [if_pos h1] at h
    by_cases h2 : ch nc = 0
    · rw [if_pos h2] at h; cases h
    · rw [if_neg h2] at h
      by_cases h3 : mr nc = 0
      · rw [if_pos h3] at h; cases h
      · rw [if_neg h3] at h; cases h
  · rw [if_neg h1]
    exact ⟨rfl, by show N ≤ nc; omega⟩
theorem pm_fs_ok {N : Nat} {cn : Nat → Nat} {fl rt : Nat → Int32} (hN : N ≤ 400) {M : pm_M} (h : pm_Inv N cn fl M) : pm_Stp N cn fl rt M (pm_fs N cn fl rt M).1 (pm_fs N cn fl rt M).2 := by
  simp only [pm_fs]
  by_cases h1 : (pm_ms N cn fl rt M).1 = true
  · rw [if_pos h1]; exact pm_ms_ok hN h
  · rw [if_neg h1]
    have h2 := (pm_ms_f (by cases q : (pm_ms N cn fl rt M).1 <;> simp_all : (pm_ms N cn fl rt M).1 = false)).1
    rw [h2]
    exact pm_cs_ok hN h
theorem pm_fs_f {N : Nat} {cn : Nat → Nat} {fl rt : Nat → Int32} {M : pm_M} (h : (pm_fs N cn fl rt M).1 = false) : (pm_fs N cn fl rt M).2 = M ∧ 16 ≤ pm_nr M ∧ pm_kc M = 0 ∧ N ≤ pm_nf M ∧ N ≤ pm_nc M := by
  simp only [pm_fs] at h ⊢
  by_cases h1 : (pm_ms N cn fl rt M).1 = true
  · rw [if_pos h1] at h; rw [h1] at h; cases h
  · have h2 := pm_ms_f (by cases q : (pm_ms N cn fl rt M).1 <;> simp_all : (pm_ms N cn fl rt M).1 = false)
    rw [if_neg h1] at h ⊢
    rw [h2.1] at h ⊢
    have h3 := pm_cs_f h
    exact ⟨h3.1, h2.2.1, h2.2.2.1, h2.2.2.2, h3.2⟩
/-- a run of steps keeps what each step keeps -/
theorem pm_run_ok {N : Nat} {cn : Nat → Nat} {fl rt : Nat → Int32} {f : pm_M → Bool × pm_M} (hf : ∀ M, pm_Inv N cn fl M → pm_Stp N cn fl rt M (f M).1 (f M).2) :
    ∀ (n : Nat) (M : pm_M), pm_Inv N cn fl M → pm_Inv N cn fl (pm_run f n M) ∧ pm_lim (pm_run f n M) = pm_lim M ∧ (pm_Ri N rt M → pm_Ri N rt (pm_run f n M)) ∧
      (∀ S : Nat → Prop, (∀ b, pm_R N rt b → S b) → (∀ a b, S a → pm_E N cn fl a b → S b) → pm_Sd S (pm_pl M) → pm_Sd S (pm_pl (pm_run f n M))) := by
  intro n
  induction n with
  | zero => intro M h; exact ⟨h, rfl, fun h => h, fun _ _ _ h => h⟩
  | succ n ih =>
    intro M h
    obtain ⟨a1, a2, a3, -, a5⟩ := hf M h
    simp only [pm_run]
    split
    · obtain ⟨b1, b2, b3, b4⟩ := ih _ a1
      exact ⟨b1, b2.trans a2, fun q => b3 (a3 q), fun S h1 h2 q => b4 S h1 h2 (a5 S h1 h2 q)⟩
    · exact ⟨a1, a2, a3, a5⟩
theorem pm_run_end {N : Nat} {cn : Nat → Nat} {fl rt : Nat → Int32} {f : pm_M → Bool × pm_M} (hf : ∀ M, pm_Inv N cn fl M → pm_Stp N cn fl rt M (f M).1 (f M).2) (h0 : ∀ M, (f M).1 = false → (f M).2 = M) :
    ∀ (n : Nat) (M : pm_M), pm_Inv N cn fl M → pm_mu M < n → (f (pm_run f n M)).1 = false := by
  intro n
  induction n with
  | zero => intro M _ h; omega
  | succ n ih =>
    intro M h hm
    obtain ⟨a1, -, -, a4, -⟩ := hf M h
    simp only [pm_run]
    by_cases q : (f M).1 = true
    · rw [if_pos q]
      exact ih _ a1 (by have := a4 q; omega)
    · rw [if_neg q]
      have q' : (f M).1 = false := by cases z : (f M).1 <;> simp_all
      rw [h0 M q']; exact q'
def pm_r0 (M : pm_M) : pm_M := match M with | (mr, ch, kp, lim, kc, _, nf, nc) => (mr, ch, kp, lim, kc, 0, nf, nc)
def pm_fin (n : Nat) (N : Nat) (cn : Nat → Nat) (fl rt : Nat → Int32) (M : pm_M) : pm_M := pm_run (pm_fs N cn fl rt) n (pm_r0 M)
/-- FINISHED: all that is reached is marked; and if all marks were reached, they are -/
theorem pm_fin_ok {n N : Nat} (hn : n = 1000000) {cn : Nat → Nat} {fl rt : Nat → Int32} (hN : N ≤ 400) {M : pm_M} (h : pm_Inv N cn fl M) :
    pm_Inv N cn fl (pm_fin n N cn fl rt M) ∧ pm_lim (pm_fin n N cn fl rt M) = pm_lim M ∧ (∀ m, pm_reach N cn fl rt m → ¬ (pm_fin n N cn fl rt M).1 m = 0) ∧
    (pm_Sd (pm_reach N cn fl rt) (pm_pl M) → pm_Sd (pm_reach N cn fl rt) (pm_pl (pm_fin n N cn fl rt M))) := by
  obtain ⟨mr, ch, kp, lim, kc, nr, nf, nc⟩ := M
  have h' : pm_Inv N cn fl (pm_r0 (mr, ch, kp, lim, kc, nr, nf, nc)) := ⟨⟨h.1.1, h.1.2.1, Nat.zero_le _, h.1.2.2.2.1, h.1.2.2.2.2⟩, h.2.1, h.2.2.1, h.2.2.2⟩
  have hmu : pm_mu (pm_r0 (mr, ch, kp, lim, kc, nr, nf, nc)) < n := by
    rw [hn]
    have k1 := h.1.2.1
    simp only [pm_kc] at k1
    simp only [pm_r0, pm_mu, pm_pot, pm_pl, pm_nr, pm_nc]
    omega
  obtain ⟨r1, r2, r3, r4⟩ := pm_run_ok (rt := rt) (fun M h => pm_fs_ok hN h) n _ h'
  have r5 := pm_run_end (rt := rt) (fun M h => pm_fs_ok hN h) (fun M q => (pm_fs_f q).1) n _ h' hmu
  obtain ⟨-, e1, e2, e3, e4⟩ := pm_fs_f r5
  have hR := r3 (fun i m hi => absurd hi (Nat.not_lt_zero i))
  refine ⟨r1, r2, fun m hm => ?_, fun q => r4 _ (fun b hb => pm_reach_r hb) (fun a b ha he => pm_reach_e ha he) q⟩
  refine hm (fun m => ¬ (pm_fin n N cn fl rt (mr, ch, kp, lim, kc, nr, nf, nc)).1 m = 0) (fun b hb => ?_) (fun a b ha he => ?_)
  · obtain ⟨hb, i, hi, e⟩ := hb
    exact hR i b (by exact Nat.lt_of_lt_of_le hi e1) hi hb e
  · rcases r1.2.2.2 a he.1 ha with ⟨i, hi, -⟩ | q | ⟨-, q⟩ | q
    · have hi' : i < pm_kc (pm_run (pm_fs N cn fl rt) n (pm_r0 (mr, ch, kp, lim, kc, nr, nf, nc))) := hi
      rw [e2] at hi'; omega
    · have q' : pm_nf (pm_run (pm_fs N cn fl rt) n (pm_r0 (mr, ch, kp, lim, kc, nr, nf, nc))) ≤ a := q
      have := he.1; omega
    · have := he.1; omega
    · exact q b he
end
end
section
/-! THE SEARCH of what is reached -/
section
/-- found, in what order, how many -/
abbrev pm_F : Type := (Nat → Int32) × (Nat → Int32) × Nat
def pm_en (N : Nat) (F : pm_F) (x : Int32) : pm_F := match F with
  | (fd, od, c) => if pm_has N x = true then (if fd x.toNatClampNeg = 0 then (if c < 400 then (upd fd x.toNatClampNeg 1, upd od c x, c + 1) else (fd, od, c)) else (fd, od, c)) else (fd, od, c)
def pm_ef (N : Nat) (g : Nat → Int32) : Nat → pm_F → pm_F
  | 0, F => F
  | j + 1, F => pm_en N (pm_ef N g j F) (g j)
def pm_eo (N : Nat) (cn : Nat → Nat) (fl : Nat → Int32) (F : pm_F) (x : Int32) : pm_F :=
  if pm_has N x = true then pm_ef N (fun j => fl (x.toNatClampNeg * 20 + j)) (cn x.toNatClampNeg) F else F
def pm_q (N : Nat) (cn : Nat → Nat) (fl : Nat → Int32) : Nat → Nat → pm_F → pm_F
  | 0, _, F => F
  | n + 1, i, F => if i < F.2.2 then pm_q N cn fl n (i + 1) (pm_eo N cn fl F (F.2.1 i)) else F
def pm_srch (N : Nat) (cn : Nat → Nat) (fl rt fd od : Nat → Int32) : pm_F := pm_q N cn fl 400 0 (pm_ef N rt 16 (pm_clr 400 fd, od, 0))
/-- what holds of found, order and count: all found are in S, and stand in the order -/
def pm_Fi (N : Nat) (S : Nat → Prop) (F : pm_F) : Prop :=
  F.2.2 = pm_cnt F.1 400 ∧ (∀ m, m < 400 → ¬ F.1 m = 0 → m < N ∧ S m ∧ ∃ t, t < F.2.2 ∧ F.2.1 t = nI m) ∧ (∀ t, t < F.2.2 → ∃ m, m < N ∧ F.2.1 t = nI m ∧ ¬ F.1 m = 0)
def pm_Fl (F F' : pm_F) : Prop := (∀ m, m < 400 → ¬ F.1 m = 0 → ¬ F'.1 m = 0) ∧ F.2.2 ≤ F'.2.2 ∧ ∀ t, t < F.2.2 → F'.2.1 t = F.2.1 t
theorem pm_Fl_rf (F : pm_F) : pm_Fl F F := ⟨fun _ _ h => h, Nat.le_refl _, fun _ _ => rfl⟩
theorem pm_Fl_tr {F F1 F2 : pm_F} (h : pm_Fl F F1) (h' : pm_Fl F1 F2) : pm_Fl F F2 :=
  ⟨fun m hm q => h'.1 m hm (h.1 m hm q), Nat.le_trans h.2.1 h'.2.1, fun t ht => by rw [h'.2.2 t (Nat.lt_of_lt_of_le ht h.2.1), h.2.2 t ht]⟩
theorem pm_en_ok {N : Nat} (hN : N ≤ 400) {S : Nat → Prop} {F : pm_F} {x : Int32} (h : pm_Fi N S F) (hx : ∀ k, k < N → x = nI k → S k) :
    pm_Fi N S (pm_en N F x) ∧ pm_Fl F (pm_en N F x) ∧ ∀ k, k < N → x = nI k → ¬ (pm_en N F x).1 k = 0 := by
  obtain ⟨fd, od, c⟩ := F
  obtain ⟨h1, h2, h3⟩ := h
  dsimp only at h1 h2 h3
  simp only [pm_en]
  by_cases hh : pm_has N x = true
  · rw [if_pos hh]
    obtain ⟨k, hk, rfl⟩ := pm_has_of (by omega) hh
    rw [nI_clamp (by omega)]
    by_cases h0 : fd k = 0
    · have hlt := pm_cnt_lt h0 (show k < 400 by omega)
      rw [if_pos h0, if_pos (by omega)]
      have hc := pm_cnt_up (v := 1) (by decide) h0 400 (by omega)
      refine ⟨⟨by dsimp only; omega, fun m hm q => ?_, fun t ht => ?_⟩, ⟨fun m _ q => ?_, Nat.le_succ _, fun t ht => pk_un (show t ≠ c from Nat.ne_of_lt ht)⟩, fun k' hk' e => ?_⟩
      · dsimp only at q ⊢
        by_cases em : m = k
        · subst em
          exact ⟨hk, hx m hk rfl, c, Nat.lt_succ_self _, pk_us⟩
        · rw [pk_un em] at q
          obtain ⟨a1, a2, t, ht, e⟩ := h2 m hm q
          exact ⟨a1, a2, t, Nat.lt_succ_of_lt ht, by rw [pk_un (show t ≠ c from Nat.ne_of_lt ht)]; exact e⟩
      · dsimp only at ht ⊢
        by_cases et : t = c
        · subst et
          exact ⟨k, hk, pk_us, by rw [pk_us]; decide⟩
        · obtain ⟨m, a1, a2, a3⟩ := h3 t (by omega)
          refine ⟨m, a1, by rw [pk_un et]; exact a2, ?_⟩
          by_cases em : m = k
          · rw [em, pk_us]; decide
          · rw [pk_un em]; exact a3
      · dsimp only at q ⊢
        by_cases em : m = k
        · rw [em, pk_us]; decide
        · rw [pk_un em]; exact q
      · have ek : k = k' := (nI_eq (by omega) (by omega)).mp e
        subst ek
        dsimp only
        rw [pk_us]; decide
    · rw [if_neg h0]
      exact ⟨⟨h1, h2, h3⟩, pm_Fl_rf _, fun k' hk' e => by
        have ek : k = k' := (nI_eq (by omega) (by omega)).mp e
        subst ek; exact h0⟩
  · rw [if_neg hh]
    exact ⟨⟨h1, h2, h3⟩, pm_Fl_rf _, fun k' hk' e => absurd (by rw [e]; exact pm_has_nI (by omega) hk') hh⟩
theorem pm_ef_ok {N : Nat} (hN : N ≤ 400) {S : Nat → Prop} {g : Nat → Int32} : ∀ (n : Nat) {F : pm_F}, pm_Fi N S F → (∀ j k, j < n → k < N → g j = nI k → S k) →
    pm_Fi N S (pm_ef N g n F) ∧ pm_Fl F (pm_ef N g n F) ∧ ∀ j k, j < n → k < N → g j = nI k → ¬ (pm_ef N g n F).1 k = 0 := by
  intro n
  induction n with
  | zero => intro F h _; exact ⟨h, pm_Fl_rf F, fun j k hj => absurd hj (Nat.not_lt_zero j)⟩
  | succ n ih =>
    intro F h hg
    obtain ⟨a1, a2, a3⟩ := ih h (fun j k hj => hg j k (by omega))
    obtain ⟨b1, b2, b3⟩ := pm_en_ok hN (x := g n) a1 (fun k hk e => hg n k (Nat.lt_succ_self n) hk e)
    refine ⟨b1, pm_Fl_tr a2 b2, fun j k hj hk e => ?_⟩
    by_cases ej : j = n
    · subst ej; exact b3 k hk e
    · exact b2.1 k (by omega) (a3 j k (by omega) hk e)
theorem pm_eo_ok {N : Nat} (hN : N ≤ 400) {S : Nat → Prop} {cn : Nat → Nat} {fl : Nat → Int32} {F : pm_F} {a : Nat} (ha : a < N) (h : pm_Fi N S F) (hS : ∀ b, pm_E N cn fl a b → S b) :
    pm_Fi N S (pm_eo N cn fl F (nI a)) ∧ pm_Fl F (pm_eo N cn fl F (nI a)) ∧ ∀ b, pm_E N cn fl a b → ¬ (pm_eo N cn fl F (nI a)).1 b = 0 := by
  simp only [pm_eo]
  rw [if_pos (pm_has_nI (by omega) ha), nI_clamp (by omega)]
  obtain ⟨b1, b2, b3⟩ := pm_ef_ok hN (g := fun j => fl (a * 20 + j)) (cn a) h (fun j k hj hk e => hS k ⟨ha, hk, j, hj, e⟩)
  exact ⟨b1, b2, fun b he => by
    obtain ⟨-, hb, j, hj, e⟩ := he
    exact b3 j b hj hb e⟩
theorem pm_q_ok {N : Nat} (hN : N ≤ 400) {S : Nat → Prop} {cn : Nat → Nat} {fl : Nat → Int32} (hS : ∀ a b, S a → pm_E N cn fl a b → S b) : ∀ (n i : Nat) {F : pm_F}, 400 ≤ i + n → pm_Fi N S F →
    (∀ t m, t < i → t < F.2.2 → m < N → F.2.1 t = nI m → ∀ b, pm_E N cn fl m b → ¬ F.1 b = 0) →
    pm_Fi N S (pm_q N cn fl n i F) ∧ pm_Fl F (pm_q N cn fl n i F) ∧ ∀ a b, a < N → ¬ (pm_q N cn fl n i F).1 a = 0 → pm_E N cn fl a b → ¬ (pm_q N cn fl n i F).1 b = 0 := by
  intro n
  induction n with
  | zero =>
    intro i F hi h hd
    refine ⟨h, pm_Fl_rf F, fun a b ha q he => ?_⟩
    obtain ⟨-, -, t, ht, e⟩ := h.2.1 a (by omega) q
    have := pm_cnt_le F.1 400
    have h1 := h.1
    exact hd t a (by omega) ht ha e b he
  | succ n ih =>
    intro i F hi h hd
    simp only [pm_q]
    by_cases hc : i < F.2.2
    · rw [if_pos hc]
      obtain ⟨x, hx, ex, mx⟩ := h.2.2 i hc
      rw [ex]
      obtain ⟨b1, b2, b3⟩ := pm_eo_ok hN (cn := cn) (fl := fl) hx h (fun b he => hS x b (h.2.1 x (by omega) mx).2.1 he)
      have hd' : ∀ t m, t < i + 1 → t < (pm_eo N cn fl F (nI x)).2.2 → m < N → (pm_eo N cn fl F (nI x)).2.1 t = nI m → ∀ b, pm_E N cn fl m b → ¬ (pm_eo N cn fl F (nI x)).1 b = 0 := by
        intro t m ht ht' hm e b he
        by_cases et : t = i
        · subst et
          have e' := b2.2.2 t hc
          rw [e', ex] at e
          have em : x = m := (nI_eq (by omega) (by omega)).mp e
          subst em
          exact b3 b he
        · have ht2 : t < F.2.2 := by omega
          rw [b2.2.2 t ht2] at e
          exact b2.1 b (by have := he.2.1; omega) (hd t m (by omega) ht2 hm e b he)
      obtain ⟨c1, c2, c3⟩ := ih (i + 1) (by omega) b1 hd'
      exact ⟨c1, pm_Fl_tr b2 c2, c3⟩
    · rw [if_neg hc]
      refine ⟨h, pm_Fl_rf F, fun a b ha q he => ?_⟩
      obtain ⟨-, -, t, ht, e⟩ := h.2.1 a (by omega) q
      exact hd t a (by omega) ht ha e b he
/-- THE SEARCH finds what is reached, and counts it -/
theorem pm_srch_ok {N : Nat} (hN : N ≤ 400) (cn : Nat → Nat) (fl rt fd od : Nat → Int32) :
    (∀ m, m < 400 → (¬ (pm_srch N cn fl rt fd od).1 m = 0 ↔ pm_reach N cn fl rt m)) ∧ (pm_srch N cn fl rt fd od).2.2 = pm_cnt (pm_srch N cn fl rt fd od).1 400 := by
  have i0 : pm_Fi N (pm_reach N cn fl rt) (pm_clr 400 fd, od, 0) :=
    ⟨(pm_cnt_0 400 (fun i hi => pm_clr_in fd hi)).symm, fun m hm q => absurd (pm_clr_in fd hm) q, fun t ht => absurd ht (Nat.not_lt_zero t)⟩
  obtain ⟨a1, a2, a3⟩ := pm_ef_ok hN (g := rt) 16 i0 (fun j k hj hk e => pm_reach_r ⟨hk, j, hj, e⟩)
  obtain ⟨b1, b2, b3⟩ := pm_q_ok hN (S := pm_reach N cn fl rt) (cn := cn) (fl := fl) (fun a b ha he => pm_reach_e ha he) 400 0 (by omega) a1 (fun t m ht => absurd ht (Nat.not_lt_zero t))
  refine ⟨fun m hm => ⟨fun q => (b1.2.1 m hm q).2.1, fun q => ?_⟩, b1.1⟩
  refine q (fun m => ¬ (pm_srch N cn fl rt fd od).1 m = 0) (fun b hb => ?_) (fun a b ha he => b3 a b he.1 ha he)
  obtain ⟨hb, i, hi, e⟩ := hb
  exact b2.1 b (by omega) (a3 i b hi hb e)
end
end
section
/-! CHANGES of the heap, and what they leave of the marker's order -/
section
def pm_un (f : Nat → Nat) (k v : Nat) : Nat → Nat := fun i => if i = k then v else f i
theorem pm_un_s {f : Nat → Nat} {k v : Nat} : pm_un f k v k = v := by simp [pm_un]
theorem pm_un_n {f : Nat → Nat} {k v j : Nat} (h : j ≠ k) : pm_un f k v j = f j := by simp [pm_un, h]
/-- field counts as the array has them -/
def pm_nf9 (cn : Nat → Nat) : Nat → Int32 := fun i => nI (cn i)
theorem pm_nf9_up (cn : Nat → Nat) (k v : Nat) : upd (pm_nf9 cn) k (nI v) = pm_nf9 (pm_un cn k v) := by
  funext i
  simp only [upd, pm_nf9, pm_un]
  split <;> rfl
/-- n places from b on become -1 -/
def pm_fill (f : Nat → Int32) (b n : Nat) : Nat → Int32 := fun i => if b ≤ i ∧ i < b + n then -1 else f i
theorem pm_fill_0 (f : Nat → Int32) (b : Nat) : pm_fill f b 0 = f := by
  funext i
  simp only [pm_fill]
  rw [if_neg (by omega)]
theorem pm_fill_s (f : Nat → Int32) (b n : Nat) : upd (pm_fill f b n) (b + n) (-1) = pm_fill f b (n + 1) := by
  funext i
  simp only [upd, pm_fill]
  by_cases h : i = b + n
  · rw [if_pos h, if_pos (by omega)]
  · rw [if_neg h]
    by_cases h2 : b ≤ i ∧ i < b + n
    · rw [if_pos h2, if_pos (by omega)]
    · rw [if_neg h2, if_neg (by omega)]
theorem pm_fill_in {f : Nat → Int32} {b n i : Nat} (h : b ≤ i) (h2 : i < b + n) : pm_fill f b n i = -1 := by
  simp only [pm_fill]
  rw [if_pos ⟨h, h2⟩]
theorem pm_fill_lo {f : Nat → Int32} {b n i : Nat} (h : i < b) : pm_fill f b n i = f i := by
  simp only [pm_fill]
  rw [if_neg (by omega)]
theorem pm_m1 {m : Nat} (h : m < 2 ^ 31) : ¬ (-1 : Int32) = nI m := by
  intro q
  have a := nI_toInt h
  rw [← q] at a
  have b : (-1 : Int32).toInt = -1 := by decide
  rw [b] at a
  omega
theorem pm_mk_ok {N : Nat} {cn : Nat → Nat} {fl rt : Nat → Int32} {F : Nat} (h : pm_Ok N cn fl rt) (hN : N < 400) (hF : F ≤ 20) : pm_Ok (N + 1) (pm_un cn N F) (pm_fill fl (N * 20) F) rt := by
  obtain ⟨h1, h2, h3, h4⟩ := h
  refine ⟨by omega, fun k hk => ?_, fun k hk j hj => ?_, fun i hi => ?_⟩
  · by_cases e : k = N
    · rw [e, pm_un_s]; exact hF
    · rw [pm_un_n e]; exact h2 k (by omega)
  · by_cases e : k = N
    · subst e
      rw [pm_un_s] at hj
      exact Or.inl (pm_fill_in (by omega) (by omega))
    · rw [pm_un_n e] at hj
      have := h2 k (by omega)
      rw [pm_fill_lo (by omega)]
      rcases h3 k (by omega) j hj with q | ⟨m, hm, q⟩
      · exact Or.inl q
      · exact Or.inr ⟨m, by omega, q⟩
  · rcases h4 i hi with q | ⟨m, hm, q⟩
    · exact Or.inl q
    · exact Or.inr ⟨m, by omega, q⟩
theorem pm_mk_E {N : Nat} {cn : Nat → Nat} {fl rt : Nat → Int32} {F : Nat} (h : pm_Ok N cn fl rt) (hN : N < 400) {a b : Nat} (ha : a < N) (he : pm_E (N + 1) (pm_un cn N F) (pm_fill fl (N * 20) F) a b) : pm_E N cn fl a b := by
  obtain ⟨-, h2, j, hj, e⟩ := he
  rw [pm_un_n (by omega)] at hj
  have := h.2.1 a ha
  rw [pm_fill_lo (by omega)] at e
  refine ⟨ha, ?_, j, hj, e⟩
  rcases h.2.2.1 a ha j hj with q | ⟨m, hm, q⟩
  · rw [q] at e; exact absurd e (pm_m1 (by omega))
  · rw [q] at e
    rw [(nI_eq (by omega) (by omega)).mp e] at hm; exact hm
theorem pm_mk_inv {N : Nat} {cn : Nat → Nat} {fl rt : Nat → Int32} {F : Nat} {M : pm_M} (h : pm_Ok N cn fl rt) (hN : N < 400) (hM : pm_Inv N cn fl M) : pm_Inv (N + 1) (pm_un cn N F) (pm_fill fl (N * 20) F) M := by
  obtain ⟨s, z, k, c⟩ := hM
  refine ⟨s, fun m hm q => Nat.lt_succ_of_lt (z m hm q), fun i hi => ?_, fun m hm q => ?_⟩
  · obtain ⟨m, hm, e⟩ := k i hi
    exact ⟨m, by omega, e⟩
  · have hm' : m < N := z m (by omega) q
    rcases c m hm' q with e | e | e | e
    · exact Or.inl e
    · exact Or.inr (Or.inl e)
    · exact Or.inr (Or.inr (Or.inl e))
    · exact Or.inr (Or.inr (Or.inr (fun b he => e b (pm_mk_E h hN hm' he))))
/-- a change is noted -/
def pm_note (M : pm_M) (k : Nat) : pm_M := match M with | (mr, ch, kp, lim, kc, nr, nf, nc) => (mr, upd ch k 1, kp, lim, kc, nr, nf, if k < nc then k else nc)
theorem pm_st_ok {N : Nat} {cn : Nat → Nat} {fl rt : Nat → Int32} {a j : Nat} {o : Int32} (h : pm_Ok N cn fl rt) (hj : j < cn a) (ha : a < N) (ho : o = -1 ∨ ∃ m, m < N ∧ o = nI m) : pm_Ok N cn (upd fl (a * 20 + j) o) rt := by
  obtain ⟨h1, h2, h3, h4⟩ := h
  refine ⟨h1, h2, fun k hk i hi => ?_, h4⟩
  by_cases e : k * 20 + i = a * 20 + j
  · rw [e, pk_us]; exact ho
  · rw [pk_un e]; exact h3 k hk i hi
theorem pm_st_inv {N : Nat} {cn : Nat → Nat} {fl rt : Nat → Int32} {a j : Nat} {o : Int32} {M : pm_M} (h : pm_Ok N cn fl rt) (hj : j < cn a) (ha : a < N) (hM : pm_Inv N cn fl M) : pm_Inv N cn (upd fl (a * 20 + j) o) (pm_note M a) := by
  obtain ⟨mr, ch, kp, lim, kc, nr, nf, nc⟩ := M
  obtain ⟨⟨s1, s2, s3, s4, s5⟩, z, k, c⟩ := hM
  dsimp only [pm_pl, pm_ch, pm_lim, pm_kc, pm_nr, pm_nf, pm_nc] at s1 s2 s3 s4 s5 z k c
  have h1 := h.1
  refine ⟨⟨s1, s2, s3, s4, ?_⟩, z, k, fun m hm q => ?_⟩
  · show (if a < nc then a else nc) ≤ 400
    split <;> omega
  · by_cases e : m = a
    · subst e
      refine Or.inr (Or.inr (Or.inl ⟨by show ¬ upd ch m 1 m = 0; rw [pk_us]; decide, ?_⟩))
      show (if m < nc then m else nc) ≤ m
      split <;> omega
    · rcases c m hm q with e1 | e1 | ⟨e1, e2⟩ | e1
      · exact Or.inl e1
      · exact Or.inr (Or.inl e1)
      · refine Or.inr (Or.inr (Or.inl ⟨by show ¬ upd ch a 1 m = 0; rw [pk_un e]; exact e1, ?_⟩))
        show (if a < nc then a else nc) ≤ m
        have e2' : nc ≤ m := e2
        split <;> omega
      · refine Or.inr (Or.inr (Or.inr (fun b he => e1 b ?_)))
        obtain ⟨q1, q2, i, hi, q3⟩ := he
        have b1 := h.2.1 m q1
        have b2 := h.2.1 a ha
        rw [pk_un (by omega)] at q3
        exact ⟨q1, q2, i, hi, q3⟩
theorem pm_rt_ok {N : Nat} {cn : Nat → Nat} {fl rt : Nat → Int32} {i : Nat} {o : Int32} (h : pm_Ok N cn fl rt) (ho : o = -1 ∨ ∃ m, m < N ∧ o = nI m) : pm_Ok N cn fl (upd rt i o) := by
  obtain ⟨h1, h2, h3, h4⟩ := h
  refine ⟨h1, h2, h3, fun k hk => ?_⟩
  by_cases e : k = i
  · rw [e, pk_us]; exact ho
  · rw [pk_un e]; exact h4 k hk
/-- all is forgotten -/
def pm_bg (M : pm_M) : pm_M := match M with | (mr, ch, kp, lim, _, _, _, _) => (pm_clr 400 mr, pm_clr 400 ch, kp, lim, 0, 0, 400, 400)
theorem pm_bg_inv {N : Nat} {cn : Nat → Nat} {fl : Nat → Int32} {M : pm_M} (h : pm_Si M) (hN : N ≤ 400) : pm_Inv N cn fl (pm_bg M) ∧ ∀ S : Nat → Prop, pm_Sd S (pm_pl (pm_bg M)) := by
  obtain ⟨mr, ch, kp, lim, kc, nr, nf, nc⟩ := M
  have h0 : ∀ m, m < 400 → pm_clr 400 mr m = 0 := fun m hm => pm_clr_in mr hm
  refine ⟨⟨⟨h.1, Nat.zero_le _, Nat.zero_le _, Nat.le_refl _, Nat.le_refl _⟩, fun m hm q => absurd (h0 m hm) q, fun i hi => absurd hi (Nat.not_lt_zero i), fun m hm q => absurd (h0 m (by omega)) q⟩, fun S m hm q => absurd (h0 m hm) q⟩
end
end
section
/-! small rows: booleans as the machine has them, objects' numbers, a loop of the machine -/
section
def pm_b (b : Bool) : Int32 := match b with
  | true => nI 1
  | false => nI 0
theorem pm_has_f1 {N : Nat} {x : Int32} (h : x < 0) : pm_has N x = false := by
  have h1 : ¬ (0 : Int32) ≤ x := by
    rw [Int32.le_iff_toInt_le]
    rw [Int32.lt_iff_toInt_lt] at h
    omega
  simp [pm_has, h1]
theorem pm_has_f2 {N : Nat} {x : Int32} (h : nI N ≤ x) : pm_has N x = false := by
  have h1 : ¬ x < nI N := by
    rw [Int32.lt_iff_toInt_lt]
    rw [Int32.le_iff_toInt_le] at h
    omega
  simp [pm_has, h1]
theorem pm_has_t {N : Nat} {x : Int32} (h : ¬ x < 0) (h2 : ¬ nI N ≤ x) : pm_has N x = true := by
  have h1 : (0 : Int32) ≤ x := by
    rw [Int32.le_iff_toInt_le]
    rw [Int32.lt_iff_toInt_lt] at h
    omega
  have h3 : x < nI N := by
    rw [Int32.lt_iff_toInt_lt]
    rw [Int32.le_iff_toInt_le] at h2
    omega
  simp [pm_has, h1, h3]
theorem pm_has_in {N M : Nat} {x : Int32} (hN : N ≤ M) (hM : M < 2 ^ 31) (h : pm_has N x = true) : vp_in x M := by
  obtain ⟨j, hj, rfl⟩ := pm_has_of (by omega) h
  exact vp_in_nI (by omega) hM
/-- object k has such a field -/
def pm_hf (N : Nat) (cn : Nat → Nat) (k f : Int32) : Bool := pm_has N k && pm_has (cn k.toNatClampNeg) f
theorem pm_h1 {N : Nat} {x : Int32} (h : x < 0) : nI 0 = pm_b (pm_has N x) := by rw [pm_has_f1 h]; rfl
theorem pm_h2 {N : Nat} {x : Int32} (h : nI N ≤ x) : nI 0 = pm_b (pm_has N x) := by rw [pm_has_f2 h]; rfl
theorem pm_h3 {N : Nat} {x : Int32} (h : ¬ x < 0) (h2 : ¬ nI N ≤ x) : nI 1 = pm_b (pm_has N x) := by rw [pm_has_t h h2]; rfl
theorem pm_h4 {b : Bool} {x : Int32} (h : x = -1) : nI 1 = pm_b (decide (x = -1) || b) := by rw [decide_eq_true h]; rfl
theorem pm_h5 {b : Bool} {x : Int32} (h : ¬ x = -1) (h2 : b = true) : nI 1 = pm_b (decide (x = -1) || b) := by rw [decide_eq_false h, h2]; rfl
theorem pm_h6 {b : Bool} {x : Int32} (h : ¬ x = -1) (h2 : b = false) : nI 0 = pm_b (decide (x = -1) || b) := by rw [decide_eq_false h, h2]; rfl
theorem pm_h7 {N : Nat} {cn : Nat → Nat} {k f : Int32} (h : pm_has N k = false) : nI 0 = pm_b (pm_hf N cn k f) := by simp only [pm_hf, h, Bool.false_and]; rfl
theorem pm_h8 {N : Nat} {cn : Nat → Nat} {k f : Int32} (h : pm_has N k = true) (h2 : f < 0) : nI 0 = pm_b (pm_hf N cn k f) := by simp only [pm_hf, h, pm_has_f1 h2, Bool.and_false]; rfl
theorem pm_h9 {N : Nat} {cn : Nat → Nat} {k f : Int32} (h : pm_has N k = true) (h2 : pm_nf9 cn k.toNatClampNeg ≤ f) : nI 0 = pm_b (pm_hf N cn k f) := by
  have h3 : pm_has (cn k.toNatClampNeg) f = false := pm_has_f2 h2
  simp only [pm_hf, h, h3, Bool.and_false]; rfl
theorem pm_h10 {N : Nat} {cn : Nat → Nat} {k f : Int32} (h : pm_has N k = true) (h1 : ¬ f < 0) (h2 : ¬ pm_nf9 cn k.toNatClampNeg ≤ f) : nI 1 = pm_b (pm_hf N cn k f) := by
  have h3 : pm_has (cn k.toNatClampNeg) f = true := pm_has_t h1 h2
  simp only [pm_hf, h, h3, Bool.and_true]; rfl
theorem pm_hf_of {N : Nat} {cn : Nat → Nat} {k f : Int32} (hN : N < 2 ^ 31) (hc : ∀ i, i < N → cn i ≤ 20) (h : pm_hf N cn k f = true) : ∃ a j : Nat, a < N ∧ j < cn a ∧ k = nI a ∧ f = nI j := by
  simp only [pm_hf, Bool.and_eq_true] at h
  obtain ⟨a, ha, rfl⟩ := pm_has_of hN h.1
  have h2 := h.2
  rw [nI_clamp (by omega)] at h2
  have := hc a ha
  obtain ⟨j, hj, rfl⟩ := pm_has_of (by omega) h2
  exact ⟨a, j, ha, hj, rfl, rfl⟩
theorem pm_hf_nI {N : Nat} {cn : Nat → Nat} {a j : Nat} (hN : N < 2 ^ 31) (hc : cn a < 2 ^ 31) (ha : a < N) (hj : j < cn a) : pm_hf N cn (nI a) (nI j) = true := by
  simp only [pm_hf, Bool.and_eq_true]
  rw [nI_clamp (by omega)]
  exact ⟨pm_has_nI hN ha, pm_has_nI hc hj⟩
/-- a loop of the machine: its state x, what holds at its head, a measure that falls -/
theorem lp_loop {σ : Type} {p : Program} {l : Launch} {e : Env} {R : Room} {s : State} {m : MethodId} {args : Array Value} {below : List Frame} {meth : Method} {c : Code} {cells slots : Nat} {Q : State → Prop} {head : Nat} {stk : List Value}
    (I : σ → Heap → List Loc → Array Slot → Prop) (μ : σ → Nat)
    (step : ∀ (x : σ) (H : Heap) (locs : List Loc) (ls : Array Slot), I x H locs ls → (∀ (y : σ) (H' : Heap) (locs' : List Loc) (ls' : Array Slot), I y H' locs' ls' → μ y < μ x → W p l e R s m args below meth c H' locs' cells slots Q (F0 m head ls' stk)) → W p l e R s m args below meth c H locs cells slots Q (F0 m head ls stk))
    (x : σ) (H : Heap) (locs : List Loc) (ls : Array Slot) (h : I x H locs ls) : W p l e R s m args below meth c H locs cells slots Q (F0 m head ls stk) := by
  have key : ∀ (n : Nat) (x : σ) (H : Heap) (locs : List Loc) (ls : Array Slot), μ x < n → I x H locs ls → W p l e R s m args below meth c H locs cells slots Q (F0 m head ls stk) := by
    intro n
    induction n with
    | zero => intro x _ _ _ h; omega
    | succ n ih => intro x H locs ls hm hI; exact step x H locs ls hI (fun y H' locs' ls' hy hlt => ih y H' locs' ls' (by omega) hy)
  exact key (μ x + 1) x H locs ls (Nat.lt_succ_self _) h
end
section
/-- what a field has, as fieldOf answers -/
def pm_fo (N : Nat) (cn : Nat → Nat) (fl : Nat → Int32) (k f : Int32) : Int32 := if pm_hf N cn k f = true then fl (k.toNatClampNeg * 20 + f.toNatClampNeg) else -1
theorem pm_fo_t {N : Nat} {cn : Nat → Nat} {fl : Nat → Int32} {a j : Nat} (h : pm_hf N cn (nI a) (nI j) = true) (ha : a < 2 ^ 31) (hj : j < 2 ^ 31) : fl (a * 20 + j) = pm_fo N cn fl (nI a) (nI j) := by
  simp only [pm_fo]
  rw [if_pos h, nI_clamp ha, nI_clamp hj]
theorem pm_fo_f {N : Nat} {cn : Nat → Nat} {fl : Nat → Int32} {k f : Int32} (h : pm_hf N cn k f = false) : -1 = pm_fo N cn fl k f := by
  simp only [pm_fo]
  rw [if_neg (by rw [h]; decide)]
end
section
theorem pm_k1 {lim kc nf j : Nat} {mr kp : Nat → Int32} (h1 : kc < lim) (h2 : kc < 64) : (mr, upd kp kc (nI j), kc + 1, nf) = pm_keep lim (mr, kp, kc, nf) j := by
  simp only [pm_keep]; rw [if_pos ⟨h1, h2⟩]
theorem pm_k2 {lim kc nf j : Nat} {mr kp : Nat → Int32} (h1 : ¬ (kc < lim ∧ kc < 64)) (h2 : j < nf) : (mr, kp, kc, j) = pm_keep lim (mr, kp, kc, nf) j := by
  simp only [pm_keep]; rw [if_neg h1, if_pos h2]
theorem pm_k3 {lim kc nf j : Nat} {mr kp : Nat → Int32} (h1 : ¬ (kc < lim ∧ kc < 64)) (h2 : nf ≤ j) : (mr, kp, kc, nf) = pm_keep lim (mr, kp, kc, nf) j := by
  simp only [pm_keep]; rw [if_neg h1, if_neg (by omega)]
theorem pm_keep_mk (lim : Nat) (mr kp : Nat → Int32) (kc nf j : Nat) : (pm_keep lim (mr, kp, kc, nf) j).1 = mr := by
  simp only [pm_keep]
  split
  · rfl
  · split <;> rfl
theorem pm_p1 {N lim : Nat} {P : pm_P} {x : Int32} (h : pm_has N x = false) : P = pm_put N lim P x := by
  obtain ⟨mr, kp, kc, nf⟩ := P
  simp only [pm_put]; rw [if_neg (by rw [h]; decide)]
theorem pm_p2 {N lim kc nf k : Nat} {mr kp : Nat → Int32} (h : pm_has N (nI k) = true) (hk : k < 2 ^ 31) (h2 : ¬ mr k = 0) : (mr, kp, kc, nf) = pm_put N lim (mr, kp, kc, nf) (nI k) := by
  simp only [pm_put]; rw [if_pos h, nI_clamp hk, if_neg h2]
theorem pm_p3 {N lim kc nf k : Nat} {mr kp : Nat → Int32} (h : pm_has N (nI k) = true) (hk : k < 2 ^ 31) (h2 : mr k = 0) : pm_keep lim (upd mr k 1, kp, kc, nf) k = pm_put N lim (mr, kp, kc, nf) (nI k) := by
  simp only [pm_put]; rw [if_pos h, nI_clamp hk, if_pos h2]
theorem pm_g1 {N lim : Nat} {cn : Nat → Nat} {fl : Nat → Int32} {P : pm_P} {x : Int32} (h : pm_has N x = false) : P = pm_go N cn fl lim P x := by
  simp only [pm_go]; rw [if_neg (by rw [h]; decide)]
theorem pm_g2 {N lim a : Nat} {cn : Nat → Nat} {fl : Nat → Int32} {P : pm_P} (h : pm_has N (nI a) = true) (ha : a < 2 ^ 31) : pm_mf N lim (fun j => fl (a * 20 + j)) (cn a) P = pm_go N cn fl lim P (nI a) := by
  simp only [pm_go]; rw [if_pos h, nI_clamp ha]
end
section
theorem pm_z1 : vp_nar .boolean (nI 1) = 1 := by decide +kernel
theorem pm_z0 : vp_nar .boolean (nI 0) = 0 := by decide +kernel
theorem pm_nz1 : narrow .boolean (.int (nI 1)) = .int (nI 1) := by decide +kernel
theorem pm_nz0 : narrow .boolean (.int (nI 0)) = .int (nI 0) := by decide +kernel
theorem pm_nzb (b : Bool) : narrow .boolean (.int (pm_b b)) = .int (pm_b b) := by cases b; exact pm_nz0; exact pm_nz1
variable {N : Nat} {cn : Nat → Nat} {fl rt : Nat → Int32} {mr ch kp mk9 kp9 : Nat → Int32} {lim kc nr nf nc kc9 nf9 : Nat}
theorem pm_sA (h : nr < 16) (hw : (mk9, kp9, kc9, nf9) = pm_put N lim (mr, kp, kc, nf) (rt nr)) : nI 1 = pm_b (pm_ms N cn fl rt (mr, ch, kp, lim, kc, nr, nf, nc)).1 ∧ (mk9, ch, kp9, lim, kc9, nr + 1, nf9, nc) = (pm_ms N cn fl rt (mr, ch, kp, lim, kc, nr, nf, nc)).2 := by
  simp only [pm_ms]
  rw [if_pos h, ← hw]
  exact ⟨rfl, rfl⟩
theorem pm_sB (h : ¬ nr < 16) (h2 : 0 < kc) (hw : (mk9, kp9, kc9, nf9) = pm_go N cn fl lim (mr, kp, kc - 1, nf) (kp (kc - 1))) : nI 1 = pm_b (pm_ms N cn fl rt (mr, ch, kp, lim, kc, nr, nf, nc)).1 ∧ (mk9, ch, kp9, lim, kc9, nr, nf9, nc) = (pm_ms N cn fl rt (mr, ch, kp, lim, kc, nr, nf, nc)).2 := by
  simp only [pm_ms]
  rw [if_neg h, if_pos h2, ← hw]
  exact ⟨rfl, rfl⟩
theorem pm_sC (h : ¬ nr < 16) (h2 : ¬ 0 < kc) (h3 : nf < N) (h4 : mr nf = 0) : nI 1 = pm_b (pm_ms N cn fl rt (mr, ch, kp, lim, kc, nr, nf, nc)).1 ∧ (mr, ch, kp, lim, kc, nr, nf + 1, nc) = (pm_ms N cn fl rt (mr, ch, kp, lim, kc, nr, nf, nc)).2 := by
  simp only [pm_ms]
  rw [if_neg h, if_neg h2, if_pos h3, if_pos h4]
  exact ⟨rfl, rfl⟩
theorem pm_sD (h : ¬ nr < 16) (h2 : ¬ 0 < kc) (h3 : nf < N) (h4 : ¬ mr nf = 0) (hw : (mk9, kp9, kc9, nf9) = pm_go N cn fl lim (mr, kp, kc, nf + 1) (nI nf)) : nI 1 = pm_b (pm_ms N cn fl rt (mr, ch, kp, lim, kc, nr, nf, nc)).1 ∧ (mk9, ch, kp9, lim, kc9, nr, nf9, nc) = (pm_ms N cn fl rt (mr, ch, kp, lim, kc, nr, nf, nc)).2 := by
  simp only [pm_ms]
  rw [if_neg h, if_neg h2, if_pos h3, if_neg h4, ← hw]
  exact ⟨rfl, rfl⟩
theorem pm_sE (h : ¬ nr < 16) (h2 : ¬ 0 < kc) (h3 : ¬ nf < N) : nI 0 = pm_b (pm_ms N cn fl rt (mr, ch, kp, lim, kc, nr, nf, nc)).1 ∧ (mr, ch, kp, lim, kc, nr, nf, nc) = (pm_ms N cn fl rt (mr, ch, kp, lim, kc, nr, nf, nc)).2 := by
  simp only [pm_ms]
  rw [if_neg h, if_neg h2, if_neg h3]
  exact ⟨rfl, rfl⟩
theorem pm_cA (h : ¬ nc < N) : nI 0 = pm_b (pm_cs N cn fl (mr, ch, kp, lim, kc, nr, nf, nc)).1 ∧ (mr, ch, kp, lim, kc, nr, nf, nc) = (pm_cs N cn fl (mr, ch, kp, lim, kc, nr, nf, nc)).2 := by
  simp only [pm_cs]
  rw [if_neg h]
  exact ⟨rfl, rfl⟩
theorem pm_cB (h : nc < N) (h2 : ch nc = 0) : nI 1 = pm_b (pm_cs N cn fl (mr, ch, kp, lim, kc, nr, nf, nc)).1 ∧ (mr, ch, kp, lim, kc, nr, nf, nc + 1) = (pm_cs N cn fl (mr, ch, kp, lim, kc, nr, nf, nc)).2 := by
  simp only [pm_cs]
  rw [if_pos h, if_pos h2]
  exact ⟨rfl, rfl⟩
theorem pm_cC (h : nc < N) (h2 : ¬ ch nc = 0) (h3 : mr nc = 0) : nI 1 = pm_b (pm_cs N cn fl (mr, ch, kp, lim, kc, nr, nf, nc)).1 ∧ (mr, upd ch nc 0, kp, lim, kc, nr, nf, nc + 1) = (pm_cs N cn fl (mr, ch, kp, lim, kc, nr, nf, nc)).2 := by
  simp only [pm_cs]
  rw [if_pos h, if_neg h2, if_pos h3]
  exact ⟨rfl, rfl⟩
theorem pm_cD (h : nc < N) (h2 : ¬ ch nc = 0) (h3 : ¬ mr nc = 0) (hw : (mk9, kp9, kc9, nf9) = pm_go N cn fl lim (mr, kp, kc, nf) (nI nc)) : nI 1 = pm_b (pm_cs N cn fl (mr, ch, kp, lim, kc, nr, nf, nc)).1 ∧ (mk9, upd ch nc 0, kp9, lim, kc9, nr, nf9, nc + 1) = (pm_cs N cn fl (mr, ch, kp, lim, kc, nr, nf, nc)).2 := by
  simp only [pm_cs]
  rw [if_pos h, if_neg h2, if_neg h3, ← hw]
  exact ⟨rfl, rfl⟩
/-- has a mark, as hasMark answers -/
def pm_hm (N : Nat) (mr : Nat → Int32) (x : Int32) : Bool := pm_has N x && !decide (mr x.toNatClampNeg = 0)
theorem pm_hm1 {x : Int32} (h : pm_has N x = false) : nI 0 = pm_b (pm_hm N mr x) := by simp only [pm_hm, h, Bool.false_and]; rfl
theorem pm_hm2 {x : Int32} (h : pm_has N x = true) (h2 : mr x.toNatClampNeg = 0) : nI 0 = pm_b (pm_hm N mr x) := by simp only [pm_hm, h, h2]; rfl
theorem pm_hm3 {x : Int32} (h : pm_has N x = true) (h2 : ¬ mr x.toNatClampNeg = 0) : nI 1 = pm_b (pm_hm N mr x) := by simp only [pm_hm, h, decide_eq_false h2]; rfl
theorem pm_hm_nI {k : Nat} (hN : N < 2 ^ 31) (hk : k < N) : pm_hm N mr (nI k) = !decide (mr k = 0) := by
  simp only [pm_hm, pm_has_nI hN hk, Bool.true_and]
  rw [nI_clamp (by omega)]
end
section
def pm_tg (f : pm_M → Bool × pm_M) (b : Bool) (k : Nat) (M : pm_M) : pm_M := match b with
  | true => pm_run f k M
  | false => M
theorem pm_tg0 {f : pm_M → Bool × pm_M} {b : Bool} {k : Nat} {M T : pm_M} (h : pm_tg f b k M = T) (hk : k = 0) : M = T := by
  subst hk
  cases b <;> exact h
theorem pm_run_s {f : pm_M → Bool × pm_M} {i n : Nat} {M : pm_M} (h : i < n) : pm_tg f (f M).1 (n - (i + 1)) (f M).2 = pm_run f (n - i) M := by
  rw [show n - i = (n - (i + 1)) + 1 by omega]
  simp only [pm_run]
  cases hb : (f M).1 with
  | true => rw [if_pos rfl]; rfl
  | false => rw [if_neg (by decide)]; rfl
end
section
variable {N : Nat} {cn : Nat → Nat} {fl rt : Nat → Int32} {M : pm_M} {i n : Nat}
theorem pm_fsA (h : (pm_ms N cn fl rt M).1 = true) (hi : i < n) : pm_tg (pm_fs N cn fl rt) true (n - (i + 1)) (pm_ms N cn fl rt M).2 = pm_run (pm_fs N cn fl rt) (n - i) M := by
  have e : pm_fs N cn fl rt M = pm_ms N cn fl rt M := by simp only [pm_fs]; rw [if_pos h]
  have q := pm_run_s (f := pm_fs N cn fl rt) (M := M) hi
  rw [e, h] at q
  exact q
theorem pm_fsB (h : (pm_ms N cn fl rt M).1 = false) (h2 : (pm_cs N cn fl (pm_ms N cn fl rt M).2).1 = true) (hi : i < n) : pm_tg (pm_fs N cn fl rt) true (n - (i + 1)) (pm_cs N cn fl (pm_ms N cn fl rt M).2).2 = pm_run (pm_fs N cn fl rt) (n - i) M := by
  have e : pm_fs N cn fl rt M = pm_cs N cn fl (pm_ms N cn fl rt M).2 := by simp only [pm_fs]; rw [if_neg (by rw [h]; decide)]
  have q := pm_run_s (f := pm_fs N cn fl rt) (M := M) hi
  rw [e, h2] at q
  exact q
theorem pm_fsC (h : (pm_ms N cn fl rt M).1 = false) (h2 : (pm_cs N cn fl (pm_ms N cn fl rt M).2).1 = false) (hi : i < n) : pm_tg (pm_fs N cn fl rt) false (n - (i + 1)) (pm_cs N cn fl (pm_ms N cn fl rt M).2).2 = pm_run (pm_fs N cn fl rt) (n - i) M := by
  have e : pm_fs N cn fl rt M = pm_cs N cn fl (pm_ms N cn fl rt M).2 := by simp only [pm_fs]; rw [if_neg (by rw [h]; decide)]
  have q := pm_run_s (f := pm_fs N cn fl rt) (M := M) hi
  rw [e, h2] at q
  exact q
end
section
variable {N : Nat} {cn : Nat → Nat} {fl rt fd od fd1 od1 : Nat → Int32} {c c1 k : Nat}
theorem pm_e1 {F : pm_F} {x : Int32} (h : pm_has N x = false) : F = pm_en N F x := by
  obtain ⟨fd, od, c⟩ := F
  simp only [pm_en]; rw [if_neg (by rw [h]; decide)]
theorem pm_e2 (h : pm_has N (nI k) = true) (hk : k < 2 ^ 31) (h2 : ¬ fd k = 0) : (fd, od, c) = pm_en N (fd, od, c) (nI k) := by
  simp only [pm_en]; rw [if_pos h, nI_clamp hk, if_neg h2]
theorem pm_e3 (h : pm_has N (nI k) = true) (hk : k < 2 ^ 31) (h2 : fd k = 0) (h3 : 400 ≤ c) : (fd, od, c) = pm_en N (fd, od, c) (nI k) := by
  simp only [pm_en]; rw [if_pos h, nI_clamp hk, if_pos h2, if_neg (by omega)]
theorem pm_e4 (h : pm_has N (nI k) = true) (hk : k < 2 ^ 31) (h2 : fd k = 0) (h3 : c < 400) : (upd fd k 1, upd od c (nI k), c + 1) = pm_en N (fd, od, c) (nI k) := by
  simp only [pm_en]; rw [if_pos h, nI_clamp hk, if_pos h2, if_pos h3]
theorem pm_o1 {F : pm_F} {x : Int32} (h : pm_has N x = false) : F = pm_eo N cn fl F x := by
  simp only [pm_eo]; rw [if_neg (by rw [h]; decide)]
theorem pm_o2 {F : pm_F} {a : Nat} (h : pm_has N (nI a) = true) (ha : a < 2 ^ 31) : pm_ef N (fun j => fl (a * 20 + j)) (cn a) F = pm_eo N cn fl F (nI a) := by
  simp only [pm_eo]; rw [if_pos h, nI_clamp ha]
theorem pm_en_c {F : pm_F} {x : Int32} (h : F.2.2 ≤ 400) : (pm_en N F x).2.2 ≤ 400 := by
  obtain ⟨fd, od, c⟩ := F
  simp only [pm_en]
  split
  · split
    · split
      · show c + 1 ≤ 400; omega
      · exact h
    · exact h
  · exact h
theorem pm_ef_c0 {g : Nat → Int32} {F : pm_F} (h : F.2.2 ≤ 400) : ∀ n, (pm_ef N g n F).2.2 ≤ 400 := by
  intro n
  induction n with
  | zero => exact h
  | succ n ih => exact pm_en_c ih
theorem pm_ef_c {g : Nat → Int32} {j : Nat} (h : c ≤ 400) (e : (fd1, od1, c1) = pm_ef N g j (fd, od, c)) : c1 ≤ 400 := by
  have q := pm_ef_c0 (N := N) (g := g) (F := (fd, od, c)) h j
  rw [← e] at q
  exact q
theorem pm_eo_c {x : Int32} (h : c ≤ 400) (e : (fd1, od1, c1) = pm_eo N cn fl (fd, od, c) x) : c1 ≤ 400 := by
  simp only [pm_eo] at e
  split at e
  · exact pm_ef_c h e
  · cases e; exact h
theorem pm_q_s {i : Nat} (h : i < 400) (h2 : i < c) : pm_q N cn fl (400 - (i + 1)) (i + 1) (pm_eo N cn fl (fd, od, c) (od i)) = pm_q N cn fl (400 - i) i (fd, od, c) := by
  rw [show 400 - i = (400 - (i + 1)) + 1 by omega]
  simp only [pm_q]
  rw [if_pos h2]
theorem pm_q_e {n i : Nat} (h : c ≤ i) : (fd, od, c) = pm_q N cn fl n i (fd, od, c) := by
  cases n with
  | zero => rfl
  | succ n => simp only [pm_q]; rw [if_neg (by omega)]
end
end
section
/-! NAMES, written by a program of ours out of the Statement: classes, fields, methods, and the words of the tables that stay good, each by its place -/
def gw : List Cond := lw_tbl.filter goodWord
theorem gw_in {w : Cond} (i : Nat) (h : lw_tbl[i]? = some w) (hg : goodWord w = true) : w ∈ gw := List.mem_filter.mpr ⟨List.mem_of_getElem? h, hg⟩
theorem gw_tbl {w : Cond} (h : w ∈ gw) : w ∈ lw_tbl := (List.mem_filter.mp h).1
theorem gw_ok {w : Cond} (h : w ∈ gw) : w ∈ gw ∧ ((w.onTables && w.keeps) = true ∨ ∃ ty, w = .arrayClass ty) := ⟨h, good_of_word (List.mem_filter.mp h).2⟩
theorem gw_I {c : Cond} (h : c ∈ gw) : GoodIn gw (c :: gw) := fun w hw => (List.mem_cons.mp hw).elim (fun e => by rw [e]; exact gw_ok h) (fun h => gw_ok h)
theorem gw_V {own C : String} {i : Nat} {y : MethodName} {c : Cond} (h1 : Cond.methodLink own i y ∈ gw) (h2 : Cond.instanceMethod y ∈ gw) (h3 : Cond.selects C y y ∈ gw) (h4 : Cond.initialized C ∈ gw) (h5 : c ∈ gw) : GoodIn gw (wsV own i C y (c :: gw)) := by
  intro w hw
  simp only [wsV, List.cons_append, List.nil_append, List.mem_cons] at hw
  rcases hw with rfl | rfl | rfl | rfl | rfl | hw
  · exact gw_ok h1
  · exact gw_ok h2
  · exact gw_ok h3
  · exact gw_ok h4
  · exact gw_ok h5
  · exact gw_ok hw
theorem gw_S {own : String} {i : Nat} {y : MethodName} {c : Cond} (h1 : Cond.methodLink own i y ∈ gw) (h2 : Cond.static y ∈ gw) (h3 : Cond.initialized y.cls ∈ gw) (h5 : c ∈ gw) : GoodIn gw (va_wsS own i y (c :: gw)) := by
  intro w hw
  simp only [va_wsS, List.cons_append, List.nil_append, List.mem_cons] at hw
  rcases hw with rfl | rfl | rfl | rfl | hw
  · exact gw_ok h1
  · exact gw_ok h2
  · exact gw_ok h3
  · exact gw_ok h5
  · exact gw_ok hw
def RX0 : String := "PileMarker$Heap"
def TX0 : u_T := fun k => match k with
  | 0 => ("PileMarker$Heap", "fieldCounts", "[I", true)
  | 1 => ("PileMarker$Heap", "fields", "[I", true)
  | 2 => ("PileMarker$Heap", "roots", "[I", true)
  | 3 => ("PileMarker$Heap", "objects", "I", false)
  | _ => ("PileMarker$Heap", "fieldsOfAll", "I", false)
def tyX0 : Nat → FieldType := fun k => match k with
  | 0 => .array .int
  | 1 => .array .int
  | 2 => .array .int
  | 3 => .int
  | _ => .int
theorem nmX0 : ∀ a, a < 5 → ∀ b, b < 5 → a ≠ b → (TX0 a).2.1 ≠ (TX0 b).2.1 := by decide +kernel
theorem tyX0_ok : ∀ k, k < 5 → parseFieldDescriptor (TX0 k).2.2.1 = some (tyX0 k) := by decide +kernel
theorem iw_X0 : ∀ w ∈ u_ws RX0 TX0 5, w ∈ gw := by decide +kernel
def RX1 : String := "PileMarker$Marker"
def TX1 : u_T := fun k => match k with
  | 0 => ("PileMarker$Marker", "heap", "LPileMarker$Heap;", true)
  | 1 => ("PileMarker$Marker", "marks", "[Z", true)
  | 2 => ("PileMarker$Marker", "changed", "[Z", true)
  | 3 => ("PileMarker$Marker", "kept", "[I", true)
  | 4 => ("PileMarker$Marker", "limit", "I", false)
  | 5 => ("PileMarker$Marker", "keptCount", "I", false)
  | 6 => ("PileMarker$Marker", "nextRoot", "I", false)
  | 7 => ("PileMarker$Marker", "nextForgotten", "I", false)
  | _ => ("PileMarker$Marker", "nextChanged", "I", false)
def tyX1 : Nat → FieldType := fun k => match k with
  | 0 => .object "PileMarker$Heap"
  | 1 => .array .boolean
  | 2 => .array .boolean
  | 3 => .array .int
  | 4 => .int
  | 5 => .int
  | 6 => .int
  | 7 => .int
  | _ => .int
theorem nmX1 : ∀ a, a < 9 → ∀ b, b < 9 → a ≠ b → (TX1 a).2.1 ≠ (TX1 b).2.1 := by decide +kernel
theorem tyX1_ok : ∀ k, k < 9 → parseFieldDescriptor (TX1 k).2.2.1 = some (tyX1 k) := by decide +kernel
theorem iw_X1 : ∀ w ∈ u_ws RX1 TX1 9, w ∈ gw := by decide +kernel
def RX2 : String := "PileMarker$Reach"
def TX2 : u_T := fun k => match k with
  | 0 => ("PileMarker$Reach", "heap", "LPileMarker$Heap;", true)
  | 1 => ("PileMarker$Reach", "found", "[Z", true)
  | 2 => ("PileMarker$Reach", "order", "[I", true)
  | _ => ("PileMarker$Reach", "foundCount", "I", false)
def tyX2 : Nat → FieldType := fun k => match k with
  | 0 => .object "PileMarker$Heap"
  | 1 => .array .boolean
  | 2 => .array .int
  | _ => .int
theorem nmX2 : ∀ a, a < 4 → ∀ b, b < 4 → a ≠ b → (TX2 a).2.1 ≠ (TX2 b).2.1 := by decide +kernel
theorem tyX2_ok : ∀ k, k < 4 → parseFieldDescriptor (TX2 k).2.2.1 = some (tyX2 k) := by decide +kernel
theorem iw_X2 : ∀ w ∈ u_ws RX2 TX2 4, w ∈ gw := by decide +kernel
def RX3 : String := "PileMarker"
def TX3 : u_T := fun k => match k with
  | 0 => ("PileMarker", "heap", "LPileMarker$Heap;", true)
  | 1 => ("PileMarker", "marker", "LPileMarker$Marker;", true)
  | 2 => ("PileMarker", "reach", "LPileMarker$Reach;", true)
  | 3 => ("PileMarker", "inCycle", "Z", false)
  | 4 => ("PileMarker", "touched", "Z", false)
  | 5 => ("PileMarker", "latestWasQuiet", "Z", false)
  | 6 => ("PileMarker", "finishedCycles", "I", false)
  | _ => ("PileMarker", "quietCycles", "I", false)
def tyX3 : Nat → FieldType := fun k => match k with
  | 0 => .object "PileMarker$Heap"
  | 1 => .object "PileMarker$Marker"
  | 2 => .object "PileMarker$Reach"
  | 3 => .boolean
  | 4 => .boolean
  | 5 => .boolean
  | 6 => .int
  | _ => .int
theorem nmX3 : ∀ a, a < 8 → ∀ b, b < 8 → a ≠ b → (TX3 a).2.1 ≠ (TX3 b).2.1 := by decide +kernel
theorem tyX3_ok : ∀ k, k < 8 → parseFieldDescriptor (TX3 k).2.2.1 = some (tyX3 k) := by decide +kernel
theorem iw_X3 : ∀ w ∈ u_ws RX3 TX3 8, w ∈ gw := by decide +kernel
def RX4 : String := "PileMarkerModel"
def TX4 : u_T := fun k => match k with
  | 0 => ("PileMarkerModel", "thrown", "I", false)
  | 1 => ("PileMarkerModel", "objects", "I", false)
  | 2 => ("PileMarkerModel", "allFields", "I", false)
  | 3 => ("PileMarkerModel", "starts", "[I", true)
  | 4 => ("PileMarkerModel", "fields", "[I", true)
  | 5 => ("PileMarkerModel", "roots", "[I", true)
  | 6 => ("PileMarkerModel", "reached", "[Z", true)
  | 7 => ("PileMarkerModel", "marks", "[Z", true)
  | 8 => ("PileMarkerModel", "piled", "I", false)
  | 9 => ("PileMarkerModel", "going", "Z", false)
  | 10 => ("PileMarkerModel", "quiet", "Z", false)
  | 11 => ("PileMarkerModel", "cycles", "I", false)
  | 12 => ("PileMarkerModel", "quietCycles", "I", false)
  | 13 => ("PileMarkerModel", "fresh", "Z", false)
  | _ => ("PileMarkerModel", "wasQuiet", "Z", false)
def tyX4 : Nat → FieldType := fun k => match k with
  | 0 => .int
  | 1 => .int
  | 2 => .int
  | 3 => .array .int
  | 4 => .array .int
  | 5 => .array .int
  | 6 => .array .boolean
  | 7 => .array .boolean
  | 8 => .int
  | 9 => .boolean
  | 10 => .boolean
  | 11 => .int
  | 12 => .int
  | 13 => .boolean
  | _ => .boolean
theorem nmX4 : ∀ a, a < 15 → ∀ b, b < 15 → a ≠ b → (TX4 a).2.1 ≠ (TX4 b).2.1 := by decide +kernel
theorem tyX4_ok : ∀ k, k < 15 → parseFieldDescriptor (TX4 k).2.2.1 = some (tyX4 k) := by decide +kernel
theorem iw_X4 : ∀ w ∈ u_ws RX4 TX4 15, w ∈ gw := by decide +kernel
def RL : String := "PileMarkerLaw"
abbrev vwCl : List vw_C := [(RX0, TX0, 5), (RX1, TX1, 9), (RX2, TX2, 4), (RX3, TX3, 8), (RX4, TX4, 15)]
abbrev cX3_init : ByteArray := prog_1_method_1_code
def yX3_init : MethodName := ⟨RX3, "<init>", "()V"⟩
def wsX3_init : List Cond := .code yX3_init cX3_init 1 none :: gw
theorem mc_X3_init : Cond.code yX3_init cX3_init 1 none ∈ gw := gw_in 30 (by decide +kernel) (by decide +kernel)
abbrev cX0_init : ByteArray := prog_2_method_1_code
def yX0_init : MethodName := ⟨RX0, "<init>", "()V"⟩
def wsX0_init : List Cond := .code yX0_init cX0_init 2 none :: gw
theorem mc_X0_init : Cond.code yX0_init cX0_init 2 none ∈ gw := gw_in 38 (by decide +kernel) (by decide +kernel)
abbrev cX1_init : ByteArray := prog_3_method_1_code
def yX1_init : MethodName := ⟨RX1, "<init>", "(LPileMarker$Heap;)V"⟩
def wsX1_init : List Cond := .code yX1_init cX1_init 2 none :: gw
theorem mc_X1_init : Cond.code yX1_init cX1_init 2 none ∈ gw := gw_in 61 (by decide +kernel) (by decide +kernel)
abbrev cX2_init : ByteArray := prog_4_method_1_code
def yX2_init : MethodName := ⟨RX2, "<init>", "(LPileMarker$Heap;)V"⟩
def wsX2_init : List Cond := .code yX2_init cX2_init 2 none :: gw
theorem mc_X2_init : Cond.code yX2_init cX2_init 2 none ∈ gw := gw_in 96 (by decide +kernel) (by decide +kernel)
abbrev cL_make : ByteArray := method_3_code
def yL_make : MethodName := ⟨RL, "make", "(LPileMarker;I[J)I"⟩
def wsL_make : List Cond := .codeWith yL_make cL_make 4 (some .int) [(0, 9, 12, 13), (0, 9, 15, 15)] :: gw
theorem mc_L_make : Cond.codeWith yL_make cL_make 4 (some .int) [(0, 9, 12, 13), (0, 9, 15, 15)] ∈ gw := gw_in 138 (by decide +kernel) (by decide +kernel)
abbrev cX3_make : ByteArray := prog_1_method_2_code
def yX3_make : MethodName := ⟨RX3, "make", "(I)I"⟩
def wsX3_make : List Cond := .code yX3_make cX3_make 2 (some .int) :: gw
theorem mc_X3_make : Cond.code yX3_make cX3_make 2 (some .int) ∈ gw := gw_in 144 (by decide +kernel) (by decide +kernel)
abbrev cX0_isFull : ByteArray := prog_2_method_2_code
def yX0_isFull : MethodName := ⟨RX0, "isFull", "()Z"⟩
def wsX0_isFull : List Cond := .code yX0_isFull cX0_isFull 1 (some .boolean) :: gw
theorem mc_X0_isFull : Cond.code yX0_isFull cX0_isFull 1 (some .boolean) ∈ gw := gw_in 216 (by decide +kernel) (by decide +kernel)
abbrev cX0_addObject : ByteArray := prog_2_method_7_code
def yX0_addObject : MethodName := ⟨RX0, "addObject", "(I)I"⟩
def wsX0_addObject : List Cond := .code yX0_addObject cX0_addObject 4 (some .int) :: gw
theorem mc_X0_addObject : Cond.code yX0_addObject cX0_addObject 4 (some .int) ∈ gw := gw_in 236 (by decide +kernel) (by decide +kernel)
abbrev cL_set : ByteArray := method_4_code
def yL_set : MethodName := ⟨RL, "set", "(LPileMarker;III[J)I"⟩
def wsL_set : List Cond := .codeWith yL_set cL_set 6 (some .int) [(0, 12, 15, 21)] :: gw
theorem mc_L_set : Cond.codeWith yL_set cL_set 6 (some .int) [(0, 12, 15, 21)] ∈ gw := gw_in 240 (by decide +kernel) (by decide +kernel)
abbrev cX3_set : ByteArray := prog_1_method_3_code
def yX3_set : MethodName := ⟨RX3, "set", "(III)I"⟩
def wsX3_set : List Cond := .code yX3_set cX3_set 4 (some .int) :: gw
theorem mc_X3_set : Cond.code yX3_set cX3_set 4 (some .int) ∈ gw := gw_in 245 (by decide +kernel) (by decide +kernel)
abbrev cX0_hasField : ByteArray := prog_2_method_5_code
def yX0_hasField : MethodName := ⟨RX0, "hasField", "(II)Z"⟩
def wsX0_hasField : List Cond := .code yX0_hasField cX0_hasField 3 (some .boolean) :: gw
theorem mc_X0_hasField : Cond.code yX0_hasField cX0_hasField 3 (some .boolean) ∈ gw := gw_in 249 (by decide +kernel) (by decide +kernel)
abbrev cX0_has : ByteArray := prog_2_method_3_code
def yX0_has : MethodName := ⟨RX0, "has", "(I)Z"⟩
def wsX0_has : List Cond := .code yX0_has cX0_has 2 (some .boolean) :: gw
theorem mc_X0_has : Cond.code yX0_has cX0_has 2 (some .boolean) ∈ gw := gw_in 253 (by decide +kernel) (by decide +kernel)
abbrev cX0_hasOrIsNone : ByteArray := prog_2_method_4_code
def yX0_hasOrIsNone : MethodName := ⟨RX0, "hasOrIsNone", "(I)Z"⟩
def wsX0_hasOrIsNone : List Cond := .code yX0_hasOrIsNone cX0_hasOrIsNone 2 (some .boolean) :: gw
theorem mc_X0_hasOrIsNone : Cond.code yX0_hasOrIsNone cX0_hasOrIsNone 2 (some .boolean) ∈ gw := gw_in 273 (by decide +kernel) (by decide +kernel)
abbrev cX1_noteChange : ByteArray := prog_3_method_4_code
def yX1_noteChange : MethodName := ⟨RX1, "noteChange", "(I)V"⟩
def wsX1_noteChange : List Cond := .code yX1_noteChange cX1_noteChange 2 none :: gw
theorem mc_X1_noteChange : Cond.code yX1_noteChange cX1_noteChange 2 none ∈ gw := gw_in 278 (by decide +kernel) (by decide +kernel)
abbrev cX0_putField : ByteArray := prog_2_method_9_code
def yX0_putField : MethodName := ⟨RX0, "putField", "(III)I"⟩
def wsX0_putField : List Cond := .code yX0_putField cX0_putField 5 (some .int) :: gw
theorem mc_X0_putField : Cond.code yX0_putField cX0_putField 5 (some .int) ∈ gw := gw_in 283 (by decide +kernel) (by decide +kernel)
abbrev cX0_fieldOf : ByteArray := prog_2_method_8_code
def yX0_fieldOf : MethodName := ⟨RX0, "fieldOf", "(II)I"⟩
def wsX0_fieldOf : List Cond := .code yX0_fieldOf cX0_fieldOf 3 (some .int) :: gw
theorem mc_X0_fieldOf : Cond.code yX0_fieldOf cX0_fieldOf 3 (some .int) ∈ gw := gw_in 287 (by decide +kernel) (by decide +kernel)
abbrev cL_get : ByteArray := method_5_code
def yL_get : MethodName := ⟨RL, "get", "(LPileMarker;II[J)I"⟩
def wsL_get : List Cond := .codeWith yL_get cL_get 5 (some .int) [(0, 10, 13, 21)] :: gw
theorem mc_L_get : Cond.codeWith yL_get cL_get 5 (some .int) [(0, 10, 13, 21)] ∈ gw := gw_in 291 (by decide +kernel) (by decide +kernel)
abbrev cX3_get : ByteArray := prog_1_method_4_code
def yX3_get : MethodName := ⟨RX3, "get", "(II)I"⟩
def wsX3_get : List Cond := .code yX3_get cX3_get 3 (some .int) :: gw
theorem mc_X3_get : Cond.code yX3_get cX3_get 3 (some .int) ∈ gw := gw_in 295 (by decide +kernel) (by decide +kernel)
abbrev cL_root : ByteArray := method_6_code
def yL_root : MethodName := ⟨RL, "root", "(LPileMarker;II[J)I"⟩
def wsL_root : List Cond := .codeWith yL_root cL_root 5 (some .int) [(0, 10, 13, 21)] :: gw
theorem mc_L_root : Cond.codeWith yL_root cL_root 5 (some .int) [(0, 10, 13, 21)] ∈ gw := gw_in 299 (by decide +kernel) (by decide +kernel)
abbrev cX3_root : ByteArray := prog_1_method_5_code
def yX3_root : MethodName := ⟨RX3, "root", "(II)I"⟩
def wsX3_root : List Cond := .code yX3_root cX3_root 3 (some .int) :: gw
theorem mc_X3_root : Cond.code yX3_root cX3_root 3 (some .int) ∈ gw := gw_in 303 (by decide +kernel) (by decide +kernel)
abbrev cX0_hasRoot : ByteArray := prog_2_method_6_code
def yX0_hasRoot : MethodName := ⟨RX0, "hasRoot", "(I)Z"⟩
def wsX0_hasRoot : List Cond := .code yX0_hasRoot cX0_hasRoot 2 (some .boolean) :: gw
theorem mc_X0_hasRoot : Cond.code yX0_hasRoot cX0_hasRoot 2 (some .boolean) ∈ gw := gw_in 307 (by decide +kernel) (by decide +kernel)
abbrev cX0_putRoot : ByteArray := prog_2_method_11_code
def yX0_putRoot : MethodName := ⟨RX0, "putRoot", "(II)I"⟩
def wsX0_putRoot : List Cond := .code yX0_putRoot cX0_putRoot 4 (some .int) :: gw
theorem mc_X0_putRoot : Cond.code yX0_putRoot cX0_putRoot 4 (some .int) ∈ gw := gw_in 313 (by decide +kernel) (by decide +kernel)
abbrev cX0_rootAt : ByteArray := prog_2_method_10_code
def yX0_rootAt : MethodName := ⟨RX0, "rootAt", "(I)I"⟩
def wsX0_rootAt : List Cond := .code yX0_rootAt cX0_rootAt 2 (some .int) :: gw
theorem mc_X0_rootAt : Cond.code yX0_rootAt cX0_rootAt 2 (some .int) ∈ gw := gw_in 317 (by decide +kernel) (by decide +kernel)
abbrev cL_pile : ByteArray := method_7_code
def yL_pile : MethodName := ⟨RL, "pile", "(LPileMarker;I[J)I"⟩
def wsL_pile : List Cond := .codeWith yL_pile cL_pile 4 (some .int) [(0, 9, 12, 13), (0, 9, 15, 15)] :: gw
theorem mc_L_pile : Cond.codeWith yL_pile cL_pile 4 (some .int) [(0, 9, 12, 13), (0, 9, 15, 15)] ∈ gw := gw_in 321 (by decide +kernel) (by decide +kernel)
abbrev cX3_pile : ByteArray := prog_1_method_6_code
def yX3_pile : MethodName := ⟨RX3, "pile", "(I)I"⟩
def wsX3_pile : List Cond := .code yX3_pile cX3_pile 2 (some .int) :: gw
theorem mc_X3_pile : Cond.code yX3_pile cX3_pile 2 (some .int) ∈ gw := gw_in 325 (by decide +kernel) (by decide +kernel)
abbrev cX1_changeLimit : ByteArray := prog_3_method_2_code
def yX1_changeLimit : MethodName := ⟨RX1, "changeLimit", "(I)I"⟩
def wsX1_changeLimit : List Cond := .code yX1_changeLimit cX1_changeLimit 3 (some .int) :: gw
theorem mc_X1_changeLimit : Cond.code yX1_changeLimit cX1_changeLimit 3 (some .int) ∈ gw := gw_in 331 (by decide +kernel) (by decide +kernel)
abbrev cL_begin : ByteArray := method_8_code
def yL_begin : MethodName := ⟨RL, "begin", "(LPileMarker;)I"⟩
def wsL_begin : List Cond := .codeWith yL_begin cL_begin 2 (some .int) [(0, 4, 7, 15)] :: gw
theorem mc_L_begin : Cond.codeWith yL_begin cL_begin 2 (some .int) [(0, 4, 7, 15)] ∈ gw := gw_in 334 (by decide +kernel) (by decide +kernel)
abbrev cX3_begin : ByteArray := prog_1_method_7_code
def yX3_begin : MethodName := ⟨RX3, "begin", "()V"⟩
def wsX3_begin : List Cond := .code yX3_begin cX3_begin 1 none :: gw
theorem mc_X3_begin : Cond.code yX3_begin cX3_begin 1 none ∈ gw := gw_in 338 (by decide +kernel) (by decide +kernel)
abbrev cX1_forgetAll : ByteArray := prog_3_method_3_code
def yX1_forgetAll : MethodName := ⟨RX1, "forgetAll", "()V"⟩
def wsX1_forgetAll : List Cond := .code yX1_forgetAll cX1_forgetAll 2 none :: gw
theorem mc_X1_forgetAll : Cond.code yX1_forgetAll cX1_forgetAll 2 none ∈ gw := gw_in 342 (by decide +kernel) (by decide +kernel)
abbrev cL_mark : ByteArray := method_9_code
def yL_mark : MethodName := ⟨RL, "mark", "(LPileMarker;I)I"⟩
def wsL_mark : List Cond := .codeWith yL_mark cL_mark 3 (some .int) [(0, 5, 8, 13)] :: gw
theorem mc_L_mark : Cond.codeWith yL_mark cL_mark 3 (some .int) [(0, 5, 8, 13)] ∈ gw := gw_in 345 (by decide +kernel) (by decide +kernel)
abbrev cX3_mark : ByteArray := prog_1_method_8_code
def yX3_mark : MethodName := ⟨RX3, "mark", "(I)V"⟩
def wsX3_mark : List Cond := .code yX3_mark cX3_mark 2 none :: gw
theorem mc_X3_mark : Cond.code yX3_mark cX3_mark 2 none ∈ gw := gw_in 349 (by decide +kernel) (by decide +kernel)
abbrev cX3_isStepCount : ByteArray := prog_1_method_15_code
def yX3_isStepCount : MethodName := ⟨RX3, "isStepCount", "(I)Z"⟩
def wsX3_isStepCount : List Cond := .code yX3_isStepCount cX3_isStepCount 1 (some .boolean) :: gw
theorem mc_X3_isStepCount : Cond.code yX3_isStepCount cX3_isStepCount 1 (some .boolean) ∈ gw := gw_in 352 (by decide +kernel) (by decide +kernel)
abbrev cX1_doMarkSteps : ByteArray := prog_3_method_5_code
def yX1_doMarkSteps : MethodName := ⟨RX1, "doMarkSteps", "(I)V"⟩
def wsX1_doMarkSteps : List Cond := .code yX1_doMarkSteps cX1_doMarkSteps 4 none :: gw
theorem mc_X1_doMarkSteps : Cond.code yX1_doMarkSteps cX1_doMarkSteps 4 none ∈ gw := gw_in 357 (by decide +kernel) (by decide +kernel)
abbrev cX1_markStep : ByteArray := prog_3_method_10_code
def yX1_markStep : MethodName := ⟨RX1, "markStep", "()Z"⟩
def wsX1_markStep : List Cond := .code yX1_markStep cX1_markStep 2 (some .boolean) :: gw
theorem mc_X1_markStep : Cond.code yX1_markStep cX1_markStep 2 (some .boolean) ∈ gw := gw_in 361 (by decide +kernel) (by decide +kernel)
abbrev cX1_putMark : ByteArray := prog_3_method_13_code
def yX1_putMark : MethodName := ⟨RX1, "putMark", "(I)V"⟩
def wsX1_putMark : List Cond := .code yX1_putMark cX1_putMark 2 none :: gw
theorem mc_X1_putMark : Cond.code yX1_putMark cX1_putMark 2 none ∈ gw := gw_in 366 (by decide +kernel) (by decide +kernel)
abbrev cX1_keepOrForget : ByteArray := prog_3_method_14_code
def yX1_keepOrForget : MethodName := ⟨RX1, "keepOrForget", "(I)V"⟩
def wsX1_keepOrForget : List Cond := .code yX1_keepOrForget cX1_keepOrForget 2 none :: gw
theorem mc_X1_keepOrForget : Cond.code yX1_keepOrForget cX1_keepOrForget 2 none ∈ gw := gw_in 370 (by decide +kernel) (by decide +kernel)
abbrev cX1_markFieldsOf : ByteArray := prog_3_method_12_code
def yX1_markFieldsOf : MethodName := ⟨RX1, "markFieldsOf", "(I)V"⟩
def wsX1_markFieldsOf : List Cond := .code yX1_markFieldsOf cX1_markFieldsOf 4 none :: gw
theorem mc_X1_markFieldsOf : Cond.code yX1_markFieldsOf cX1_markFieldsOf 4 none ∈ gw := gw_in 374 (by decide +kernel) (by decide +kernel)
abbrev cX0_fieldCountOf : ByteArray := prog_2_method_12_code
def yX0_fieldCountOf : MethodName := ⟨RX0, "fieldCountOf", "(I)I"⟩
def wsX0_fieldCountOf : List Cond := .code yX0_fieldCountOf cX0_fieldCountOf 2 (some .int) :: gw
theorem mc_X0_fieldCountOf : Cond.code yX0_fieldCountOf cX0_fieldCountOf 2 (some .int) ∈ gw := gw_in 378 (by decide +kernel) (by decide +kernel)
abbrev cX0_countOfObjects : ByteArray := prog_2_method_13_code
def yX0_countOfObjects : MethodName := ⟨RX0, "countOfObjects", "()I"⟩
def wsX0_countOfObjects : List Cond := .code yX0_countOfObjects cX0_countOfObjects 1 (some .int) :: gw
theorem mc_X0_countOfObjects : Cond.code yX0_countOfObjects cX0_countOfObjects 1 (some .int) ∈ gw := gw_in 383 (by decide +kernel) (by decide +kernel)
abbrev cX1_hasMark : ByteArray := prog_3_method_8_code
def yX1_hasMark : MethodName := ⟨RX1, "hasMark", "(I)Z"⟩
def wsX1_hasMark : List Cond := .code yX1_hasMark cX1_hasMark 2 (some .boolean) :: gw
theorem mc_X1_hasMark : Cond.code yX1_hasMark cX1_hasMark 2 (some .boolean) ∈ gw := gw_in 387 (by decide +kernel) (by decide +kernel)
abbrev cL_preclean : ByteArray := method_10_code
def yL_preclean : MethodName := ⟨RL, "preclean", "(LPileMarker;I)I"⟩
def wsL_preclean : List Cond := .codeWith yL_preclean cL_preclean 3 (some .int) [(0, 5, 8, 13)] :: gw
theorem mc_L_preclean : Cond.codeWith yL_preclean cL_preclean 3 (some .int) [(0, 5, 8, 13)] ∈ gw := gw_in 390 (by decide +kernel) (by decide +kernel)
abbrev cX3_preclean : ByteArray := prog_1_method_9_code
def yX3_preclean : MethodName := ⟨RX3, "preclean", "(I)V"⟩
def wsX3_preclean : List Cond := .code yX3_preclean cX3_preclean 2 none :: gw
theorem mc_X3_preclean : Cond.code yX3_preclean cX3_preclean 2 none ∈ gw := gw_in 394 (by decide +kernel) (by decide +kernel)
abbrev cX1_doCleanSteps : ByteArray := prog_3_method_6_code
def yX1_doCleanSteps : MethodName := ⟨RX1, "doCleanSteps", "(I)V"⟩
def wsX1_doCleanSteps : List Cond := .code yX1_doCleanSteps cX1_doCleanSteps 4 none :: gw
theorem mc_X1_doCleanSteps : Cond.code yX1_doCleanSteps cX1_doCleanSteps 4 none ∈ gw := gw_in 398 (by decide +kernel) (by decide +kernel)
abbrev cX1_cleanStep : ByteArray := prog_3_method_11_code
def yX1_cleanStep : MethodName := ⟨RX1, "cleanStep", "()Z"⟩
def wsX1_cleanStep : List Cond := .code yX1_cleanStep cX1_cleanStep 2 (some .boolean) :: gw
theorem mc_X1_cleanStep : Cond.code yX1_cleanStep cX1_cleanStep 2 (some .boolean) ∈ gw := gw_in 402 (by decide +kernel) (by decide +kernel)
abbrev cL_finish : ByteArray := method_11_code
def yL_finish : MethodName := ⟨RL, "finish", "(LPileMarker;[J)I"⟩
def wsL_finish : List Cond := .codeWith yL_finish cL_finish 3 (some .int) [(0, 8, 11, 15)] :: gw
theorem mc_L_finish : Cond.codeWith yL_finish cL_finish 3 (some .int) [(0, 8, 11, 15)] ∈ gw := gw_in 405 (by decide +kernel) (by decide +kernel)
abbrev cX3_finish : ByteArray := prog_1_method_10_code
def yX3_finish : MethodName := ⟨RX3, "finish", "()I"⟩
def wsX3_finish : List Cond := .code yX3_finish cX3_finish 1 (some .int) :: gw
theorem mc_X3_finish : Cond.code yX3_finish cX3_finish 1 (some .int) ∈ gw := gw_in 409 (by decide +kernel) (by decide +kernel)
abbrev cX1_markAllThatIsLeft : ByteArray := prog_3_method_7_code
def yX1_markAllThatIsLeft : MethodName := ⟨RX1, "markAllThatIsLeft", "()V"⟩
def wsX1_markAllThatIsLeft : List Cond := .code yX1_markAllThatIsLeft cX1_markAllThatIsLeft 3 none :: gw
theorem mc_X1_markAllThatIsLeft : Cond.code yX1_markAllThatIsLeft cX1_markAllThatIsLeft 3 none ∈ gw := gw_in 414 (by decide +kernel) (by decide +kernel)
abbrev cX1_countOfMarks : ByteArray := prog_3_method_9_code
def yX1_countOfMarks : MethodName := ⟨RX1, "countOfMarks", "()I"⟩
def wsX1_countOfMarks : List Cond := .code yX1_countOfMarks cX1_countOfMarks 3 (some .int) :: gw
theorem mc_X1_countOfMarks : Cond.code yX1_countOfMarks cX1_countOfMarks 3 (some .int) ∈ gw := gw_in 419 (by decide +kernel) (by decide +kernel)
abbrev cL_marked : ByteArray := method_12_code
def yL_marked : MethodName := ⟨RL, "marked", "(LPileMarker;I[J)I"⟩
def wsL_marked : List Cond := .codeWith yL_marked cL_marked 4 (some .int) [(0, 16, 19, 21), (0, 16, 22, 15)] :: gw
theorem mc_L_marked : Cond.codeWith yL_marked cL_marked 4 (some .int) [(0, 16, 19, 21), (0, 16, 22, 15)] ∈ gw := gw_in 422 (by decide +kernel) (by decide +kernel)
abbrev cX3_marked : ByteArray := prog_1_method_11_code
def yX3_marked : MethodName := ⟨RX3, "marked", "(I)Z"⟩
def wsX3_marked : List Cond := .code yX3_marked cX3_marked 2 (some .boolean) :: gw
theorem mc_X3_marked : Cond.code yX3_marked cX3_marked 2 (some .boolean) ∈ gw := gw_in 426 (by decide +kernel) (by decide +kernel)
abbrev cX3_latestCycleStillHolds : ByteArray := prog_1_method_14_code
def yX3_latestCycleStillHolds : MethodName := ⟨RX3, "latestCycleStillHolds", "()Z"⟩
def wsX3_latestCycleStillHolds : List Cond := .code yX3_latestCycleStillHolds cX3_latestCycleStillHolds 1 (some .boolean) :: gw
theorem mc_X3_latestCycleStillHolds : Cond.code yX3_latestCycleStillHolds cX3_latestCycleStillHolds 1 (some .boolean) ∈ gw := gw_in 431 (by decide +kernel) (by decide +kernel)
abbrev cL_lost : ByteArray := method_13_code
def yL_lost : MethodName := ⟨RL, "lost", "(LPileMarker;[J)I"⟩
def wsL_lost : List Cond := .codeWith yL_lost cL_lost 3 (some .int) [(0, 8, 11, 15)] :: gw
theorem mc_L_lost : Cond.codeWith yL_lost cL_lost 3 (some .int) [(0, 8, 11, 15)] ∈ gw := gw_in 436 (by decide +kernel) (by decide +kernel)
abbrev cX3_lost : ByteArray := prog_1_method_12_code
def yX3_lost : MethodName := ⟨RX3, "lost", "()I"⟩
def wsX3_lost : List Cond := .code yX3_lost cX3_lost 3 (some .int) :: gw
theorem mc_X3_lost : Cond.code yX3_lost cX3_lost 3 (some .int) ∈ gw := gw_in 440 (by decide +kernel) (by decide +kernel)
abbrev cX2_search : ByteArray := prog_4_method_2_code
def yX2_search : MethodName := ⟨RX2, "search", "()V"⟩
def wsX2_search : List Cond := .code yX2_search cX2_search 2 none :: gw
theorem mc_X2_search : Cond.code yX2_search cX2_search 2 none ∈ gw := gw_in 445 (by decide +kernel) (by decide +kernel)
abbrev cX2_enter : ByteArray := prog_4_method_6_code
def yX2_enter : MethodName := ⟨RX2, "enter", "(I)V"⟩
def wsX2_enter : List Cond := .code yX2_enter cX2_enter 2 none :: gw
theorem mc_X2_enter : Cond.code yX2_enter cX2_enter 2 none ∈ gw := gw_in 450 (by decide +kernel) (by decide +kernel)
abbrev cX2_enterFieldsOf : ByteArray := prog_4_method_5_code
def yX2_enterFieldsOf : MethodName := ⟨RX2, "enterFieldsOf", "(I)V"⟩
def wsX2_enterFieldsOf : List Cond := .code yX2_enterFieldsOf cX2_enterFieldsOf 4 none :: gw
theorem mc_X2_enterFieldsOf : Cond.code yX2_enterFieldsOf cX2_enterFieldsOf 4 none ∈ gw := gw_in 455 (by decide +kernel) (by decide +kernel)
abbrev cX2_hasFound : ByteArray := prog_4_method_3_code
def yX2_hasFound : MethodName := ⟨RX2, "hasFound", "(I)Z"⟩
def wsX2_hasFound : List Cond := .code yX2_hasFound cX2_hasFound 2 (some .boolean) :: gw
theorem mc_X2_hasFound : Cond.code yX2_hasFound cX2_hasFound 2 (some .boolean) ∈ gw := gw_in 461 (by decide +kernel) (by decide +kernel)
abbrev cL_count : ByteArray := method_14_code
def yL_count : MethodName := ⟨RL, "count", "(LPileMarker;I[J)I"⟩
def wsL_count : List Cond := .codeWith yL_count cL_count 4 (some .int) [(0, 9, 12, 13)] :: gw
theorem mc_L_count : Cond.codeWith yL_count cL_count 4 (some .int) [(0, 9, 12, 13)] ∈ gw := gw_in 464 (by decide +kernel) (by decide +kernel)
abbrev cX3_count : ByteArray := prog_1_method_13_code
def yX3_count : MethodName := ⟨RX3, "count", "(I)I"⟩
def wsX3_count : List Cond := .code yX3_count cX3_count 2 (some .int) :: gw
theorem mc_X3_count : Cond.code yX3_count cX3_count 2 (some .int) ∈ gw := gw_in 468 (by decide +kernel) (by decide +kernel)
abbrev cX0_countOfFields : ByteArray := prog_2_method_14_code
def yX0_countOfFields : MethodName := ⟨RX0, "countOfFields", "()I"⟩
def wsX0_countOfFields : List Cond := .code yX0_countOfFields cX0_countOfFields 1 (some .int) :: gw
theorem mc_X0_countOfFields : Cond.code yX0_countOfFields cX0_countOfFields 1 (some .int) ∈ gw := gw_in 473 (by decide +kernel) (by decide +kernel)
abbrev cX2_countOfFound : ByteArray := prog_4_method_4_code
def yX2_countOfFound : MethodName := ⟨RX2, "countOfFound", "()I"⟩
def wsX2_countOfFound : List Cond := .code yX2_countOfFound cX2_countOfFound 1 (some .int) :: gw
theorem mc_X2_countOfFound : Cond.code yX2_countOfFound cX2_countOfFound 1 (some .int) ∈ gw := gw_in 477 (by decide +kernel) (by decide +kernel)
abbrev cX4_init : ByteArray := prog_6_method_1_code
def yX4_init : MethodName := ⟨RX4, "<init>", "()V"⟩
def wsX4_init : List Cond := .code yX4_init cX4_init 1 none :: gw
theorem mc_X4_init : Cond.code yX4_init cX4_init 1 none ∈ gw := gw_in 483 (by decide +kernel) (by decide +kernel)
abbrev cX4_thrown : ByteArray := prog_6_method_2_code
def yX4_thrown : MethodName := ⟨RX4, "thrown", "()I"⟩
def wsX4_thrown : List Cond := .code yX4_thrown cX4_thrown 1 (some .int) :: gw
theorem mc_X4_thrown : Cond.code yX4_thrown cX4_thrown 1 (some .int) ∈ gw := gw_in 534 (by decide +kernel) (by decide +kernel)
abbrev cX4_make : ByteArray := prog_6_method_7_code
def yX4_make : MethodName := ⟨RX4, "make", "(I)I"⟩
def wsX4_make : List Cond := .code yX4_make cX4_make 2 (some .int) :: gw
theorem mc_X4_make : Cond.code yX4_make cX4_make 2 (some .int) ∈ gw := gw_in 538 (by decide +kernel) (by decide +kernel)
abbrev cX4_goes : ByteArray := prog_6_method_3_code
def yX4_goes : MethodName := ⟨RX4, "goes", "(ZZ)Z"⟩
def wsX4_goes : List Cond := .code yX4_goes cX4_goes 3 (some .boolean) :: gw
theorem mc_X4_goes : Cond.code yX4_goes cX4_goes 3 (some .boolean) ∈ gw := gw_in 542 (by decide +kernel) (by decide +kernel)
abbrev cX4_changed : ByteArray := prog_6_method_6_code
def yX4_changed : MethodName := ⟨RX4, "changed", "()V"⟩
def wsX4_changed : List Cond := .code yX4_changed cX4_changed 1 none :: gw
theorem mc_X4_changed : Cond.code yX4_changed cX4_changed 1 none ∈ gw := gw_in 546 (by decide +kernel) (by decide +kernel)
abbrev cX4_set : ByteArray := prog_6_method_8_code
def yX4_set : MethodName := ⟨RX4, "set", "(III)I"⟩
def wsX4_set : List Cond := .code yX4_set cX4_set 5 (some .int) :: gw
theorem mc_X4_set : Cond.code yX4_set cX4_set 5 (some .int) ∈ gw := gw_in 550 (by decide +kernel) (by decide +kernel)
abbrev cX4_isField : ByteArray := prog_6_method_5_code
def yX4_isField : MethodName := ⟨RX4, "isField", "(II)Z"⟩
def wsX4_isField : List Cond := .code yX4_isField cX4_isField 3 (some .boolean) :: gw
theorem mc_X4_isField : Cond.code yX4_isField cX4_isField 3 (some .boolean) ∈ gw := gw_in 554 (by decide +kernel) (by decide +kernel)
abbrev cX4_isObject : ByteArray := prog_6_method_4_code
def yX4_isObject : MethodName := ⟨RX4, "isObject", "(I)Z"⟩
def wsX4_isObject : List Cond := .code yX4_isObject cX4_isObject 2 (some .boolean) :: gw
theorem mc_X4_isObject : Cond.code yX4_isObject cX4_isObject 2 (some .boolean) ∈ gw := gw_in 558 (by decide +kernel) (by decide +kernel)
abbrev cX4_get : ByteArray := prog_6_method_9_code
def yX4_get : MethodName := ⟨RX4, "get", "(II)I"⟩
def wsX4_get : List Cond := .code yX4_get cX4_get 3 (some .int) :: gw
theorem mc_X4_get : Cond.code yX4_get cX4_get 3 (some .int) ∈ gw := gw_in 562 (by decide +kernel) (by decide +kernel)
abbrev cX4_root : ByteArray := prog_6_method_10_code
def yX4_root : MethodName := ⟨RX4, "root", "(II)I"⟩
def wsX4_root : List Cond := .code yX4_root cX4_root 4 (some .int) :: gw
theorem mc_X4_root : Cond.code yX4_root cX4_root 4 (some .int) ∈ gw := gw_in 566 (by decide +kernel) (by decide +kernel)
abbrev cX4_pile : ByteArray := prog_6_method_11_code
def yX4_pile : MethodName := ⟨RX4, "pile", "(I)I"⟩
def wsX4_pile : List Cond := .code yX4_pile cX4_pile 3 (some .int) :: gw
theorem mc_X4_pile : Cond.code yX4_pile cX4_pile 3 (some .int) ∈ gw := gw_in 570 (by decide +kernel) (by decide +kernel)
abbrev cX4_begin : ByteArray := prog_6_method_12_code
def yX4_begin : MethodName := ⟨RX4, "begin", "()V"⟩
def wsX4_begin : List Cond := .code yX4_begin cX4_begin 1 none :: gw
theorem mc_X4_begin : Cond.code yX4_begin cX4_begin 1 none ∈ gw := gw_in 574 (by decide +kernel) (by decide +kernel)
abbrev cX4_mark : ByteArray := prog_6_method_13_code
def yX4_mark : MethodName := ⟨RX4, "mark", "(I)V"⟩
def wsX4_mark : List Cond := .code yX4_mark cX4_mark 2 none :: gw
theorem mc_X4_mark : Cond.code yX4_mark cX4_mark 2 none ∈ gw := gw_in 578 (by decide +kernel) (by decide +kernel)
abbrev cX4_preclean : ByteArray := prog_6_method_14_code
def yX4_preclean : MethodName := ⟨RX4, "preclean", "(I)V"⟩
def wsX4_preclean : List Cond := .code yX4_preclean cX4_preclean 2 none :: gw
theorem mc_X4_preclean : Cond.code yX4_preclean cX4_preclean 2 none ∈ gw := gw_in 582 (by decide +kernel) (by decide +kernel)
abbrev cX4_finish : ByteArray := prog_6_method_16_code
def yX4_finish : MethodName := ⟨RX4, "finish", "()I"⟩
def wsX4_finish : List Cond := .code yX4_finish cX4_finish 3 (some .int) :: gw
theorem mc_X4_finish : Cond.code yX4_finish cX4_finish 3 (some .int) ∈ gw := gw_in 586 (by decide +kernel) (by decide +kernel)
abbrev cX4_reach : ByteArray := prog_6_method_15_code
def yX4_reach : MethodName := ⟨RX4, "reach", "()I"⟩
def wsX4_reach : List Cond := .code yX4_reach cX4_reach 6 (some .int) :: gw
theorem mc_X4_reach : Cond.code yX4_reach cX4_reach 6 (some .int) ∈ gw := gw_in 590 (by decide +kernel) (by decide +kernel)
abbrev cX4_marked : ByteArray := prog_6_method_17_code
def yX4_marked : MethodName := ⟨RX4, "marked", "(I)Z"⟩
def wsX4_marked : List Cond := .code yX4_marked cX4_marked 2 (some .boolean) :: gw
theorem mc_X4_marked : Cond.code yX4_marked cX4_marked 2 (some .boolean) ∈ gw := gw_in 594 (by decide +kernel) (by decide +kernel)
abbrev cX4_lost : ByteArray := prog_6_method_18_code
def yX4_lost : MethodName := ⟨RX4, "lost", "()I"⟩
def wsX4_lost : List Cond := .code yX4_lost cX4_lost 2 (some .int) :: gw
theorem mc_X4_lost : Cond.code yX4_lost cX4_lost 2 (some .int) ∈ gw := gw_in 598 (by decide +kernel) (by decide +kernel)
abbrev cX4_count : ByteArray := prog_6_method_19_code
def yX4_count : MethodName := ⟨RX4, "count", "(I)I"⟩
def wsX4_count : List Cond := .code yX4_count cX4_count 2 (some .int) :: gw
theorem mc_X4_count : Cond.code yX4_count cX4_count 2 (some .int) ∈ gw := gw_in 602 (by decide +kernel) (by decide +kernel)
abbrev cL_law : ByteArray := code
def yL_law : MethodName := ⟨RL, "law", "([I)Z"⟩
end
section
/-! the words, each by its place in the tables -/
theorem mn_L : Cond.initialized RL ∈ gw := gw_in 14 (by decide +kernel) (by decide +kernel)
theorem mn_X3 : Cond.initialized RX3 ∈ gw := gw_in 15 (by decide +kernel) (by decide +kernel)
theorem mn_X0 : Cond.initialized RX0 ∈ gw := gw_in 16 (by decide +kernel) (by decide +kernel)
theorem mn_X1 : Cond.initialized RX1 ∈ gw := gw_in 17 (by decide +kernel) (by decide +kernel)
theorem mn_X2 : Cond.initialized RX2 ∈ gw := gw_in 18 (by decide +kernel) (by decide +kernel)
theorem mn_X4 : Cond.initialized RX4 ∈ gw := gw_in 19 (by decide +kernel) (by decide +kernel)
theorem mn_Throwable : Cond.initialized "java/lang/Throwable" ∈ gw := gw_in 20 (by decide +kernel) (by decide +kernel)
theorem mn_Exception : Cond.initialized "java/lang/Exception" ∈ gw := gw_in 21 (by decide +kernel) (by decide +kernel)
theorem mn_RuntimeException : Cond.initialized "java/lang/RuntimeException" ∈ gw := gw_in 22 (by decide +kernel) (by decide +kernel)
theorem mn_IllegalArgumentException : Cond.initialized "java/lang/IllegalArgumentException" ∈ gw := gw_in 23 (by decide +kernel) (by decide +kernel)
theorem mn_IllegalStateException : Cond.initialized "java/lang/IllegalStateException" ∈ gw := gw_in 24 (by decide +kernel) (by decide +kernel)
theorem mn_NoSuchElementException : Cond.initialized "java/util/NoSuchElementException" ∈ gw := gw_in 25 (by decide +kernel) (by decide +kernel)
theorem mk_L_8 : Cond.classLink RL 8 RX3 ∈ gw := gw_in 26 (by decide +kernel) (by decide +kernel)
theorem mz_X3 : Cond.instantiable RX3 8 ∈ gw := gw_in 27 (by decide +kernel) (by decide +kernel)
theorem ml_L_57 : Cond.methodLink RL 57 yX3_init ∈ gw := gw_in 28 (by decide +kernel) (by decide +kernel)
theorem mi_X3_init : Cond.instanceMethod yX3_init ∈ gw := gw_in 29 (by decide +kernel) (by decide +kernel)
theorem ml_X3_1 : Cond.methodLink RX3 1 objectInit ∈ gw := gw_in 31 (by decide +kernel) (by decide +kernel)
theorem mi_obj : Cond.instanceMethod objectInit ∈ gw := gw_in 32 (by decide +kernel) (by decide +kernel)
theorem mc_obj : Cond.code objectInit ⟨#[0xb1]⟩ 1 none ∈ gw := gw_in 33 (by decide +kernel) (by decide +kernel)
theorem mk_X3_7 : Cond.classLink RX3 7 RX0 ∈ gw := gw_in 34 (by decide +kernel) (by decide +kernel)
theorem mz_X0 : Cond.instantiable RX0 5 ∈ gw := gw_in 35 (by decide +kernel) (by decide +kernel)
theorem ml_X3_9 : Cond.methodLink RX3 9 yX0_init ∈ gw := gw_in 36 (by decide +kernel) (by decide +kernel)
theorem mi_X0_init : Cond.instanceMethod yX0_init ∈ gw := gw_in 37 (by decide +kernel) (by decide +kernel)
theorem ml_X0_3 : Cond.methodLink RX0 3 objectInit ∈ gw := gw_in 39 (by decide +kernel) (by decide +kernel)
theorem mf_X0_9 : Cond.fieldLink RX0 9 "PileMarker$Heap" "fieldCounts" "[I" ∈ gw := gw_in 40 (by decide +kernel) (by decide +kernel)
theorem mf_X0_15 : Cond.fieldLink RX0 15 "PileMarker$Heap" "fields" "[I" ∈ gw := gw_in 41 (by decide +kernel) (by decide +kernel)
theorem mf_X0_18 : Cond.fieldLink RX0 18 "PileMarker$Heap" "roots" "[I" ∈ gw := gw_in 42 (by decide +kernel) (by decide +kernel)
theorem mf_X0_21 : Cond.fieldLink RX0 21 "PileMarker$Heap" "objects" "I" ∈ gw := gw_in 43 (by decide +kernel) (by decide +kernel)
theorem mf_X0_25 : Cond.fieldLink RX0 25 "PileMarker$Heap" "fieldsOfAll" "I" ∈ gw := gw_in 44 (by decide +kernel) (by decide +kernel)
theorem ma_int : Cond.arrayClass .int ∈ gw := gw_in 56 (by decide +kernel) (by decide +kernel)
theorem mk_X3_16 : Cond.classLink RX3 16 RX1 ∈ gw := gw_in 57 (by decide +kernel) (by decide +kernel)
theorem mz_X1 : Cond.instantiable RX1 9 ∈ gw := gw_in 58 (by decide +kernel) (by decide +kernel)
theorem ml_X3_18 : Cond.methodLink RX3 18 yX1_init ∈ gw := gw_in 59 (by decide +kernel) (by decide +kernel)
theorem mi_X1_init : Cond.instanceMethod yX1_init ∈ gw := gw_in 60 (by decide +kernel) (by decide +kernel)
theorem ml_X1_3 : Cond.methodLink RX1 3 objectInit ∈ gw := gw_in 62 (by decide +kernel) (by decide +kernel)
theorem mf_X1_9 : Cond.fieldLink RX1 9 "PileMarker$Marker" "heap" "LPileMarker$Heap;" ∈ gw := gw_in 63 (by decide +kernel) (by decide +kernel)
theorem mf_X1_15 : Cond.fieldLink RX1 15 "PileMarker$Marker" "marks" "[Z" ∈ gw := gw_in 64 (by decide +kernel) (by decide +kernel)
theorem mf_X1_19 : Cond.fieldLink RX1 19 "PileMarker$Marker" "changed" "[Z" ∈ gw := gw_in 65 (by decide +kernel) (by decide +kernel)
theorem mf_X1_22 : Cond.fieldLink RX1 22 "PileMarker$Marker" "kept" "[I" ∈ gw := gw_in 66 (by decide +kernel) (by decide +kernel)
theorem mf_X1_26 : Cond.fieldLink RX1 26 "PileMarker$Marker" "limit" "I" ∈ gw := gw_in 67 (by decide +kernel) (by decide +kernel)
theorem mf_X1_30 : Cond.fieldLink RX1 30 "PileMarker$Marker" "keptCount" "I" ∈ gw := gw_in 68 (by decide +kernel) (by decide +kernel)
theorem mf_X1_33 : Cond.fieldLink RX1 33 "PileMarker$Marker" "nextRoot" "I" ∈ gw := gw_in 69 (by decide +kernel) (by decide +kernel)
theorem mf_X1_36 : Cond.fieldLink RX1 36 "PileMarker$Marker" "nextForgotten" "I" ∈ gw := gw_in 70 (by decide +kernel) (by decide +kernel)
theorem mf_X1_39 : Cond.fieldLink RX1 39 "PileMarker$Marker" "nextChanged" "I" ∈ gw := gw_in 71 (by decide +kernel) (by decide +kernel)
theorem ma_boolean : Cond.arrayClass .boolean ∈ gw := gw_in 91 (by decide +kernel) (by decide +kernel)
theorem mk_X3_25 : Cond.classLink RX3 25 RX2 ∈ gw := gw_in 92 (by decide +kernel) (by decide +kernel)
theorem mz_X2 : Cond.instantiable RX2 4 ∈ gw := gw_in 93 (by decide +kernel) (by decide +kernel)
theorem ml_X3_27 : Cond.methodLink RX3 27 yX2_init ∈ gw := gw_in 94 (by decide +kernel) (by decide +kernel)
theorem mi_X2_init : Cond.instanceMethod yX2_init ∈ gw := gw_in 95 (by decide +kernel) (by decide +kernel)
theorem ml_X2_3 : Cond.methodLink RX2 3 objectInit ∈ gw := gw_in 97 (by decide +kernel) (by decide +kernel)
theorem mf_X2_9 : Cond.fieldLink RX2 9 "PileMarker$Reach" "heap" "LPileMarker$Heap;" ∈ gw := gw_in 98 (by decide +kernel) (by decide +kernel)
theorem mf_X2_15 : Cond.fieldLink RX2 15 "PileMarker$Reach" "found" "[Z" ∈ gw := gw_in 99 (by decide +kernel) (by decide +kernel)
theorem mf_X2_19 : Cond.fieldLink RX2 19 "PileMarker$Reach" "order" "[I" ∈ gw := gw_in 100 (by decide +kernel) (by decide +kernel)
theorem mf_X2_23 : Cond.fieldLink RX2 23 "PileMarker$Reach" "foundCount" "I" ∈ gw := gw_in 101 (by decide +kernel) (by decide +kernel)
theorem mf_X3_10 : Cond.fieldLink RX3 10 "PileMarker" "heap" "LPileMarker$Heap;" ∈ gw := gw_in 111 (by decide +kernel) (by decide +kernel)
theorem mf_X3_21 : Cond.fieldLink RX3 21 "PileMarker" "marker" "LPileMarker$Marker;" ∈ gw := gw_in 112 (by decide +kernel) (by decide +kernel)
theorem mf_X3_28 : Cond.fieldLink RX3 28 "PileMarker" "reach" "LPileMarker$Reach;" ∈ gw := gw_in 113 (by decide +kernel) (by decide +kernel)
theorem mf_X3_32 : Cond.fieldLink RX3 32 "PileMarker" "inCycle" "Z" ∈ gw := gw_in 114 (by decide +kernel) (by decide +kernel)
theorem mf_X3_36 : Cond.fieldLink RX3 36 "PileMarker" "touched" "Z" ∈ gw := gw_in 115 (by decide +kernel) (by decide +kernel)
theorem mf_X3_39 : Cond.fieldLink RX3 39 "PileMarker" "latestWasQuiet" "Z" ∈ gw := gw_in 116 (by decide +kernel) (by decide +kernel)
theorem mf_X3_42 : Cond.fieldLink RX3 42 "PileMarker" "finishedCycles" "I" ∈ gw := gw_in 117 (by decide +kernel) (by decide +kernel)
theorem mf_X3_46 : Cond.fieldLink RX3 46 "PileMarker" "quietCycles" "I" ∈ gw := gw_in 118 (by decide +kernel) (by decide +kernel)
theorem ml_L_61 : Cond.methodLink RL 61 yL_make ∈ gw := gw_in 136 (by decide +kernel) (by decide +kernel)
theorem mt_L_make : Cond.static yL_make ∈ gw := gw_in 137 (by decide +kernel) (by decide +kernel)
theorem mk_L_13 : Cond.classLink RL 13 "java/lang/IllegalArgumentException" ∈ gw := gw_in 139 (by decide +kernel) (by decide +kernel)
theorem mk_L_15 : Cond.classLink RL 15 "java/lang/IllegalStateException" ∈ gw := gw_in 140 (by decide +kernel) (by decide +kernel)
theorem ml_L_7 : Cond.methodLink RL 7 yX3_make ∈ gw := gw_in 141 (by decide +kernel) (by decide +kernel)
theorem mi_X3_make : Cond.instanceMethod yX3_make ∈ gw := gw_in 142 (by decide +kernel) (by decide +kernel)
theorem ms_X3_make : Cond.selects RX3 yX3_make yX3_make ∈ gw := gw_in 143 (by decide +kernel) (by decide +kernel)
theorem mk_X3_49 : Cond.classLink RX3 49 "java/lang/IllegalArgumentException" ∈ gw := gw_in 145 (by decide +kernel) (by decide +kernel)
theorem ml_X3_56 : Cond.methodLink RX3 56 yX0_isFull ∈ gw := gw_in 213 (by decide +kernel) (by decide +kernel)
theorem mi_X0_isFull : Cond.instanceMethod yX0_isFull ∈ gw := gw_in 214 (by decide +kernel) (by decide +kernel)
theorem ms_X0_isFull : Cond.selects RX0 yX0_isFull yX0_isFull ∈ gw := gw_in 215 (by decide +kernel) (by decide +kernel)
theorem mk_X3_60 : Cond.classLink RX3 60 "java/lang/IllegalStateException" ∈ gw := gw_in 217 (by decide +kernel) (by decide +kernel)
theorem ml_X3_65 : Cond.methodLink RX3 65 yX0_addObject ∈ gw := gw_in 233 (by decide +kernel) (by decide +kernel)
theorem mi_X0_addObject : Cond.instanceMethod yX0_addObject ∈ gw := gw_in 234 (by decide +kernel) (by decide +kernel)
theorem ms_X0_addObject : Cond.selects RX0 yX0_addObject yX0_addObject ∈ gw := gw_in 235 (by decide +kernel) (by decide +kernel)
theorem ml_X0_32 : Cond.methodLink RX0 32 yX0_isFull ∈ gw := gw_in 237 (by decide +kernel) (by decide +kernel)
theorem ml_L_70 : Cond.methodLink RL 70 yL_set ∈ gw := gw_in 238 (by decide +kernel) (by decide +kernel)
theorem mt_L_set : Cond.static yL_set ∈ gw := gw_in 239 (by decide +kernel) (by decide +kernel)
theorem mk_L_21 : Cond.classLink RL 21 "java/util/NoSuchElementException" ∈ gw := gw_in 241 (by decide +kernel) (by decide +kernel)
theorem ml_L_17 : Cond.methodLink RL 17 yX3_set ∈ gw := gw_in 242 (by decide +kernel) (by decide +kernel)
theorem mi_X3_set : Cond.instanceMethod yX3_set ∈ gw := gw_in 243 (by decide +kernel) (by decide +kernel)
theorem ms_X3_set : Cond.selects RX3 yX3_set yX3_set ∈ gw := gw_in 244 (by decide +kernel) (by decide +kernel)
theorem ml_X3_69 : Cond.methodLink RX3 69 yX0_hasField ∈ gw := gw_in 246 (by decide +kernel) (by decide +kernel)
theorem mi_X0_hasField : Cond.instanceMethod yX0_hasField ∈ gw := gw_in 247 (by decide +kernel) (by decide +kernel)
theorem ms_X0_hasField : Cond.selects RX0 yX0_hasField yX0_hasField ∈ gw := gw_in 248 (by decide +kernel) (by decide +kernel)
theorem ml_X0_28 : Cond.methodLink RX0 28 yX0_has ∈ gw := gw_in 250 (by decide +kernel) (by decide +kernel)
theorem mi_X0_has : Cond.instanceMethod yX0_has ∈ gw := gw_in 251 (by decide +kernel) (by decide +kernel)
theorem ms_X0_has : Cond.selects RX0 yX0_has yX0_has ∈ gw := gw_in 252 (by decide +kernel) (by decide +kernel)
theorem mk_X3_73 : Cond.classLink RX3 73 "java/util/NoSuchElementException" ∈ gw := gw_in 254 (by decide +kernel) (by decide +kernel)
theorem ml_X3_78 : Cond.methodLink RX3 78 yX0_hasOrIsNone ∈ gw := gw_in 270 (by decide +kernel) (by decide +kernel)
theorem mi_X0_hasOrIsNone : Cond.instanceMethod yX0_hasOrIsNone ∈ gw := gw_in 271 (by decide +kernel) (by decide +kernel)
theorem ms_X0_hasOrIsNone : Cond.selects RX0 yX0_hasOrIsNone yX0_hasOrIsNone ∈ gw := gw_in 272 (by decide +kernel) (by decide +kernel)
theorem ml_X3_84 : Cond.methodLink RX3 84 yX1_noteChange ∈ gw := gw_in 275 (by decide +kernel) (by decide +kernel)
theorem mi_X1_noteChange : Cond.instanceMethod yX1_noteChange ∈ gw := gw_in 276 (by decide +kernel) (by decide +kernel)
theorem ms_X1_noteChange : Cond.selects RX1 yX1_noteChange yX1_noteChange ∈ gw := gw_in 277 (by decide +kernel) (by decide +kernel)
theorem ml_X1_42 : Cond.methodLink RX1 42 yX0_has ∈ gw := gw_in 279 (by decide +kernel) (by decide +kernel)
theorem ml_X3_88 : Cond.methodLink RX3 88 yX0_putField ∈ gw := gw_in 280 (by decide +kernel) (by decide +kernel)
theorem mi_X0_putField : Cond.instanceMethod yX0_putField ∈ gw := gw_in 281 (by decide +kernel) (by decide +kernel)
theorem ms_X0_putField : Cond.selects RX0 yX0_putField yX0_putField ∈ gw := gw_in 282 (by decide +kernel) (by decide +kernel)
theorem ml_X0_40 : Cond.methodLink RX0 40 yX0_fieldOf ∈ gw := gw_in 284 (by decide +kernel) (by decide +kernel)
theorem mi_X0_fieldOf : Cond.instanceMethod yX0_fieldOf ∈ gw := gw_in 285 (by decide +kernel) (by decide +kernel)
theorem ms_X0_fieldOf : Cond.selects RX0 yX0_fieldOf yX0_fieldOf ∈ gw := gw_in 286 (by decide +kernel) (by decide +kernel)
theorem ml_X0_36 : Cond.methodLink RX0 36 yX0_hasField ∈ gw := gw_in 288 (by decide +kernel) (by decide +kernel)
theorem ml_L_74 : Cond.methodLink RL 74 yL_get ∈ gw := gw_in 289 (by decide +kernel) (by decide +kernel)
theorem mt_L_get : Cond.static yL_get ∈ gw := gw_in 290 (by decide +kernel) (by decide +kernel)
theorem ml_L_23 : Cond.methodLink RL 23 yX3_get ∈ gw := gw_in 292 (by decide +kernel) (by decide +kernel)
theorem mi_X3_get : Cond.instanceMethod yX3_get ∈ gw := gw_in 293 (by decide +kernel) (by decide +kernel)
theorem ms_X3_get : Cond.selects RX3 yX3_get yX3_get ∈ gw := gw_in 294 (by decide +kernel) (by decide +kernel)
theorem ml_X3_92 : Cond.methodLink RX3 92 yX0_fieldOf ∈ gw := gw_in 296 (by decide +kernel) (by decide +kernel)
theorem ml_L_78 : Cond.methodLink RL 78 yL_root ∈ gw := gw_in 297 (by decide +kernel) (by decide +kernel)
theorem mt_L_root : Cond.static yL_root ∈ gw := gw_in 298 (by decide +kernel) (by decide +kernel)
theorem ml_L_27 : Cond.methodLink RL 27 yX3_root ∈ gw := gw_in 300 (by decide +kernel) (by decide +kernel)
theorem mi_X3_root : Cond.instanceMethod yX3_root ∈ gw := gw_in 301 (by decide +kernel) (by decide +kernel)
theorem ms_X3_root : Cond.selects RX3 yX3_root yX3_root ∈ gw := gw_in 302 (by decide +kernel) (by decide +kernel)
theorem ml_X3_96 : Cond.methodLink RX3 96 yX0_hasRoot ∈ gw := gw_in 304 (by decide +kernel) (by decide +kernel)
theorem mi_X0_hasRoot : Cond.instanceMethod yX0_hasRoot ∈ gw := gw_in 305 (by decide +kernel) (by decide +kernel)
theorem ms_X0_hasRoot : Cond.selects RX0 yX0_hasRoot yX0_hasRoot ∈ gw := gw_in 306 (by decide +kernel) (by decide +kernel)
theorem ml_X3_103 : Cond.methodLink RX3 103 yX0_putRoot ∈ gw := gw_in 310 (by decide +kernel) (by decide +kernel)
theorem mi_X0_putRoot : Cond.instanceMethod yX0_putRoot ∈ gw := gw_in 311 (by decide +kernel) (by decide +kernel)
theorem ms_X0_putRoot : Cond.selects RX0 yX0_putRoot yX0_putRoot ∈ gw := gw_in 312 (by decide +kernel) (by decide +kernel)
theorem ml_X0_47 : Cond.methodLink RX0 47 yX0_rootAt ∈ gw := gw_in 314 (by decide +kernel) (by decide +kernel)
theorem mi_X0_rootAt : Cond.instanceMethod yX0_rootAt ∈ gw := gw_in 315 (by decide +kernel) (by decide +kernel)
theorem ms_X0_rootAt : Cond.selects RX0 yX0_rootAt yX0_rootAt ∈ gw := gw_in 316 (by decide +kernel) (by decide +kernel)
theorem ml_X0_44 : Cond.methodLink RX0 44 yX0_hasRoot ∈ gw := gw_in 318 (by decide +kernel) (by decide +kernel)
theorem ml_L_81 : Cond.methodLink RL 81 yL_pile ∈ gw := gw_in 319 (by decide +kernel) (by decide +kernel)
theorem mt_L_pile : Cond.static yL_pile ∈ gw := gw_in 320 (by decide +kernel) (by decide +kernel)
theorem ml_L_30 : Cond.methodLink RL 30 yX3_pile ∈ gw := gw_in 322 (by decide +kernel) (by decide +kernel)
theorem mi_X3_pile : Cond.instanceMethod yX3_pile ∈ gw := gw_in 323 (by decide +kernel) (by decide +kernel)
theorem ms_X3_pile : Cond.selects RX3 yX3_pile yX3_pile ∈ gw := gw_in 324 (by decide +kernel) (by decide +kernel)
theorem ml_X3_110 : Cond.methodLink RX3 110 yX1_changeLimit ∈ gw := gw_in 328 (by decide +kernel) (by decide +kernel)
theorem mi_X1_changeLimit : Cond.instanceMethod yX1_changeLimit ∈ gw := gw_in 329 (by decide +kernel) (by decide +kernel)
theorem ms_X1_changeLimit : Cond.selects RX1 yX1_changeLimit yX1_changeLimit ∈ gw := gw_in 330 (by decide +kernel) (by decide +kernel)
theorem ml_L_84 : Cond.methodLink RL 84 yL_begin ∈ gw := gw_in 332 (by decide +kernel) (by decide +kernel)
theorem mt_L_begin : Cond.static yL_begin ∈ gw := gw_in 333 (by decide +kernel) (by decide +kernel)
theorem ml_L_33 : Cond.methodLink RL 33 yX3_begin ∈ gw := gw_in 335 (by decide +kernel) (by decide +kernel)
theorem mi_X3_begin : Cond.instanceMethod yX3_begin ∈ gw := gw_in 336 (by decide +kernel) (by decide +kernel)
theorem ms_X3_begin : Cond.selects RX3 yX3_begin yX3_begin ∈ gw := gw_in 337 (by decide +kernel) (by decide +kernel)
theorem ml_X3_113 : Cond.methodLink RX3 113 yX1_forgetAll ∈ gw := gw_in 339 (by decide +kernel) (by decide +kernel)
theorem mi_X1_forgetAll : Cond.instanceMethod yX1_forgetAll ∈ gw := gw_in 340 (by decide +kernel) (by decide +kernel)
theorem ms_X1_forgetAll : Cond.selects RX1 yX1_forgetAll yX1_forgetAll ∈ gw := gw_in 341 (by decide +kernel) (by decide +kernel)
theorem ml_L_88 : Cond.methodLink RL 88 yL_mark ∈ gw := gw_in 343 (by decide +kernel) (by decide +kernel)
theorem mt_L_mark : Cond.static yL_mark ∈ gw := gw_in 344 (by decide +kernel) (by decide +kernel)
theorem ml_L_36 : Cond.methodLink RL 36 yX3_mark ∈ gw := gw_in 346 (by decide +kernel) (by decide +kernel)
theorem mi_X3_mark : Cond.instanceMethod yX3_mark ∈ gw := gw_in 347 (by decide +kernel) (by decide +kernel)
theorem ms_X3_mark : Cond.selects RX3 yX3_mark yX3_mark ∈ gw := gw_in 348 (by decide +kernel) (by decide +kernel)
theorem ml_X3_116 : Cond.methodLink RX3 116 yX3_isStepCount ∈ gw := gw_in 350 (by decide +kernel) (by decide +kernel)
theorem mt_X3_isStepCount : Cond.static yX3_isStepCount ∈ gw := gw_in 351 (by decide +kernel) (by decide +kernel)
theorem ml_X3_121 : Cond.methodLink RX3 121 yX1_doMarkSteps ∈ gw := gw_in 354 (by decide +kernel) (by decide +kernel)
theorem mi_X1_doMarkSteps : Cond.instanceMethod yX1_doMarkSteps ∈ gw := gw_in 355 (by decide +kernel) (by decide +kernel)
theorem ms_X1_doMarkSteps : Cond.selects RX1 yX1_doMarkSteps yX1_doMarkSteps ∈ gw := gw_in 356 (by decide +kernel) (by decide +kernel)
theorem ml_X1_48 : Cond.methodLink RX1 48 yX1_markStep ∈ gw := gw_in 358 (by decide +kernel) (by decide +kernel)
theorem mi_X1_markStep : Cond.instanceMethod yX1_markStep ∈ gw := gw_in 360 (by decide +kernel) (by decide +kernel)
theorem ml_X1_56 : Cond.methodLink RX1 56 yX0_rootAt ∈ gw := gw_in 362 (by decide +kernel) (by decide +kernel)
theorem ml_X1_60 : Cond.methodLink RX1 60 yX1_putMark ∈ gw := gw_in 363 (by decide +kernel) (by decide +kernel)
theorem mi_X1_putMark : Cond.instanceMethod yX1_putMark ∈ gw := gw_in 365 (by decide +kernel) (by decide +kernel)
theorem ml_X1_81 : Cond.methodLink RX1 81 yX1_keepOrForget ∈ gw := gw_in 367 (by decide +kernel) (by decide +kernel)
theorem mi_X1_keepOrForget : Cond.instanceMethod yX1_keepOrForget ∈ gw := gw_in 369 (by decide +kernel) (by decide +kernel)
theorem ml_X1_64 : Cond.methodLink RX1 64 yX1_markFieldsOf ∈ gw := gw_in 371 (by decide +kernel) (by decide +kernel)
theorem mi_X1_markFieldsOf : Cond.instanceMethod yX1_markFieldsOf ∈ gw := gw_in 373 (by decide +kernel) (by decide +kernel)
theorem ml_X1_74 : Cond.methodLink RX1 74 yX0_fieldCountOf ∈ gw := gw_in 375 (by decide +kernel) (by decide +kernel)
theorem mi_X0_fieldCountOf : Cond.instanceMethod yX0_fieldCountOf ∈ gw := gw_in 376 (by decide +kernel) (by decide +kernel)
theorem ms_X0_fieldCountOf : Cond.selects RX0 yX0_fieldCountOf yX0_fieldCountOf ∈ gw := gw_in 377 (by decide +kernel) (by decide +kernel)
theorem ml_X1_77 : Cond.methodLink RX1 77 yX0_fieldOf ∈ gw := gw_in 379 (by decide +kernel) (by decide +kernel)
theorem ml_X1_67 : Cond.methodLink RX1 67 yX0_countOfObjects ∈ gw := gw_in 380 (by decide +kernel) (by decide +kernel)
theorem mi_X0_countOfObjects : Cond.instanceMethod yX0_countOfObjects ∈ gw := gw_in 381 (by decide +kernel) (by decide +kernel)
theorem ms_X0_countOfObjects : Cond.selects RX0 yX0_countOfObjects yX0_countOfObjects ∈ gw := gw_in 382 (by decide +kernel) (by decide +kernel)
theorem ml_X1_71 : Cond.methodLink RX1 71 yX1_hasMark ∈ gw := gw_in 384 (by decide +kernel) (by decide +kernel)
theorem mi_X1_hasMark : Cond.instanceMethod yX1_hasMark ∈ gw := gw_in 385 (by decide +kernel) (by decide +kernel)
theorem ms_X1_hasMark : Cond.selects RX1 yX1_hasMark yX1_hasMark ∈ gw := gw_in 386 (by decide +kernel) (by decide +kernel)
theorem ml_L_92 : Cond.methodLink RL 92 yL_preclean ∈ gw := gw_in 388 (by decide +kernel) (by decide +kernel)
theorem mt_L_preclean : Cond.static yL_preclean ∈ gw := gw_in 389 (by decide +kernel) (by decide +kernel)
theorem ml_L_40 : Cond.methodLink RL 40 yX3_preclean ∈ gw := gw_in 391 (by decide +kernel) (by decide +kernel)
theorem mi_X3_preclean : Cond.instanceMethod yX3_preclean ∈ gw := gw_in 392 (by decide +kernel) (by decide +kernel)
theorem ms_X3_preclean : Cond.selects RX3 yX3_preclean yX3_preclean ∈ gw := gw_in 393 (by decide +kernel) (by decide +kernel)
theorem ml_X3_124 : Cond.methodLink RX3 124 yX1_doCleanSteps ∈ gw := gw_in 395 (by decide +kernel) (by decide +kernel)
theorem mi_X1_doCleanSteps : Cond.instanceMethod yX1_doCleanSteps ∈ gw := gw_in 396 (by decide +kernel) (by decide +kernel)
theorem ms_X1_doCleanSteps : Cond.selects RX1 yX1_doCleanSteps yX1_doCleanSteps ∈ gw := gw_in 397 (by decide +kernel) (by decide +kernel)
theorem ml_X1_52 : Cond.methodLink RX1 52 yX1_cleanStep ∈ gw := gw_in 399 (by decide +kernel) (by decide +kernel)
theorem mi_X1_cleanStep : Cond.instanceMethod yX1_cleanStep ∈ gw := gw_in 401 (by decide +kernel) (by decide +kernel)
theorem ml_L_95 : Cond.methodLink RL 95 yL_finish ∈ gw := gw_in 403 (by decide +kernel) (by decide +kernel)
theorem mt_L_finish : Cond.static yL_finish ∈ gw := gw_in 404 (by decide +kernel) (by decide +kernel)
theorem ml_L_43 : Cond.methodLink RL 43 yX3_finish ∈ gw := gw_in 406 (by decide +kernel) (by decide +kernel)
theorem mi_X3_finish : Cond.instanceMethod yX3_finish ∈ gw := gw_in 407 (by decide +kernel) (by decide +kernel)
theorem ms_X3_finish : Cond.selects RX3 yX3_finish yX3_finish ∈ gw := gw_in 408 (by decide +kernel) (by decide +kernel)
theorem ml_X3_129 : Cond.methodLink RX3 129 yX1_markAllThatIsLeft ∈ gw := gw_in 411 (by decide +kernel) (by decide +kernel)
theorem mi_X1_markAllThatIsLeft : Cond.instanceMethod yX1_markAllThatIsLeft ∈ gw := gw_in 412 (by decide +kernel) (by decide +kernel)
theorem ms_X1_markAllThatIsLeft : Cond.selects RX1 yX1_markAllThatIsLeft yX1_markAllThatIsLeft ∈ gw := gw_in 413 (by decide +kernel) (by decide +kernel)
theorem mo_X1_55 : Cond.constant RX1 55 (1000000) ∈ gw := gw_in 415 (by decide +kernel) (by decide +kernel)
theorem ml_X3_132 : Cond.methodLink RX3 132 yX1_countOfMarks ∈ gw := gw_in 416 (by decide +kernel) (by decide +kernel)
theorem mi_X1_countOfMarks : Cond.instanceMethod yX1_countOfMarks ∈ gw := gw_in 417 (by decide +kernel) (by decide +kernel)
theorem ms_X1_countOfMarks : Cond.selects RX1 yX1_countOfMarks yX1_countOfMarks ∈ gw := gw_in 418 (by decide +kernel) (by decide +kernel)
theorem ml_L_99 : Cond.methodLink RL 99 yL_marked ∈ gw := gw_in 420 (by decide +kernel) (by decide +kernel)
theorem mt_L_marked : Cond.static yL_marked ∈ gw := gw_in 421 (by decide +kernel) (by decide +kernel)
theorem ml_L_47 : Cond.methodLink RL 47 yX3_marked ∈ gw := gw_in 423 (by decide +kernel) (by decide +kernel)
theorem mi_X3_marked : Cond.instanceMethod yX3_marked ∈ gw := gw_in 424 (by decide +kernel) (by decide +kernel)
theorem ms_X3_marked : Cond.selects RX3 yX3_marked yX3_marked ∈ gw := gw_in 425 (by decide +kernel) (by decide +kernel)
theorem ml_X3_136 : Cond.methodLink RX3 136 yX0_has ∈ gw := gw_in 427 (by decide +kernel) (by decide +kernel)
theorem ml_X3_139 : Cond.methodLink RX3 139 yX3_latestCycleStillHolds ∈ gw := gw_in 428 (by decide +kernel) (by decide +kernel)
theorem mi_X3_latestCycleStillHolds : Cond.instanceMethod yX3_latestCycleStillHolds ∈ gw := gw_in 430 (by decide +kernel) (by decide +kernel)
theorem ml_X3_144 : Cond.methodLink RX3 144 yX1_hasMark ∈ gw := gw_in 433 (by decide +kernel) (by decide +kernel)
theorem ml_L_102 : Cond.methodLink RL 102 yL_lost ∈ gw := gw_in 434 (by decide +kernel) (by decide +kernel)
theorem mt_L_lost : Cond.static yL_lost ∈ gw := gw_in 435 (by decide +kernel) (by decide +kernel)
theorem ml_L_51 : Cond.methodLink RL 51 yX3_lost ∈ gw := gw_in 437 (by decide +kernel) (by decide +kernel)
theorem mi_X3_lost : Cond.instanceMethod yX3_lost ∈ gw := gw_in 438 (by decide +kernel) (by decide +kernel)
theorem ms_X3_lost : Cond.selects RX3 yX3_lost yX3_lost ∈ gw := gw_in 439 (by decide +kernel) (by decide +kernel)
theorem ml_X3_149 : Cond.methodLink RX3 149 yX2_search ∈ gw := gw_in 442 (by decide +kernel) (by decide +kernel)
theorem mi_X2_search : Cond.instanceMethod yX2_search ∈ gw := gw_in 443 (by decide +kernel) (by decide +kernel)
theorem ms_X2_search : Cond.selects RX2 yX2_search yX2_search ∈ gw := gw_in 444 (by decide +kernel) (by decide +kernel)
theorem ml_X2_27 : Cond.methodLink RX2 27 yX0_rootAt ∈ gw := gw_in 446 (by decide +kernel) (by decide +kernel)
theorem ml_X2_33 : Cond.methodLink RX2 33 yX2_enter ∈ gw := gw_in 447 (by decide +kernel) (by decide +kernel)
theorem mi_X2_enter : Cond.instanceMethod yX2_enter ∈ gw := gw_in 449 (by decide +kernel) (by decide +kernel)
theorem ml_X2_40 : Cond.methodLink RX2 40 yX0_has ∈ gw := gw_in 451 (by decide +kernel) (by decide +kernel)
theorem ml_X2_37 : Cond.methodLink RX2 37 yX2_enterFieldsOf ∈ gw := gw_in 452 (by decide +kernel) (by decide +kernel)
theorem mi_X2_enterFieldsOf : Cond.instanceMethod yX2_enterFieldsOf ∈ gw := gw_in 454 (by decide +kernel) (by decide +kernel)
theorem ml_X2_44 : Cond.methodLink RX2 44 yX0_fieldCountOf ∈ gw := gw_in 456 (by decide +kernel) (by decide +kernel)
theorem ml_X2_47 : Cond.methodLink RX2 47 yX0_fieldOf ∈ gw := gw_in 457 (by decide +kernel) (by decide +kernel)
theorem ml_X3_152 : Cond.methodLink RX3 152 yX2_hasFound ∈ gw := gw_in 458 (by decide +kernel) (by decide +kernel)
theorem mi_X2_hasFound : Cond.instanceMethod yX2_hasFound ∈ gw := gw_in 459 (by decide +kernel) (by decide +kernel)
theorem ms_X2_hasFound : Cond.selects RX2 yX2_hasFound yX2_hasFound ∈ gw := gw_in 460 (by decide +kernel) (by decide +kernel)
theorem ml_L_105 : Cond.methodLink RL 105 yL_count ∈ gw := gw_in 462 (by decide +kernel) (by decide +kernel)
theorem mt_L_count : Cond.static yL_count ∈ gw := gw_in 463 (by decide +kernel) (by decide +kernel)
theorem ml_L_54 : Cond.methodLink RL 54 yX3_count ∈ gw := gw_in 465 (by decide +kernel) (by decide +kernel)
theorem mi_X3_count : Cond.instanceMethod yX3_count ∈ gw := gw_in 466 (by decide +kernel) (by decide +kernel)
theorem ms_X3_count : Cond.selects RX3 yX3_count yX3_count ∈ gw := gw_in 467 (by decide +kernel) (by decide +kernel)
theorem ml_X3_155 : Cond.methodLink RX3 155 yX0_countOfObjects ∈ gw := gw_in 469 (by decide +kernel) (by decide +kernel)
theorem ml_X3_158 : Cond.methodLink RX3 158 yX0_countOfFields ∈ gw := gw_in 470 (by decide +kernel) (by decide +kernel)
theorem mi_X0_countOfFields : Cond.instanceMethod yX0_countOfFields ∈ gw := gw_in 471 (by decide +kernel) (by decide +kernel)
theorem ms_X0_countOfFields : Cond.selects RX0 yX0_countOfFields yX0_countOfFields ∈ gw := gw_in 472 (by decide +kernel) (by decide +kernel)
theorem ml_X3_161 : Cond.methodLink RX3 161 yX2_countOfFound ∈ gw := gw_in 474 (by decide +kernel) (by decide +kernel)
theorem mi_X2_countOfFound : Cond.instanceMethod yX2_countOfFound ∈ gw := gw_in 475 (by decide +kernel) (by decide +kernel)
theorem ms_X2_countOfFound : Cond.selects RX2 yX2_countOfFound yX2_countOfFound ∈ gw := gw_in 476 (by decide +kernel) (by decide +kernel)
theorem mk_L_58 : Cond.classLink RL 58 RX4 ∈ gw := gw_in 479 (by decide +kernel) (by decide +kernel)
theorem mz_X4 : Cond.instantiable RX4 15 ∈ gw := gw_in 480 (by decide +kernel) (by decide +kernel)
theorem ml_L_60 : Cond.methodLink RL 60 yX4_init ∈ gw := gw_in 481 (by decide +kernel) (by decide +kernel)
theorem mi_X4_init : Cond.instanceMethod yX4_init ∈ gw := gw_in 482 (by decide +kernel) (by decide +kernel)
theorem ml_X4_1 : Cond.methodLink RX4 1 objectInit ∈ gw := gw_in 484 (by decide +kernel) (by decide +kernel)
theorem mf_X4_30 : Cond.fieldLink RX4 30 "PileMarkerModel" "thrown" "I" ∈ gw := gw_in 485 (by decide +kernel) (by decide +kernel)
theorem mf_X4_33 : Cond.fieldLink RX4 33 "PileMarkerModel" "objects" "I" ∈ gw := gw_in 486 (by decide +kernel) (by decide +kernel)
theorem mf_X4_51 : Cond.fieldLink RX4 51 "PileMarkerModel" "allFields" "I" ∈ gw := gw_in 487 (by decide +kernel) (by decide +kernel)
theorem mf_X4_7 : Cond.fieldLink RX4 7 "PileMarkerModel" "starts" "[I" ∈ gw := gw_in 488 (by decide +kernel) (by decide +kernel)
theorem mf_X4_13 : Cond.fieldLink RX4 13 "PileMarkerModel" "fields" "[I" ∈ gw := gw_in 489 (by decide +kernel) (by decide +kernel)
theorem mf_X4_16 : Cond.fieldLink RX4 16 "PileMarkerModel" "roots" "[I" ∈ gw := gw_in 490 (by decide +kernel) (by decide +kernel)
theorem mf_X4_19 : Cond.fieldLink RX4 19 "PileMarkerModel" "reached" "[Z" ∈ gw := gw_in 491 (by decide +kernel) (by decide +kernel)
theorem mf_X4_23 : Cond.fieldLink RX4 23 "PileMarkerModel" "marks" "[Z" ∈ gw := gw_in 492 (by decide +kernel) (by decide +kernel)
theorem mf_X4_26 : Cond.fieldLink RX4 26 "PileMarkerModel" "piled" "I" ∈ gw := gw_in 493 (by decide +kernel) (by decide +kernel)
theorem mf_X4_61 : Cond.fieldLink RX4 61 "PileMarkerModel" "going" "Z" ∈ gw := gw_in 494 (by decide +kernel) (by decide +kernel)
theorem mf_X4_40 : Cond.fieldLink RX4 40 "PileMarkerModel" "quiet" "Z" ∈ gw := gw_in 495 (by decide +kernel) (by decide +kernel)
theorem mf_X4_71 : Cond.fieldLink RX4 71 "PileMarkerModel" "cycles" "I" ∈ gw := gw_in 496 (by decide +kernel) (by decide +kernel)
theorem mf_X4_74 : Cond.fieldLink RX4 74 "PileMarkerModel" "quietCycles" "I" ∈ gw := gw_in 497 (by decide +kernel) (by decide +kernel)
theorem mf_X4_44 : Cond.fieldLink RX4 44 "PileMarkerModel" "fresh" "Z" ∈ gw := gw_in 498 (by decide +kernel) (by decide +kernel)
theorem mf_X4_68 : Cond.fieldLink RX4 68 "PileMarkerModel" "wasQuiet" "Z" ∈ gw := gw_in 499 (by decide +kernel) (by decide +kernel)
theorem ml_L_67 : Cond.methodLink RL 67 yX4_thrown ∈ gw := gw_in 531 (by decide +kernel) (by decide +kernel)
theorem mi_X4_thrown : Cond.instanceMethod yX4_thrown ∈ gw := gw_in 532 (by decide +kernel) (by decide +kernel)
theorem ms_X4_thrown : Cond.selects RX4 yX4_thrown yX4_thrown ∈ gw := gw_in 533 (by decide +kernel) (by decide +kernel)
theorem ml_L_66 : Cond.methodLink RL 66 yX4_make ∈ gw := gw_in 535 (by decide +kernel) (by decide +kernel)
theorem mi_X4_make : Cond.instanceMethod yX4_make ∈ gw := gw_in 536 (by decide +kernel) (by decide +kernel)
theorem ms_X4_make : Cond.selects RX4 yX4_make yX4_make ∈ gw := gw_in 537 (by decide +kernel) (by decide +kernel)
theorem ml_X4_47 : Cond.methodLink RX4 47 yX4_goes ∈ gw := gw_in 539 (by decide +kernel) (by decide +kernel)
theorem mi_X4_goes : Cond.instanceMethod yX4_goes ∈ gw := gw_in 541 (by decide +kernel) (by decide +kernel)
theorem ml_X4_54 : Cond.methodLink RX4 54 yX4_changed ∈ gw := gw_in 543 (by decide +kernel) (by decide +kernel)
theorem mi_X4_changed : Cond.instanceMethod yX4_changed ∈ gw := gw_in 545 (by decide +kernel) (by decide +kernel)
theorem ml_L_73 : Cond.methodLink RL 73 yX4_set ∈ gw := gw_in 547 (by decide +kernel) (by decide +kernel)
theorem mi_X4_set : Cond.instanceMethod yX4_set ∈ gw := gw_in 548 (by decide +kernel) (by decide +kernel)
theorem ms_X4_set : Cond.selects RX4 yX4_set yX4_set ∈ gw := gw_in 549 (by decide +kernel) (by decide +kernel)
theorem ml_X4_57 : Cond.methodLink RX4 57 yX4_isField ∈ gw := gw_in 551 (by decide +kernel) (by decide +kernel)
theorem mi_X4_isField : Cond.instanceMethod yX4_isField ∈ gw := gw_in 553 (by decide +kernel) (by decide +kernel)
theorem ml_X4_36 : Cond.methodLink RX4 36 yX4_isObject ∈ gw := gw_in 555 (by decide +kernel) (by decide +kernel)
theorem mi_X4_isObject : Cond.instanceMethod yX4_isObject ∈ gw := gw_in 557 (by decide +kernel) (by decide +kernel)
theorem ml_L_77 : Cond.methodLink RL 77 yX4_get ∈ gw := gw_in 559 (by decide +kernel) (by decide +kernel)
theorem mi_X4_get : Cond.instanceMethod yX4_get ∈ gw := gw_in 560 (by decide +kernel) (by decide +kernel)
theorem ms_X4_get : Cond.selects RX4 yX4_get yX4_get ∈ gw := gw_in 561 (by decide +kernel) (by decide +kernel)
theorem ml_L_80 : Cond.methodLink RL 80 yX4_root ∈ gw := gw_in 563 (by decide +kernel) (by decide +kernel)
theorem mi_X4_root : Cond.instanceMethod yX4_root ∈ gw := gw_in 564 (by decide +kernel) (by decide +kernel)
theorem ms_X4_root : Cond.selects RX4 yX4_root yX4_root ∈ gw := gw_in 565 (by decide +kernel) (by decide +kernel)
theorem ml_L_83 : Cond.methodLink RL 83 yX4_pile ∈ gw := gw_in 567 (by decide +kernel) (by decide +kernel)
theorem mi_X4_pile : Cond.instanceMethod yX4_pile ∈ gw := gw_in 568 (by decide +kernel) (by decide +kernel)
theorem ms_X4_pile : Cond.selects RX4 yX4_pile yX4_pile ∈ gw := gw_in 569 (by decide +kernel) (by decide +kernel)
theorem ml_L_87 : Cond.methodLink RL 87 yX4_begin ∈ gw := gw_in 571 (by decide +kernel) (by decide +kernel)
theorem mi_X4_begin : Cond.instanceMethod yX4_begin ∈ gw := gw_in 572 (by decide +kernel) (by decide +kernel)
theorem ms_X4_begin : Cond.selects RX4 yX4_begin yX4_begin ∈ gw := gw_in 573 (by decide +kernel) (by decide +kernel)
theorem ml_L_91 : Cond.methodLink RL 91 yX4_mark ∈ gw := gw_in 575 (by decide +kernel) (by decide +kernel)
theorem mi_X4_mark : Cond.instanceMethod yX4_mark ∈ gw := gw_in 576 (by decide +kernel) (by decide +kernel)
theorem ms_X4_mark : Cond.selects RX4 yX4_mark yX4_mark ∈ gw := gw_in 577 (by decide +kernel) (by decide +kernel)
theorem ml_L_94 : Cond.methodLink RL 94 yX4_preclean ∈ gw := gw_in 579 (by decide +kernel) (by decide +kernel)
theorem mi_X4_preclean : Cond.instanceMethod yX4_preclean ∈ gw := gw_in 580 (by decide +kernel) (by decide +kernel)
theorem ms_X4_preclean : Cond.selects RX4 yX4_preclean yX4_preclean ∈ gw := gw_in 581 (by decide +kernel) (by decide +kernel)
theorem ml_L_98 : Cond.methodLink RL 98 yX4_finish ∈ gw := gw_in 583 (by decide +kernel) (by decide +kernel)
theorem mi_X4_finish : Cond.instanceMethod yX4_finish ∈ gw := gw_in 584 (by decide +kernel) (by decide +kernel)
theorem ms_X4_finish : Cond.selects RX4 yX4_finish yX4_finish ∈ gw := gw_in 585 (by decide +kernel) (by decide +kernel)
theorem ml_X4_64 : Cond.methodLink RX4 64 yX4_reach ∈ gw := gw_in 587 (by decide +kernel) (by decide +kernel)
theorem mi_X4_reach : Cond.instanceMethod yX4_reach ∈ gw := gw_in 589 (by decide +kernel) (by decide +kernel)
theorem ml_L_101 : Cond.methodLink RL 101 yX4_marked ∈ gw := gw_in 591 (by decide +kernel) (by decide +kernel)
theorem mi_X4_marked : Cond.instanceMethod yX4_marked ∈ gw := gw_in 592 (by decide +kernel) (by decide +kernel)
theorem ms_X4_marked : Cond.selects RX4 yX4_marked yX4_marked ∈ gw := gw_in 593 (by decide +kernel) (by decide +kernel)
theorem ml_L_104 : Cond.methodLink RL 104 yX4_lost ∈ gw := gw_in 595 (by decide +kernel) (by decide +kernel)
theorem mi_X4_lost : Cond.instanceMethod yX4_lost ∈ gw := gw_in 596 (by decide +kernel) (by decide +kernel)
theorem ms_X4_lost : Cond.selects RX4 yX4_lost yX4_lost ∈ gw := gw_in 597 (by decide +kernel) (by decide +kernel)
theorem ml_L_107 : Cond.methodLink RL 107 yX4_count ∈ gw := gw_in 599 (by decide +kernel) (by decide +kernel)
theorem mi_X4_count : Cond.instanceMethod yX4_count ∈ gw := gw_in 600 (by decide +kernel) (by decide +kernel)
theorem ms_X4_count : Cond.selects RX4 yX4_count yX4_count ∈ gw := gw_in 601 (by decide +kernel) (by decide +kernel)
theorem ma_long : Cond.arrayClass .long ∈ gw := gw_in 603 (by decide +kernel) (by decide +kernel)
theorem ms_X1_markStep : Cond.selects RX1 yX1_markStep yX1_markStep ∈ gw := gw_in 1 (by decide +kernel) (by decide +kernel)
theorem ms_X1_putMark : Cond.selects RX1 yX1_putMark yX1_putMark ∈ gw := gw_in 2 (by decide +kernel) (by decide +kernel)
theorem ms_X1_keepOrForget : Cond.selects RX1 yX1_keepOrForget yX1_keepOrForget ∈ gw := gw_in 3 (by decide +kernel) (by decide +kernel)
theorem ms_X1_markFieldsOf : Cond.selects RX1 yX1_markFieldsOf yX1_markFieldsOf ∈ gw := gw_in 4 (by decide +kernel) (by decide +kernel)
theorem ms_X1_cleanStep : Cond.selects RX1 yX1_cleanStep yX1_cleanStep ∈ gw := gw_in 5 (by decide +kernel) (by decide +kernel)
theorem ms_X3_latestCycleStillHolds : Cond.selects RX3 yX3_latestCycleStillHolds yX3_latestCycleStillHolds ∈ gw := gw_in 6 (by decide +kernel) (by decide +kernel)
theorem ms_X2_enter : Cond.selects RX2 yX2_enter yX2_enter ∈ gw := gw_in 7 (by decide +kernel) (by decide +kernel)
theorem ms_X2_enterFieldsOf : Cond.selects RX2 yX2_enterFieldsOf yX2_enterFieldsOf ∈ gw := gw_in 8 (by decide +kernel) (by decide +kernel)
theorem ms_X4_goes : Cond.selects RX4 yX4_goes yX4_goes ∈ gw := gw_in 9 (by decide +kernel) (by decide +kernel)
theorem ms_X4_changed : Cond.selects RX4 yX4_changed yX4_changed ∈ gw := gw_in 10 (by decide +kernel) (by decide +kernel)
theorem ms_X4_isField : Cond.selects RX4 yX4_isField yX4_isField ∈ gw := gw_in 11 (by decide +kernel) (by decide +kernel)
theorem ms_X4_isObject : Cond.selects RX4 yX4_isObject yX4_isObject ∈ gw := gw_in 12 (by decide +kernel) (by decide +kernel)
theorem ms_X4_reach : Cond.selects RX4 yX4_reach yX4_reach ∈ gw := gw_in 13 (by decide +kernel) (by decide +kernel)
end
section
theorem pm_tf (b : Bool) : b = true ∨ b = false := by cases b; exact Or.inr rfl; exact Or.inl rfl
end
section
theorem dX0_init_0 : decode cX0_init 0 = .ok (.aload_n 0, 1) := by decide +kernel
theorem dX0_init_1 : decode cX0_init 1 = .ok (.invokespecial 3, 3) := by decide +kernel
theorem dX0_init_4 : decode cX0_init 4 = .ok (.aload_n 0, 1) := by decide +kernel
theorem dX0_init_5 : decode cX0_init 5 = .ok (.sipush 400, 3) := by decide +kernel
theorem dX0_init_8 : decode cX0_init 8 = .ok (.newarray .int, 2) := by decide +kernel
theorem dX0_init_10 : decode cX0_init 10 = .ok (.putfield 9, 3) := by decide +kernel
theorem dX0_init_13 : decode cX0_init 13 = .ok (.aload_n 0, 1) := by decide +kernel
theorem dX0_init_14 : decode cX0_init 14 = .ok (.sipush 8000, 3) := by decide +kernel
theorem dX0_init_17 : decode cX0_init 17 = .ok (.newarray .int, 2) := by decide +kernel
theorem dX0_init_19 : decode cX0_init 19 = .ok (.putfield 15, 3) := by decide +kernel
theorem dX0_init_22 : decode cX0_init 22 = .ok (.aload_n 0, 1) := by decide +kernel
theorem dX0_init_23 : decode cX0_init 23 = .ok (.bipush 16, 2) := by decide +kernel
theorem dX0_init_25 : decode cX0_init 25 = .ok (.newarray .int, 2) := by decide +kernel
theorem dX0_init_27 : decode cX0_init 27 = .ok (.putfield 18, 3) := by decide +kernel
theorem dX0_init_30 : decode cX0_init 30 = .ok (.aload_n 0, 1) := by decide +kernel
theorem dX0_init_31 : decode cX0_init 31 = .ok (.iconst 0, 1) := by decide +kernel
theorem dX0_init_32 : decode cX0_init 32 = .ok (.putfield 21, 3) := by decide +kernel
theorem dX0_init_35 : decode cX0_init 35 = .ok (.aload_n 0, 1) := by decide +kernel
theorem dX0_init_36 : decode cX0_init 36 = .ok (.iconst 0, 1) := by decide +kernel
theorem dX0_init_37 : decode cX0_init 37 = .ok (.putfield 25, 3) := by decide +kernel
theorem dX0_init_40 : decode cX0_init 40 = .ok (.iconst 0, 1) := by decide +kernel
theorem dX0_init_41 : decode cX0_init 41 = .ok (.istore_n 1, 1) := by decide +kernel
theorem dX0_init_42 : decode cX0_init 42 = .ok (.iload_n 1, 1) := by decide +kernel
theorem dX0_init_43 : decode cX0_init 43 = .ok (.bipush 16, 2) := by decide +kernel
theorem dX0_init_45 : decode cX0_init 45 = .ok (.if_icmp .ge 16, 3) := by decide +kernel
theorem dX0_init_48 : decode cX0_init 48 = .ok (.aload_n 0, 1) := by decide +kernel
theorem dX0_init_49 : decode cX0_init 49 = .ok (.getfield 18, 3) := by decide +kernel
theorem dX0_init_52 : decode cX0_init 52 = .ok (.iload_n 1, 1) := by decide +kernel
theorem dX0_init_53 : decode cX0_init 53 = .ok (.iconst (-1), 1) := by decide +kernel
theorem dX0_init_54 : decode cX0_init 54 = .ok (.iastore, 1) := by decide +kernel
theorem dX0_init_55 : decode cX0_init 55 = .ok (.iinc 1 1, 3) := by decide +kernel
theorem dX0_init_58 : decode cX0_init 58 = .ok (.goto (-16), 3) := by decide +kernel
theorem dX0_init_61 : decode cX0_init 61 = .ok (.return_, 1) := by decide +kernel
theorem dX0_isFull_0 : decode cX0_isFull 0 = .ok (.aload_n 0, 1) := by decide +kernel
theorem dX0_isFull_1 : decode cX0_isFull 1 = .ok (.getfield 21, 3) := by decide +kernel
theorem dX0_isFull_4 : decode cX0_isFull 4 = .ok (.sipush 400, 3) := by decide +kernel
theorem dX0_isFull_7 : decode cX0_isFull 7 = .ok (.if_icmp .lt 7, 3) := by decide +kernel
theorem dX0_isFull_10 : decode cX0_isFull 10 = .ok (.iconst 1, 1) := by decide +kernel
theorem dX0_isFull_11 : decode cX0_isFull 11 = .ok (.goto 4, 3) := by decide +kernel
theorem dX0_isFull_14 : decode cX0_isFull 14 = .ok (.iconst 0, 1) := by decide +kernel
theorem dX0_isFull_15 : decode cX0_isFull 15 = .ok (.ireturn, 1) := by decide +kernel
theorem dX0_addObject_0 : decode cX0_addObject 0 = .ok (.aload_n 0, 1) := by decide +kernel
theorem dX0_addObject_1 : decode cX0_addObject 1 = .ok (.invokevirtual 32, 3) := by decide +kernel
theorem dX0_addObject_4 : decode cX0_addObject 4 = .ok (.ifCond .ne 13, 3) := by decide +kernel
theorem dX0_addObject_7 : decode cX0_addObject 7 = .ok (.iload_n 1, 1) := by decide +kernel
theorem dX0_addObject_8 : decode cX0_addObject 8 = .ok (.ifCond .lt 9, 3) := by decide +kernel
theorem dX0_addObject_11 : decode cX0_addObject 11 = .ok (.iload_n 1, 1) := by decide +kernel
theorem dX0_addObject_12 : decode cX0_addObject 12 = .ok (.bipush 20, 2) := by decide +kernel
theorem dX0_addObject_14 : decode cX0_addObject 14 = .ok (.if_icmp .le 5, 3) := by decide +kernel
theorem dX0_addObject_17 : decode cX0_addObject 17 = .ok (.iconst (-1), 1) := by decide +kernel
theorem dX0_addObject_18 : decode cX0_addObject 18 = .ok (.ireturn, 1) := by decide +kernel
theorem dX0_addObject_19 : decode cX0_addObject 19 = .ok (.aload_n 0, 1) := by decide +kernel
theorem dX0_addObject_20 : decode cX0_addObject 20 = .ok (.getfield 21, 3) := by decide +kernel
theorem dX0_addObject_23 : decode cX0_addObject 23 = .ok (.istore_n 2, 1) := by decide +kernel
theorem dX0_addObject_24 : decode cX0_addObject 24 = .ok (.aload_n 0, 1) := by decide +kernel
theorem dX0_addObject_25 : decode cX0_addObject 25 = .ok (.getfield 9, 3) := by decide +kernel
theorem dX0_addObject_28 : decode cX0_addObject 28 = .ok (.iload_n 2, 1) := by decide +kernel
theorem dX0_addObject_29 : decode cX0_addObject 29 = .ok (.iload_n 1, 1) := by decide +kernel
theorem dX0_addObject_30 : decode cX0_addObject 30 = .ok (.iastore, 1) := by decide +kernel
theorem dX0_addObject_31 : decode cX0_addObject 31 = .ok (.iconst 0, 1) := by decide +kernel
theorem dX0_addObject_32 : decode cX0_addObject 32 = .ok (.istore_n 3, 1) := by decide +kernel
theorem dX0_addObject_33 : decode cX0_addObject 33 = .ok (.iload_n 3, 1) := by decide +kernel
theorem dX0_addObject_34 : decode cX0_addObject 34 = .ok (.iload_n 1, 1) := by decide +kernel
theorem dX0_addObject_35 : decode cX0_addObject 35 = .ok (.if_icmp .ge 21, 3) := by decide +kernel
theorem dX0_addObject_38 : decode cX0_addObject 38 = .ok (.aload_n 0, 1) := by decide +kernel
theorem dX0_addObject_39 : decode cX0_addObject 39 = .ok (.getfield 15, 3) := by decide +kernel
theorem dX0_addObject_42 : decode cX0_addObject 42 = .ok (.iload_n 2, 1) := by decide +kernel
theorem dX0_addObject_43 : decode cX0_addObject 43 = .ok (.bipush 20, 2) := by decide +kernel
theorem dX0_addObject_45 : decode cX0_addObject 45 = .ok (.imul, 1) := by decide +kernel
theorem dX0_addObject_46 : decode cX0_addObject 46 = .ok (.iload_n 3, 1) := by decide +kernel
theorem dX0_addObject_47 : decode cX0_addObject 47 = .ok (.iadd, 1) := by decide +kernel
theorem dX0_addObject_48 : decode cX0_addObject 48 = .ok (.iconst (-1), 1) := by decide +kernel
theorem dX0_addObject_49 : decode cX0_addObject 49 = .ok (.iastore, 1) := by decide +kernel
theorem dX0_addObject_50 : decode cX0_addObject 50 = .ok (.iinc 3 1, 3) := by decide +kernel
theorem dX0_addObject_53 : decode cX0_addObject 53 = .ok (.goto (-20), 3) := by decide +kernel
theorem dX0_addObject_56 : decode cX0_addObject 56 = .ok (.aload_n 0, 1) := by decide +kernel
theorem dX0_addObject_57 : decode cX0_addObject 57 = .ok (.dup, 1) := by decide +kernel
theorem dX0_addObject_58 : decode cX0_addObject 58 = .ok (.getfield 21, 3) := by decide +kernel
theorem dX0_addObject_61 : decode cX0_addObject 61 = .ok (.iconst 1, 1) := by decide +kernel
theorem dX0_addObject_62 : decode cX0_addObject 62 = .ok (.iadd, 1) := by decide +kernel
theorem dX0_addObject_63 : decode cX0_addObject 63 = .ok (.putfield 21, 3) := by decide +kernel
theorem dX0_addObject_66 : decode cX0_addObject 66 = .ok (.aload_n 0, 1) := by decide +kernel
theorem dX0_addObject_67 : decode cX0_addObject 67 = .ok (.dup, 1) := by decide +kernel
theorem dX0_addObject_68 : decode cX0_addObject 68 = .ok (.getfield 25, 3) := by decide +kernel
theorem dX0_addObject_71 : decode cX0_addObject 71 = .ok (.iload_n 1, 1) := by decide +kernel
theorem dX0_addObject_72 : decode cX0_addObject 72 = .ok (.iadd, 1) := by decide +kernel
theorem dX0_addObject_73 : decode cX0_addObject 73 = .ok (.putfield 25, 3) := by decide +kernel
theorem dX0_addObject_76 : decode cX0_addObject 76 = .ok (.iload_n 2, 1) := by decide +kernel
theorem dX0_addObject_77 : decode cX0_addObject 77 = .ok (.ireturn, 1) := by decide +kernel
theorem dX0_hasField_0 : decode cX0_hasField 0 = .ok (.aload_n 0, 1) := by decide +kernel
theorem dX0_hasField_1 : decode cX0_hasField 1 = .ok (.iload_n 1, 1) := by decide +kernel
theorem dX0_hasField_2 : decode cX0_hasField 2 = .ok (.invokevirtual 28, 3) := by decide +kernel
theorem dX0_hasField_5 : decode cX0_hasField 5 = .ok (.ifCond .eq 21, 3) := by decide +kernel
theorem dX0_hasField_8 : decode cX0_hasField 8 = .ok (.iload_n 2, 1) := by decide +kernel
theorem dX0_hasField_9 : decode cX0_hasField 9 = .ok (.ifCond .lt 17, 3) := by decide +kernel
theorem dX0_hasField_12 : decode cX0_hasField 12 = .ok (.iload_n 2, 1) := by decide +kernel
theorem dX0_hasField_13 : decode cX0_hasField 13 = .ok (.aload_n 0, 1) := by decide +kernel
theorem dX0_hasField_14 : decode cX0_hasField 14 = .ok (.getfield 9, 3) := by decide +kernel
theorem dX0_hasField_17 : decode cX0_hasField 17 = .ok (.iload_n 1, 1) := by decide +kernel
theorem dX0_hasField_18 : decode cX0_hasField 18 = .ok (.iaload, 1) := by decide +kernel
theorem dX0_hasField_19 : decode cX0_hasField 19 = .ok (.if_icmp .ge 7, 3) := by decide +kernel
theorem dX0_hasField_22 : decode cX0_hasField 22 = .ok (.iconst 1, 1) := by decide +kernel
theorem dX0_hasField_23 : decode cX0_hasField 23 = .ok (.goto 4, 3) := by decide +kernel
theorem dX0_hasField_26 : decode cX0_hasField 26 = .ok (.iconst 0, 1) := by decide +kernel
theorem dX0_hasField_27 : decode cX0_hasField 27 = .ok (.ireturn, 1) := by decide +kernel
theorem dX0_has_0 : decode cX0_has 0 = .ok (.iload_n 1, 1) := by decide +kernel
theorem dX0_has_1 : decode cX0_has 1 = .ok (.ifCond .lt 15, 3) := by decide +kernel
theorem dX0_has_4 : decode cX0_has 4 = .ok (.iload_n 1, 1) := by decide +kernel
theorem dX0_has_5 : decode cX0_has 5 = .ok (.aload_n 0, 1) := by decide +kernel
theorem dX0_has_6 : decode cX0_has 6 = .ok (.getfield 21, 3) := by decide +kernel
theorem dX0_has_9 : decode cX0_has 9 = .ok (.if_icmp .ge 7, 3) := by decide +kernel
theorem dX0_has_12 : decode cX0_has 12 = .ok (.iconst 1, 1) := by decide +kernel
theorem dX0_has_13 : decode cX0_has 13 = .ok (.goto 4, 3) := by decide +kernel
theorem dX0_has_16 : decode cX0_has 16 = .ok (.iconst 0, 1) := by decide +kernel
theorem dX0_has_17 : decode cX0_has 17 = .ok (.ireturn, 1) := by decide +kernel
theorem dX0_hasOrIsNone_0 : decode cX0_hasOrIsNone 0 = .ok (.iload_n 1, 1) := by decide +kernel
theorem dX0_hasOrIsNone_1 : decode cX0_hasOrIsNone 1 = .ok (.iconst (-1), 1) := by decide +kernel
theorem dX0_hasOrIsNone_2 : decode cX0_hasOrIsNone 2 = .ok (.if_icmp .eq 11, 3) := by decide +kernel
theorem dX0_hasOrIsNone_5 : decode cX0_hasOrIsNone 5 = .ok (.aload_n 0, 1) := by decide +kernel
theorem dX0_hasOrIsNone_6 : decode cX0_hasOrIsNone 6 = .ok (.iload_n 1, 1) := by decide +kernel
theorem dX0_hasOrIsNone_7 : decode cX0_hasOrIsNone 7 = .ok (.invokevirtual 28, 3) := by decide +kernel
theorem dX0_hasOrIsNone_10 : decode cX0_hasOrIsNone 10 = .ok (.ifCond .eq 7, 3) := by decide +kernel
theorem dX0_hasOrIsNone_13 : decode cX0_hasOrIsNone 13 = .ok (.iconst 1, 1) := by decide +kernel
theorem dX0_hasOrIsNone_14 : decode cX0_hasOrIsNone 14 = .ok (.goto 4, 3) := by decide +kernel
theorem dX0_hasOrIsNone_17 : decode cX0_hasOrIsNone 17 = .ok (.iconst 0, 1) := by decide +kernel
theorem dX0_hasOrIsNone_18 : decode cX0_hasOrIsNone 18 = .ok (.ireturn, 1) := by decide +kernel
theorem dX0_putField_0 : decode cX0_putField 0 = .ok (.aload_n 0, 1) := by decide +kernel
theorem dX0_putField_1 : decode cX0_putField 1 = .ok (.iload_n 1, 1) := by decide +kernel
theorem dX0_putField_2 : decode cX0_putField 2 = .ok (.iload_n 2, 1) := by decide +kernel
theorem dX0_putField_3 : decode cX0_putField 3 = .ok (.invokevirtual 40, 3) := by decide +kernel
theorem dX0_putField_6 : decode cX0_putField 6 = .ok (.istore 4, 2) := by decide +kernel
theorem dX0_putField_8 : decode cX0_putField 8 = .ok (.aload_n 0, 1) := by decide +kernel
theorem dX0_putField_9 : decode cX0_putField 9 = .ok (.iload_n 1, 1) := by decide +kernel
theorem dX0_putField_10 : decode cX0_putField 10 = .ok (.iload_n 2, 1) := by decide +kernel
theorem dX0_putField_11 : decode cX0_putField 11 = .ok (.invokevirtual 36, 3) := by decide +kernel
theorem dX0_putField_14 : decode cX0_putField 14 = .ok (.ifCond .eq 15, 3) := by decide +kernel
theorem dX0_putField_17 : decode cX0_putField 17 = .ok (.aload_n 0, 1) := by decide +kernel
theorem dX0_putField_18 : decode cX0_putField 18 = .ok (.getfield 15, 3) := by decide +kernel
theorem dX0_putField_21 : decode cX0_putField 21 = .ok (.iload_n 1, 1) := by decide +kernel
theorem dX0_putField_22 : decode cX0_putField 22 = .ok (.bipush 20, 2) := by decide +kernel
theorem dX0_putField_24 : decode cX0_putField 24 = .ok (.imul, 1) := by decide +kernel
theorem dX0_putField_25 : decode cX0_putField 25 = .ok (.iload_n 2, 1) := by decide +kernel
theorem dX0_putField_26 : decode cX0_putField 26 = .ok (.iadd, 1) := by decide +kernel
theorem dX0_putField_27 : decode cX0_putField 27 = .ok (.iload_n 3, 1) := by decide +kernel
theorem dX0_putField_28 : decode cX0_putField 28 = .ok (.iastore, 1) := by decide +kernel
theorem dX0_putField_29 : decode cX0_putField 29 = .ok (.iload 4, 2) := by decide +kernel
theorem dX0_putField_31 : decode cX0_putField 31 = .ok (.ireturn, 1) := by decide +kernel
theorem dX0_fieldOf_0 : decode cX0_fieldOf 0 = .ok (.aload_n 0, 1) := by decide +kernel
theorem dX0_fieldOf_1 : decode cX0_fieldOf 1 = .ok (.iload_n 1, 1) := by decide +kernel
theorem dX0_fieldOf_2 : decode cX0_fieldOf 2 = .ok (.iload_n 2, 1) := by decide +kernel
end
section
theorem dX0_fieldOf_3 : decode cX0_fieldOf 3 = .ok (.invokevirtual 36, 3) := by decide +kernel
theorem dX0_fieldOf_6 : decode cX0_fieldOf 6 = .ok (.ifCond .eq 17, 3) := by decide +kernel
theorem dX0_fieldOf_9 : decode cX0_fieldOf 9 = .ok (.aload_n 0, 1) := by decide +kernel
theorem dX0_fieldOf_10 : decode cX0_fieldOf 10 = .ok (.getfield 15, 3) := by decide +kernel
theorem dX0_fieldOf_13 : decode cX0_fieldOf 13 = .ok (.iload_n 1, 1) := by decide +kernel
theorem dX0_fieldOf_14 : decode cX0_fieldOf 14 = .ok (.bipush 20, 2) := by decide +kernel
theorem dX0_fieldOf_16 : decode cX0_fieldOf 16 = .ok (.imul, 1) := by decide +kernel
theorem dX0_fieldOf_17 : decode cX0_fieldOf 17 = .ok (.iload_n 2, 1) := by decide +kernel
theorem dX0_fieldOf_18 : decode cX0_fieldOf 18 = .ok (.iadd, 1) := by decide +kernel
theorem dX0_fieldOf_19 : decode cX0_fieldOf 19 = .ok (.iaload, 1) := by decide +kernel
theorem dX0_fieldOf_20 : decode cX0_fieldOf 20 = .ok (.goto 4, 3) := by decide +kernel
theorem dX0_fieldOf_23 : decode cX0_fieldOf 23 = .ok (.iconst (-1), 1) := by decide +kernel
theorem dX0_fieldOf_24 : decode cX0_fieldOf 24 = .ok (.ireturn, 1) := by decide +kernel
theorem dX0_hasRoot_0 : decode cX0_hasRoot 0 = .ok (.iload_n 1, 1) := by decide +kernel
theorem dX0_hasRoot_1 : decode cX0_hasRoot 1 = .ok (.ifCond .lt 13, 3) := by decide +kernel
theorem dX0_hasRoot_4 : decode cX0_hasRoot 4 = .ok (.iload_n 1, 1) := by decide +kernel
theorem dX0_hasRoot_5 : decode cX0_hasRoot 5 = .ok (.bipush 16, 2) := by decide +kernel
theorem dX0_hasRoot_7 : decode cX0_hasRoot 7 = .ok (.if_icmp .ge 7, 3) := by decide +kernel
theorem dX0_hasRoot_10 : decode cX0_hasRoot 10 = .ok (.iconst 1, 1) := by decide +kernel
theorem dX0_hasRoot_11 : decode cX0_hasRoot 11 = .ok (.goto 4, 3) := by decide +kernel
theorem dX0_hasRoot_14 : decode cX0_hasRoot 14 = .ok (.iconst 0, 1) := by decide +kernel
theorem dX0_hasRoot_15 : decode cX0_hasRoot 15 = .ok (.ireturn, 1) := by decide +kernel
theorem dX0_putRoot_0 : decode cX0_putRoot 0 = .ok (.aload_n 0, 1) := by decide +kernel
theorem dX0_putRoot_1 : decode cX0_putRoot 1 = .ok (.iload_n 1, 1) := by decide +kernel
theorem dX0_putRoot_2 : decode cX0_putRoot 2 = .ok (.invokevirtual 47, 3) := by decide +kernel
theorem dX0_putRoot_5 : decode cX0_putRoot 5 = .ok (.istore_n 3, 1) := by decide +kernel
theorem dX0_putRoot_6 : decode cX0_putRoot 6 = .ok (.aload_n 0, 1) := by decide +kernel
theorem dX0_putRoot_7 : decode cX0_putRoot 7 = .ok (.iload_n 1, 1) := by decide +kernel
theorem dX0_putRoot_8 : decode cX0_putRoot 8 = .ok (.invokevirtual 44, 3) := by decide +kernel
theorem dX0_putRoot_11 : decode cX0_putRoot 11 = .ok (.ifCond .eq 10, 3) := by decide +kernel
theorem dX0_putRoot_14 : decode cX0_putRoot 14 = .ok (.aload_n 0, 1) := by decide +kernel
theorem dX0_putRoot_15 : decode cX0_putRoot 15 = .ok (.getfield 18, 3) := by decide +kernel
theorem dX0_putRoot_18 : decode cX0_putRoot 18 = .ok (.iload_n 1, 1) := by decide +kernel
theorem dX0_putRoot_19 : decode cX0_putRoot 19 = .ok (.iload_n 2, 1) := by decide +kernel
theorem dX0_putRoot_20 : decode cX0_putRoot 20 = .ok (.iastore, 1) := by decide +kernel
theorem dX0_putRoot_21 : decode cX0_putRoot 21 = .ok (.iload_n 3, 1) := by decide +kernel
theorem dX0_putRoot_22 : decode cX0_putRoot 22 = .ok (.ireturn, 1) := by decide +kernel
theorem dX0_rootAt_0 : decode cX0_rootAt 0 = .ok (.aload_n 0, 1) := by decide +kernel
theorem dX0_rootAt_1 : decode cX0_rootAt 1 = .ok (.iload_n 1, 1) := by decide +kernel
theorem dX0_rootAt_2 : decode cX0_rootAt 2 = .ok (.invokevirtual 44, 3) := by decide +kernel
theorem dX0_rootAt_5 : decode cX0_rootAt 5 = .ok (.ifCond .eq 12, 3) := by decide +kernel
theorem dX0_rootAt_8 : decode cX0_rootAt 8 = .ok (.aload_n 0, 1) := by decide +kernel
theorem dX0_rootAt_9 : decode cX0_rootAt 9 = .ok (.getfield 18, 3) := by decide +kernel
theorem dX0_rootAt_12 : decode cX0_rootAt 12 = .ok (.iload_n 1, 1) := by decide +kernel
theorem dX0_rootAt_13 : decode cX0_rootAt 13 = .ok (.iaload, 1) := by decide +kernel
theorem dX0_rootAt_14 : decode cX0_rootAt 14 = .ok (.goto 4, 3) := by decide +kernel
theorem dX0_rootAt_17 : decode cX0_rootAt 17 = .ok (.iconst (-1), 1) := by decide +kernel
theorem dX0_rootAt_18 : decode cX0_rootAt 18 = .ok (.ireturn, 1) := by decide +kernel
theorem dX0_fieldCountOf_0 : decode cX0_fieldCountOf 0 = .ok (.aload_n 0, 1) := by decide +kernel
theorem dX0_fieldCountOf_1 : decode cX0_fieldCountOf 1 = .ok (.iload_n 1, 1) := by decide +kernel
theorem dX0_fieldCountOf_2 : decode cX0_fieldCountOf 2 = .ok (.invokevirtual 28, 3) := by decide +kernel
theorem dX0_fieldCountOf_5 : decode cX0_fieldCountOf 5 = .ok (.ifCond .eq 12, 3) := by decide +kernel
theorem dX0_fieldCountOf_8 : decode cX0_fieldCountOf 8 = .ok (.aload_n 0, 1) := by decide +kernel
theorem dX0_fieldCountOf_9 : decode cX0_fieldCountOf 9 = .ok (.getfield 9, 3) := by decide +kernel
theorem dX0_fieldCountOf_12 : decode cX0_fieldCountOf 12 = .ok (.iload_n 1, 1) := by decide +kernel
theorem dX0_fieldCountOf_13 : decode cX0_fieldCountOf 13 = .ok (.iaload, 1) := by decide +kernel
theorem dX0_fieldCountOf_14 : decode cX0_fieldCountOf 14 = .ok (.goto 4, 3) := by decide +kernel
theorem dX0_fieldCountOf_17 : decode cX0_fieldCountOf 17 = .ok (.iconst 0, 1) := by decide +kernel
theorem dX0_fieldCountOf_18 : decode cX0_fieldCountOf 18 = .ok (.ireturn, 1) := by decide +kernel
theorem dX0_countOfObjects_0 : decode cX0_countOfObjects 0 = .ok (.aload_n 0, 1) := by decide +kernel
theorem dX0_countOfObjects_1 : decode cX0_countOfObjects 1 = .ok (.getfield 21, 3) := by decide +kernel
theorem dX0_countOfObjects_4 : decode cX0_countOfObjects 4 = .ok (.ireturn, 1) := by decide +kernel
theorem dX0_countOfFields_0 : decode cX0_countOfFields 0 = .ok (.aload_n 0, 1) := by decide +kernel
theorem dX0_countOfFields_1 : decode cX0_countOfFields 1 = .ok (.getfield 25, 3) := by decide +kernel
theorem dX0_countOfFields_4 : decode cX0_countOfFields 4 = .ok (.ireturn, 1) := by decide +kernel
end
section
set_option maxHeartbeats 4000000 in
set_option maxRecDepth 100000 in
/-- Heap.isFull(): are there 400 -/
theorem c_H_isFull (l : Launch) (dC : Nat → ClassId) (dI : Nat → Nat → Nat) (h0 a1 a2 a3 : Nat) (k1 k2 k3 : ClassId) (N : Nat) (cn : Nat → Nat) (fl rt : Nat → Int32) (fa : Int32) (sz : Nat) (hN : N ≤ 400) : Met l yX0_isFull wsX0_isFull ({ frames := 0, cells := 0, slots := 0, locals := 0 }) (va_Pc [.ref h0] (fun U => U.heap.size = sz ∧ va_P (dC, dI) vwCl [(h0, .inr (0, [.ref a1, .ref a2, .ref a3, .int (nI N), .int fa])), (a1, .inl (k1, 400, .inl (pm_nf9 cn))), (a2, .inl (k2, 8000, .inl fl)), (a3, .inl (k3, 16, .inl rt))] U.heap ∧ va_K (dC, dI) vwCl [(k1, .int), (k2, .int), (k3, .int)] U ∧ va_D (fun _ => True) [(h0, .inr (0, [.ref a1, .ref a2, .ref a3, .int (nI N), .int fa])), (a1, .inl (k1, 400, .inl (pm_nf9 cn))), (a2, .inl (k2, 8000, .inl fl)), (a3, .inl (k3, 16, .inl rt))])) (va_Qi (fun (r : Int32) (_ : Unit) => r = pm_b (decide (400 ≤ N))) (fun (_ : Unit) (t : State) => va_P (dC, dI) vwCl [(h0, .inr (0, [.ref a1, .ref a2, .ref a3, .int (nI N), .int fa])), (a1, .inl (k1, 400, .inl (pm_nf9 cn))), (a2, .inl (k2, 8000, .inl fl)), (a3, .inl (k3, 16, .inl rt))] t.heap ∧ va_K (dC, dI) vwCl [(k1, .int), (k2, .int), (k3, .int)] t ∧ va_D (va_A [(h0, .inr (0, [.ref a1, .ref a2, .ref a3, .int (nI N), .int fa])), (a1, .inl (k1, 400, .inl (pm_nf9 cn))), (a2, .inl (k2, 8000, .inl fl)), (a3, .inl (k3, 16, .inl rt))] sz) [(h0, .inr (0, [.ref a1, .ref a2, .ref a3, .int (nI N), .int fa])), (a1, .inl (k1, 400, .inl (pm_nf9 cn))), (a2, .inl (k2, 8000, .inl fl)), (a3, .inl (k3, 16, .inl rt))]) (va_A [(h0, .inr (0, [.ref a1, .ref a2, .ref a3, .int (nI N), .int fa])), (a1, .inl (k1, 400, .inl (pm_nf9 cn))), (a2, .inl (k2, 8000, .inl fl)), (a3, .inl (k3, 16, .inl rt))] sz)) 0 0 (va_A [(h0, .inr (0, [.ref a1, .ref a2, .ref a3, .int (nI N), .int fa])), (a1, .inl (k1, 400, .inl (pm_nf9 cn))), (a2, .inl (k2, 8000, .inl fl)), (a3, .inl (k3, 16, .inl rt))] sz) := by
  refine Met.ofW (cc := cX0_isFull) (maxL := 1) (ret := (some .boolean)) (by decide) rfl ?_
  intro p e s m args below meth c s₁ B hml hv
  obtain ⟨rfl, hsz, hP, hK, hD0⟩ := hv
  have hx := B.exec
  have hb := B.bytes
  have hr := B.returns
  have hts : ∀ w ∈ gw, w.before _ s = true := fun w h => atoms_spec (ws := wsX0_isFull) B.pre w (List.mem_cons_of_mem _ h)
  have hown : s.vm.findClass RX0 = some m.cls := findClass_of_methodNamed B.named
  have hlocks := B.notSynchronized
  subst hsz
  have hD := hD0.self (sz := s.heap.size)
  generalize hAe : va_A [(h0, .inr (0, [.ref a1, .ref a2, .ref a3, .int (nI N), .int fa])), (a1, .inl (k1, 400, .inl (pm_nf9 cn))), (a2, .inl (k2, 8000, .inl fl)), (a3, .inl (k3, 16, .inl rt))] s.heap.size = A at hD ⊢
  have hA : ∀ q : Nat, s.heap.size ≤ q → A q := fun q h => by rw [← hAe]; exact Or.inr h
  have hP : va_P (dC, dI) vwCl [(h0, .inr (0, [.ref a1, .ref a2, .ref a3, .int (nI N), .int fa])), (a1, .inl (k1, 400, .inl (pm_nf9 cn))), (a2, .inl (k2, 8000, .inl fl)), (a3, .inl (k3, 16, .inl rt))] s.heap := hP
  have hl := lv_entry ([.ref h0]) (n := 1) (Nat.le_of_ble_eq_true rfl)
  rw [lg_entry_eq]
  generalize (lg_sl ([.ref h0]) ++ List.replicate (1 - (lg_sl ([.ref h0])).length) Slot.unset).toArray = ls at hl ⊢
  have hl : lv_has ls 1 [(0, .ref h0)] := hl
  obtain ⟨H, hH⟩ : ∃ H : Heap, H = s.heap := ⟨_, rfl⟩
  rw [← hH]
  rw [← hH] at hP
  have hS : va_S A s.heap H [] := by rw [hH]; exact va_S.rf
  clear hH
  refine lv_aload_n hx hb dX0_isFull_0 rfl (lv_at hl 0 rfl) ?_
  refine va_get (D := (dC, dI)) (ci := 0) (v := .int (nI N)) (C := RX0) (T := TX0) (N := 5) hx hb hts iw_X0 hown hK hP 0 rfl rfl 3 (by decide) (hts _ mf_X0_21) (fun _ h9 => h9) rfl dX0_isFull_1 ?_
  refine lv_sipush (v := nI 400) hx hb dX0_isFull_4 (by decide +kernel) ?_
  refine lv_icmp_lt (tgt := 14) hx hb dX0_isFull_7 (by decide) (fun c_7 => ?_) (fun c_7 => ?_)
  · rw [nI_ltI (by omega) (by omega)] at c_7
    refine lv_iconst (v := nI 0) hx hb dX0_isFull_14 (by decide +kernel) ?_
    exact W.zret (v := nI 0) hx hb hr (by decide +kernel) (fun t ht hW => ⟨⟨nI 0, (), rfl, by rw [decide_eq_false (by omega)]; rfl, by rw [ht]; exact hP, va_K.moved hW.alike hK, hD⟩, hS.F ht⟩) hS.2.2 dX0_isFull_15
  · rw [nI_ltI (by omega) (by omega)] at c_7
    refine lv_iconst (v := nI 1) hx hb dX0_isFull_10 (by decide +kernel) ?_
    refine lv_goto (tgt := 15) hx hb dX0_isFull_11 (by decide) ?_
    exact W.zret (v := nI 1) hx hb hr (by decide +kernel) (fun t ht hW => ⟨⟨nI 1, (), rfl, by rw [decide_eq_true (by omega)]; rfl, by rw [ht]; exact hP, va_K.moved hW.alike hK, hD⟩, hS.F ht⟩) hS.2.2 dX0_isFull_15

set_option maxHeartbeats 4000000 in
set_option maxRecDepth 100000 in
/-- Heap.has(k) -/
theorem c_H_has (l : Launch) (dC : Nat → ClassId) (dI : Nat → Nat → Nat) (h0 a1 a2 a3 : Nat) (k1 k2 k3 : ClassId) (N : Nat) (cn : Nat → Nat) (fl rt : Nat → Int32) (fa : Int32) (p0 : Int32) (sz : Nat)  : Met l yX0_has wsX0_has ({ frames := 0, cells := 0, slots := 0, locals := 0 }) (va_Pc [.ref h0, .int p0] (fun U => U.heap.size = sz ∧ va_P (dC, dI) vwCl [(h0, .inr (0, [.ref a1, .ref a2, .ref a3, .int (nI N), .int fa])), (a1, .inl (k1, 400, .inl (pm_nf9 cn))), (a2, .inl (k2, 8000, .inl fl)), (a3, .inl (k3, 16, .inl rt))] U.heap ∧ va_K (dC, dI) vwCl [(k1, .int), (k2, .int), (k3, .int)] U ∧ va_D (fun _ => True) [(h0, .inr (0, [.ref a1, .ref a2, .ref a3, .int (nI N), .int fa])), (a1, .inl (k1, 400, .inl (pm_nf9 cn))), (a2, .inl (k2, 8000, .inl fl)), (a3, .inl (k3, 16, .inl rt))])) (va_Qi (fun (r : Int32) (_ : Unit) => r = pm_b (pm_has N p0)) (fun (_ : Unit) (t : State) => va_P (dC, dI) vwCl [(h0, .inr (0, [.ref a1, .ref a2, .ref a3, .int (nI N), .int fa])), (a1, .inl (k1, 400, .inl (pm_nf9 cn))), (a2, .inl (k2, 8000, .inl fl)), (a3, .inl (k3, 16, .inl rt))] t.heap ∧ va_K (dC, dI) vwCl [(k1, .int), (k2, .int), (k3, .int)] t ∧ va_D (va_A [(h0, .inr (0, [.ref a1, .ref a2, .ref a3, .int (nI N), .int fa])), (a1, .inl (k1, 400, .inl (pm_nf9 cn))), (a2, .inl (k2, 8000, .inl fl)), (a3, .inl (k3, 16, .inl rt))] sz) [(h0, .inr (0, [.ref a1, .ref a2, .ref a3, .int (nI N), .int fa])), (a1, .inl (k1, 400, .inl (pm_nf9 cn))), (a2, .inl (k2, 8000, .inl fl)), (a3, .inl (k3, 16, .inl rt))]) (va_A [(h0, .inr (0, [.ref a1, .ref a2, .ref a3, .int (nI N), .int fa])), (a1, .inl (k1, 400, .inl (pm_nf9 cn))), (a2, .inl (k2, 8000, .inl fl)), (a3, .inl (k3, 16, .inl rt))] sz)) 0 0 (va_A [(h0, .inr (0, [.ref a1, .ref a2, .ref a3, .int (nI N), .int fa])), (a1, .inl (k1, 400, .inl (pm_nf9 cn))), (a2, .inl (k2, 8000, .inl fl)), (a3, .inl (k3, 16, .inl rt))] sz) := by
  refine Met.ofW (cc := cX0_has) (maxL := 2) (ret := (some .boolean)) (by decide) rfl ?_
  intro p e s m args below meth c s₁ B hml hv
  obtain ⟨rfl, hsz, hP, hK, hD0⟩ := hv
  have hx := B.exec
  have hb := B.bytes
  have hr := B.returns
  have hts : ∀ w ∈ gw, w.before _ s = true := fun w h => atoms_spec (ws := wsX0_has) B.pre w (List.mem_cons_of_mem _ h)
  have hown : s.vm.findClass RX0 = some m.cls := findClass_of_methodNamed B.named
  have hlocks := B.notSynchronized
  subst hsz
  have hD := hD0.self (sz := s.heap.size)
  generalize hAe : va_A [(h0, .inr (0, [.ref a1, .ref a2, .ref a3, .int (nI N), .int fa])), (a1, .inl (k1, 400, .inl (pm_nf9 cn))), (a2, .inl (k2, 8000, .inl fl)), (a3, .inl (k3, 16, .inl rt))] s.heap.size = A at hD ⊢
  have hA : ∀ q : Nat, s.heap.size ≤ q → A q := fun q h => by rw [← hAe]; exact Or.inr h
  have hP : va_P (dC, dI) vwCl [(h0, .inr (0, [.ref a1, .ref a2, .ref a3, .int (nI N), .int fa])), (a1, .inl (k1, 400, .inl (pm_nf9 cn))), (a2, .inl (k2, 8000, .inl fl)), (a3, .inl (k3, 16, .inl rt))] s.heap := hP
  have hl := lv_entry ([.ref h0, .int p0]) (n := 2) (Nat.le_of_ble_eq_true rfl)
  rw [lg_entry_eq]
  generalize (lg_sl ([.ref h0, .int p0]) ++ List.replicate (2 - (lg_sl ([.ref h0, .int p0])).length) Slot.unset).toArray = ls at hl ⊢
  have hl : lv_has ls 2 [(0, .ref h0), (1, .int p0)] := hl
  obtain ⟨H, hH⟩ : ∃ H : Heap, H = s.heap := ⟨_, rfl⟩
  rw [← hH]
  rw [← hH] at hP
  have hS : va_S A s.heap H [] := by rw [hH]; exact va_S.rf
  clear hH
  refine lv_iload_n hx hb dX0_has_0 rfl (lv_at hl 1 rfl) ?_
  refine lv_if_lt (tgt := 16) hx hb dX0_has_1 (by decide) (fun c_1 => ?_) (fun c_1 => ?_)
  · refine lv_iconst (v := nI 0) hx hb dX0_has_16 (by decide +kernel) ?_
    exact W.zret (v := nI 0) hx hb hr (by decide +kernel) (fun t ht hW => ⟨⟨nI 0, (), rfl, pm_h1 c_1, by rw [ht]; exact hP, va_K.moved hW.alike hK, hD⟩, hS.F ht⟩) hS.2.2 dX0_has_17
  · refine lv_iload_n hx hb dX0_has_4 rfl (lv_at hl 1 rfl) ?_
    refine lv_aload_n hx hb dX0_has_5 rfl (lv_at hl 0 rfl) ?_
    refine va_get (D := (dC, dI)) (ci := 0) (v := .int (nI N)) (C := RX0) (T := TX0) (N := 5) hx hb hts iw_X0 hown hK hP 0 rfl rfl 3 (by decide) (hts _ mf_X0_21) (fun _ h9 => h9) rfl dX0_has_6 ?_
    refine lv_icmp_ge (tgt := 16) hx hb dX0_has_9 (by decide) (fun c_9 => ?_) (fun c_9 => ?_)
    · refine lv_iconst (v := nI 0) hx hb dX0_has_16 (by decide +kernel) ?_
      exact W.zret (v := nI 0) hx hb hr (by decide +kernel) (fun t ht hW => ⟨⟨nI 0, (), rfl, pm_h2 c_9, by rw [ht]; exact hP, va_K.moved hW.alike hK, hD⟩, hS.F ht⟩) hS.2.2 dX0_has_17
    · refine lv_iconst (v := nI 1) hx hb dX0_has_12 (by decide +kernel) ?_
      refine lv_goto (tgt := 17) hx hb dX0_has_13 (by decide) ?_
      exact W.zret (v := nI 1) hx hb hr (by decide +kernel) (fun t ht hW => ⟨⟨nI 1, (), rfl, pm_h3 c_1 c_9, by rw [ht]; exact hP, va_K.moved hW.alike hK, hD⟩, hS.F ht⟩) hS.2.2 dX0_has_17

set_option maxHeartbeats 4000000 in
set_option maxRecDepth 100000 in
/-- Heap.hasRoot(i) -/
theorem c_H_hasRoot (l : Launch) (dC : Nat → ClassId) (dI : Nat → Nat → Nat) (h0 a1 a2 a3 : Nat) (k1 k2 k3 : ClassId) (N : Nat) (cn : Nat → Nat) (fl rt : Nat → Int32) (fa : Int32) (p0 : Int32) (sz : Nat)  : Met l yX0_hasRoot wsX0_hasRoot ({ frames := 0, cells := 0, slots := 0, locals := 0 }) (va_Pc [.ref h0, .int p0] (fun U => U.heap.size = sz ∧ va_P (dC, dI) vwCl [(h0, .inr (0, [.ref a1, .ref a2, .ref a3, .int (nI N), .int fa])), (a1, .inl (k1, 400, .inl (pm_nf9 cn))), (a2, .inl (k2, 8000, .inl fl)), (a3, .inl (k3, 16, .inl rt))] U.heap ∧ va_K (dC, dI) vwCl [(k1, .int), (k2, .int), (k3, .int)] U ∧ va_D (fun _ => True) [(h0, .inr (0, [.ref a1, .ref a2, .ref a3, .int (nI N), .int fa])), (a1, .inl (k1, 400, .inl (pm_nf9 cn))), (a2, .inl (k2, 8000, .inl fl)), (a3, .inl (k3, 16, .inl rt))])) (va_Qi (fun (r : Int32) (_ : Unit) => r = pm_b (pm_has 16 p0)) (fun (_ : Unit) (t : State) => va_P (dC, dI) vwCl [(h0, .inr (0, [.ref a1, .ref a2, .ref a3, .int (nI N), .int fa])), (a1, .inl (k1, 400, .inl (pm_nf9 cn))), (a2, .inl (k2, 8000, .inl fl)), (a3, .inl (k3, 16, .inl rt))] t.heap ∧ va_K (dC, dI) vwCl [(k1, .int), (k2, .int), (k3, .int)] t ∧ va_D (va_A [(h0, .inr (0, [.ref a1, .ref a2, .ref a3, .int (nI N), .int fa])), (a1, .inl (k1, 400, .inl (pm_nf9 cn))), (a2, .inl (k2, 8000, .inl fl)), (a3, .inl (k3, 16, .inl rt))] sz) [(h0, .inr (0, [.ref a1, .ref a2, .ref a3, .int (nI N), .int fa])), (a1, .inl (k1, 400, .inl (pm_nf9 cn))), (a2, .inl (k2, 8000, .inl fl)), (a3, .inl (k3, 16, .inl rt))]) (va_A [(h0, .inr (0, [.ref a1, .ref a2, .ref a3, .int (nI N), .int fa])), (a1, .inl (k1, 400, .inl (pm_nf9 cn))), (a2, .inl (k2, 8000, .inl fl)), (a3, .inl (k3, 16, .inl rt))] sz)) 0 0 (va_A [(h0, .inr (0, [.ref a1, .ref a2, .ref a3, .int (nI N), .int fa])), (a1, .inl (k1, 400, .inl (pm_nf9 cn))), (a2, .inl (k2, 8000, .inl fl)), (a3, .inl (k3, 16, .inl rt))] sz) := by
  refine Met.ofW (cc := cX0_hasRoot) (maxL := 2) (ret := (some .boolean)) (by decide) rfl ?_
  intro p e s m args below meth c s₁ B hml hv
  obtain ⟨rfl, hsz, hP, hK, hD0⟩ := hv
  have hx := B.exec
  have hb := B.bytes
  have hr := B.returns
  have hts : ∀ w ∈ gw, w.before _ s = true := fun w h => atoms_spec (ws := wsX0_hasRoot) B.pre w (List.mem_cons_of_mem _ h)
  have hown : s.vm.findClass RX0 = some m.cls := findClass_of_methodNamed B.named
  have hlocks := B.notSynchronized
  subst hsz
  have hD := hD0.self (sz := s.heap.size)
  generalize hAe : va_A [(h0, .inr (0, [.ref a1, .ref a2, .ref a3, .int (nI N), .int fa])), (a1, .inl (k1, 400, .inl (pm_nf9 cn))), (a2, .inl (k2, 8000, .inl fl)), (a3, .inl (k3, 16, .inl rt))] s.heap.size = A at hD ⊢
  have hA : ∀ q : Nat, s.heap.size ≤ q → A q := fun q h => by rw [← hAe]; exact Or.inr h
  have hP : va_P (dC, dI) vwCl [(h0, .inr (0, [.ref a1, .ref a2, .ref a3, .int (nI N), .int fa])), (a1, .inl (k1, 400, .inl (pm_nf9 cn))), (a2, .inl (k2, 8000, .inl fl)), (a3, .inl (k3, 16, .inl rt))] s.heap := hP
  have hl := lv_entry ([.ref h0, .int p0]) (n := 2) (Nat.le_of_ble_eq_true rfl)
  rw [lg_entry_eq]
  generalize (lg_sl ([.ref h0, .int p0]) ++ List.replicate (2 - (lg_sl ([.ref h0, .int p0])).length) Slot.unset).toArray = ls at hl ⊢
  have hl : lv_has ls 2 [(0, .ref h0), (1, .int p0)] := hl
  obtain ⟨H, hH⟩ : ∃ H : Heap, H = s.heap := ⟨_, rfl⟩
  rw [← hH]
  rw [← hH] at hP
  have hS : va_S A s.heap H [] := by rw [hH]; exact va_S.rf
  clear hH
  refine lv_iload_n hx hb dX0_hasRoot_0 rfl (lv_at hl 1 rfl) ?_
  refine lv_if_lt (tgt := 14) hx hb dX0_hasRoot_1 (by decide) (fun c_1 => ?_) (fun c_1 => ?_)
  · refine lv_iconst (v := nI 0) hx hb dX0_hasRoot_14 (by decide +kernel) ?_
    exact W.zret (v := nI 0) hx hb hr (by decide +kernel) (fun t ht hW => ⟨⟨nI 0, (), rfl, pm_h1 c_1, by rw [ht]; exact hP, va_K.moved hW.alike hK, hD⟩, hS.F ht⟩) hS.2.2 dX0_hasRoot_15
  · refine lv_iload_n hx hb dX0_hasRoot_4 rfl (lv_at hl 1 rfl) ?_
    refine lv_bipush (v := nI 16) hx hb dX0_hasRoot_5 (by decide +kernel) ?_
    refine lv_icmp_ge (tgt := 14) hx hb dX0_hasRoot_7 (by decide) (fun c_7 => ?_) (fun c_7 => ?_)
    · refine lv_iconst (v := nI 0) hx hb dX0_hasRoot_14 (by decide +kernel) ?_
      exact W.zret (v := nI 0) hx hb hr (by decide +kernel) (fun t ht hW => ⟨⟨nI 0, (), rfl, pm_h2 c_7, by rw [ht]; exact hP, va_K.moved hW.alike hK, hD⟩, hS.F ht⟩) hS.2.2 dX0_hasRoot_15
    · refine lv_iconst (v := nI 1) hx hb dX0_hasRoot_10 (by decide +kernel) ?_
      refine lv_goto (tgt := 15) hx hb dX0_hasRoot_11 (by decide) ?_
      exact W.zret (v := nI 1) hx hb hr (by decide +kernel) (fun t ht hW => ⟨⟨nI 1, (), rfl, pm_h3 c_1 c_7, by rw [ht]; exact hP, va_K.moved hW.alike hK, hD⟩, hS.F ht⟩) hS.2.2 dX0_hasRoot_15

set_option maxHeartbeats 4000000 in
set_option maxRecDepth 100000 in
/-- Heap.hasOrIsNone(k) -/
theorem c_H_hasOrIsNone (l : Launch) (dC : Nat → ClassId) (dI : Nat → Nat → Nat) (h0 a1 a2 a3 : Nat) (k1 k2 k3 : ClassId) (N : Nat) (cn : Nat → Nat) (fl rt : Nat → Int32) (fa : Int32) (p0 : Int32) (sz : Nat)  : Met l yX0_hasOrIsNone wsX0_hasOrIsNone ({ frames := 1, cells := 0, slots := 0, locals := 21 }) (va_Pc [.ref h0, .int p0] (fun U => U.heap.size = sz ∧ va_P (dC, dI) vwCl [(h0, .inr (0, [.ref a1, .ref a2, .ref a3, .int (nI N), .int fa])), (a1, .inl (k1, 400, .inl (pm_nf9 cn))), (a2, .inl (k2, 8000, .inl fl)), (a3, .inl (k3, 16, .inl rt))] U.heap ∧ va_K (dC, dI) vwCl [(k1, .int), (k2, .int), (k3, .int)] U ∧ va_D (fun _ => True) [(h0, .inr (0, [.ref a1, .ref a2, .ref a3, .int (nI N), .int fa])), (a1, .inl (k1, 400, .inl (pm_nf9 cn))), (a2, .inl (k2, 8000, .inl fl)), (a3, .inl (k3, 16, .inl rt))])) (va_Qi (fun (r : Int32) (_ : Unit) => r = pm_b (decide (p0 = -1) || pm_has N p0)) (fun (_ : Unit) (t : State) => va_P (dC, dI) vwCl [(h0, .inr (0, [.ref a1, .ref a2, .ref a3, .int (nI N), .int fa])), (a1, .inl (k1, 400, .inl (pm_nf9 cn))), (a2, .inl (k2, 8000, .inl fl)), (a3, .inl (k3, 16, .inl rt))] t.heap ∧ va_K (dC, dI) vwCl [(k1, .int), (k2, .int), (k3, .int)] t ∧ va_D (va_A [(h0, .inr (0, [.ref a1, .ref a2, .ref a3, .int (nI N), .int fa])), (a1, .inl (k1, 400, .inl (pm_nf9 cn))), (a2, .inl (k2, 8000, .inl fl)), (a3, .inl (k3, 16, .inl rt))] sz) [(h0, .inr (0, [.ref a1, .ref a2, .ref a3, .int (nI N), .int fa])), (a1, .inl (k1, 400, .inl (pm_nf9 cn))), (a2, .inl (k2, 8000, .inl fl)), (a3, .inl (k3, 16, .inl rt))]) (va_A [(h0, .inr (0, [.ref a1, .ref a2, .ref a3, .int (nI N), .int fa])), (a1, .inl (k1, 400, .inl (pm_nf9 cn))), (a2, .inl (k2, 8000, .inl fl)), (a3, .inl (k3, 16, .inl rt))] sz)) 0 0 (va_A [(h0, .inr (0, [.ref a1, .ref a2, .ref a3, .int (nI N), .int fa])), (a1, .inl (k1, 400, .inl (pm_nf9 cn))), (a2, .inl (k2, 8000, .inl fl)), (a3, .inl (k3, 16, .inl rt))] sz) := by
  refine Met.ofW (cc := cX0_hasOrIsNone) (maxL := 2) (ret := (some .boolean)) (by decide) rfl ?_
  intro p e s m args below meth c s₁ B hml hv
  obtain ⟨rfl, hsz, hP, hK, hD0⟩ := hv
  have hx := B.exec
  have hb := B.bytes
  have hr := B.returns
  have hts : ∀ w ∈ gw, w.before _ s = true := fun w h => atoms_spec (ws := wsX0_hasOrIsNone) B.pre w (List.mem_cons_of_mem _ h)
  have hown : s.vm.findClass RX0 = some m.cls := findClass_of_methodNamed B.named
  have hlocks := B.notSynchronized
  subst hsz
  have hD := hD0.self (sz := s.heap.size)
  generalize hAe : va_A [(h0, .inr (0, [.ref a1, .ref a2, .ref a3, .int (nI N), .int fa])), (a1, .inl (k1, 400, .inl (pm_nf9 cn))), (a2, .inl (k2, 8000, .inl fl)), (a3, .inl (k3, 16, .inl rt))] s.heap.size = A at hD ⊢
  have hA : ∀ q : Nat, s.heap.size ≤ q → A q := fun q h => by rw [← hAe]; exact Or.inr h
  have hP : va_P (dC, dI) vwCl [(h0, .inr (0, [.ref a1, .ref a2, .ref a3, .int (nI N), .int fa])), (a1, .inl (k1, 400, .inl (pm_nf9 cn))), (a2, .inl (k2, 8000, .inl fl)), (a3, .inl (k3, 16, .inl rt))] s.heap := hP
  have hl := lv_entry ([.ref h0, .int p0]) (n := 2) (Nat.le_of_ble_eq_true rfl)
  rw [lg_entry_eq]
  generalize (lg_sl ([.ref h0, .int p0]) ++ List.replicate (2 - (lg_sl ([.ref h0, .int p0])).length) Slot.unset).toArray = ls at hl ⊢
  have hl : lv_has ls 2 [(0, .ref h0), (1, .int p0)] := hl
  obtain ⟨H, hH⟩ : ∃ H : Heap, H = s.heap := ⟨_, rfl⟩
  rw [← hH]
  rw [← hH] at hP
  have hS : va_S A s.heap H [] := by rw [hH]; exact va_S.rf
  clear hH
  refine lv_iload_n hx hb dX0_hasOrIsNone_0 rfl (lv_at hl 1 rfl) ?_
  refine lv_iconst (v := -1) hx hb dX0_hasOrIsNone_1 (by decide +kernel) ?_
  refine lv_icmp_eq (tgt := 13) hx hb dX0_hasOrIsNone_2 (by decide) (fun c_2 => ?_) (fun c_2 => ?_)
  · refine lv_iconst (v := nI 1) hx hb dX0_hasOrIsNone_13 (by decide +kernel) ?_
    refine lv_goto (tgt := 18) hx hb dX0_hasOrIsNone_14 (by decide) ?_
    exact W.zret (v := nI 1) hx hb hr (by decide +kernel) (fun t ht hW => ⟨⟨nI 1, (), rfl, pm_h4 c_2, by rw [ht]; exact hP, va_K.moved hW.alike hK, hD⟩, hS.F ht⟩) hS.2.2 dX0_hasOrIsNone_18
  · refine lv_aload_n hx hb dX0_hasOrIsNone_5 rfl (lv_at hl 0 rfl) ?_
    refine lv_iload_n hx hb dX0_hasOrIsNone_6 rfl (lv_at hl 1 rfl) ?_
    have hPc := hP.sub (ws' := [(h0, .inr (0, [.ref a1, .ref a2, .ref a3, .int (nI N), .int fa])), (a1, .inl (k1, 400, .inl (pm_nf9 cn))), (a2, .inl (k2, 8000, .inl fl)), (a3, .inl (k3, 16, .inl rt))]) [0, 1, 2, 3] rfl
    have hDc := hD.sub (ws' := [(h0, .inr (0, [.ref a1, .ref a2, .ref a3, .int (nI N), .int fa])), (a1, .inl (k1, 400, .inl (pm_nf9 cn))), (a2, .inl (k2, 8000, .inl fl)), (a3, .inl (k3, 16, .inl rt))]) [0, 1, 2, 3] (by decide) rfl
    have hKc := hK.sub (tys' := [(k1, .int), (k2, .int), (k3, .int)]) [0, 1, 2] rfl
    have hFc := va_free (wc := [(h0, .inr (0, [.ref a1, .ref a2, .ref a3, .int (nI N), .int fa])), (a1, .inl (k1, 400, .inl (pm_nf9 cn))), (a2, .inl (k2, 8000, .inl fl)), (a3, .inl (k3, 16, .inl rt))]) hD hS hA [0, 1, 2, 3] rfl
    refine va_calli (va_runV (As := [.int p0]) (rest := []) ⟨hx, hb, hml, hown, hts⟩ (c_H_has l dC dI h0 a1 a2 a3 k1 k2 k3 N cn fl rt fa p0 H.size) (cwV 1 hts (gw_V ml_X0_28 mi_X0_has ms_X0_has mn_X0 mc_X0_has) rfl rfl rfl (by decide +kernel) ⟨Nat.le_of_ble_eq_true rfl, Nat.le_of_ble_eq_true rfl⟩) ⟨fun a U g mk q => by obtain ⟨q0, q1, qP, qK, qD⟩ := q; exact ⟨q0, q1, qP, va_K.moved (u := U) (U := U.calling g mk a) (Vm.Alike.refl U.vm) qK, qD⟩, va_recv hKc hPc (ci := 0) (q0 := 0) rfl rfl, fun U hU hW => ⟨rfl, by rw [hU], by rw [hU]; exact hPc, va_K.moved hW.alike hKc, hDc.weaken (fun _ _ _ _ => trivial)⟩⟩ rfl rfl hl.1 rfl (lv_room (Nat.le_of_ble_eq_true rfl)) dX0_hasOrIsNone_7 ⟨Nat.le_of_ble_eq_true rfl, Nat.le_of_ble_eq_true rfl⟩) hS (fun q _ h => hFc q h) hFc (fun r_1 u t H1 locs ht hvm hw hB hz1 hk1 hS => ?_)
    obtain ⟨hP1, hK1, hD1⟩ := hB
    rw [ht] at hP1
    have hK1 := va_K.moved hvm.symm hK1
    obtain ⟨hP, hD⟩ := va_join (wr := []) (w1 := [(h0, .inr (0, [.ref a1, .ref a2, .ref a3, .int (nI N), .int fa])), (a1, .inl (k1, 400, .inl (pm_nf9 cn))), (a2, .inl (k2, 8000, .inl fl)), (a3, .inl (k3, 16, .inl rt))]) hP hD [0, 1, 2, 3] [] rfl rfl (by decide) (by decide) hk1 hFc hP1 hD1
    clear hPc hDc hKc hFc hP1 hK1 hD1
    generalize H1 = H at hP hS ⊢
    have hP : va_P (dC, dI) vwCl [(h0, .inr (0, [.ref a1, .ref a2, .ref a3, .int (nI N), .int fa])), (a1, .inl (k1, 400, .inl (pm_nf9 cn))), (a2, .inl (k2, 8000, .inl fl)), (a3, .inl (k3, 16, .inl rt))] H := hP.sub [0, 1, 2, 3] rfl
    have hD : va_D A [(h0, .inr (0, [.ref a1, .ref a2, .ref a3, .int (nI N), .int fa])), (a1, .inl (k1, 400, .inl (pm_nf9 cn))), (a2, .inl (k2, 8000, .inl fl)), (a3, .inl (k3, 16, .inl rt))] := hD.sub [0, 1, 2, 3] (by decide) rfl
    rcases pm_tf (pm_has N p0) with hh_7 | hh_7
    · obtain rfl : r_1 = nI 1 := hw.trans (by rw [hh_7]; rfl)
      refine lv_if_eq (tgt := 17) hx hb dX0_hasOrIsNone_10 (by decide) (fun c_10 => absurd c_10 (by decide +kernel)) (fun c_10 => ?_)
      refine lv_iconst (v := nI 1) hx hb dX0_hasOrIsNone_13 (by decide +kernel) ?_
      refine lv_goto (tgt := 18) hx hb dX0_hasOrIsNone_14 (by decide) ?_
      exact W.zret (v := nI 1) hx hb hr (by decide +kernel) (fun t ht hW => ⟨⟨nI 1, (), rfl, pm_h5 c_2 hh_7, by rw [ht]; exact hP, va_K.moved hW.alike hK, hD⟩, hS.F ht⟩) hS.2.2 dX0_hasOrIsNone_18
    · obtain rfl : r_1 = nI 0 := hw.trans (by rw [hh_7]; rfl)
      refine lv_if_eq (tgt := 17) hx hb dX0_hasOrIsNone_10 (by decide) (fun c_10 => ?_) (fun c_10 => absurd c_10 (by decide +kernel))
      refine lv_iconst (v := nI 0) hx hb dX0_hasOrIsNone_17 (by decide +kernel) ?_
      exact W.zret (v := nI 0) hx hb hr (by decide +kernel) (fun t ht hW => ⟨⟨nI 0, (), rfl, pm_h6 c_2 hh_7, by rw [ht]; exact hP, va_K.moved hW.alike hK, hD⟩, hS.F ht⟩) hS.2.2 dX0_hasOrIsNone_18

set_option maxHeartbeats 4000000 in
set_option maxRecDepth 100000 in
/-- Heap.hasField(k, field) -/
theorem c_H_hasField (l : Launch) (dC : Nat → ClassId) (dI : Nat → Nat → Nat) (h0 a1 a2 a3 : Nat) (k1 k2 k3 : ClassId) (N : Nat) (cn : Nat → Nat) (fl rt : Nat → Int32) (fa : Int32) (p0 p1 : Int32) (sz : Nat) (hN : N ≤ 400) : Met l yX0_hasField wsX0_hasField ({ frames := 1, cells := 0, slots := 0, locals := 21 }) (va_Pc [.ref h0, .int p0, .int p1] (fun U => U.heap.size = sz ∧ va_P (dC, dI) vwCl [(h0, .inr (0, [.ref a1, .ref a2, .ref a3, .int (nI N), .int fa])), (a1, .inl (k1, 400, .inl (pm_nf9 cn))), (a2, .inl (k2, 8000, .inl fl)), (a3, .inl (k3, 16, .inl rt))] U.heap ∧ va_K (dC, dI) vwCl [(k1, .int), (k2, .int), (k3, .int)] U ∧ va_D (fun _ => True) [(h0, .inr (0, [.ref a1, .ref a2, .ref a3, .int (nI N), .int fa])), (a1, .inl (k1, 400, .inl (pm_nf9 cn))), (a2, .inl (k2, 8000, .inl fl)), (a3, .inl (k3, 16, .inl rt))])) (va_Qi (fun (r : Int32) (_ : Unit) => r = pm_b (pm_hf N cn p0 p1)) (fun (_ : Unit) (t : State) => va_P (dC, dI) vwCl [(h0, .inr (0, [.ref a1, .ref a2, .ref a3, .int (nI N), .int fa])), (a1, .inl (k1, 400, .inl (pm_nf9 cn))), (a2, .inl (k2, 8000, .inl fl)), (a3, .inl (k3, 16, .inl rt))] t.heap ∧ va_K (dC, dI) vwCl [(k1, .int), (k2, .int), (k3, .int)] t ∧ va_D (va_A [(h0, .inr (0, [.ref a1, .ref a2, .ref a3, .int (nI N), .int fa])), (a1, .inl (k1, 400, .inl (pm_nf9 cn))), (a2, .inl (k2, 8000, .inl fl)), (a3, .inl (k3, 16, .inl rt))] sz) [(h0, .inr (0, [.ref a1, .ref a2, .ref a3, .int (nI N), .int fa])), (a1, .inl (k1, 400, .inl (pm_nf9 cn))), (a2, .inl (k2, 8000, .inl fl)), (a3, .inl (k3, 16, .inl rt))]) (va_A [(h0, .inr (0, [.ref a1, .ref a2, .ref a3, .int (nI N), .int fa])), (a1, .inl (k1, 400, .inl (pm_nf9 cn))), (a2, .inl (k2, 8000, .inl fl)), (a3, .inl (k3, 16, .inl rt))] sz)) 0 0 (va_A [(h0, .inr (0, [.ref a1, .ref a2, .ref a3, .int (nI N), .int fa])), (a1, .inl (k1, 400, .inl (pm_nf9 cn))), (a2, .inl (k2, 8000, .inl fl)), (a3, .inl (k3, 16, .inl rt))] sz) := by
  refine Met.ofW (cc := cX0_hasField) (maxL := 3) (ret := (some .boolean)) (by decide) rfl ?_
  intro p e s m args below meth c s₁ B hml hv
  obtain ⟨rfl, hsz, hP, hK, hD0⟩ := hv
  have hx := B.exec
  have hb := B.bytes
  have hr := B.returns
  have hts : ∀ w ∈ gw, w.before _ s = true := fun w h => atoms_spec (ws := wsX0_hasField) B.pre w (List.mem_cons_of_mem _ h)
  have hown : s.vm.findClass RX0 = some m.cls := findClass_of_methodNamed B.named
  have hlocks := B.notSynchronized
  subst hsz
  have hD := hD0.self (sz := s.heap.size)
  generalize hAe : va_A [(h0, .inr (0, [.ref a1, .ref a2, .ref a3, .int (nI N), .int fa])), (a1, .inl (k1, 400, .inl (pm_nf9 cn))), (a2, .inl (k2, 8000, .inl fl)), (a3, .inl (k3, 16, .inl rt))] s.heap.size = A at hD ⊢
  have hA : ∀ q : Nat, s.heap.size ≤ q → A q := fun q h => by rw [← hAe]; exact Or.inr h
  have hP : va_P (dC, dI) vwCl [(h0, .inr (0, [.ref a1, .ref a2, .ref a3, .int (nI N), .int fa])), (a1, .inl (k1, 400, .inl (pm_nf9 cn))), (a2, .inl (k2, 8000, .inl fl)), (a3, .inl (k3, 16, .inl rt))] s.heap := hP
  have hl := lv_entry ([.ref h0, .int p0, .int p1]) (n := 3) (Nat.le_of_ble_eq_true rfl)
  rw [lg_entry_eq]
  generalize (lg_sl ([.ref h0, .int p0, .int p1]) ++ List.replicate (3 - (lg_sl ([.ref h0, .int p0, .int p1])).length) Slot.unset).toArray = ls at hl ⊢
  have hl : lv_has ls 3 [(0, .ref h0), (1, .int p0), (2, .int p1)] := hl
  obtain ⟨H, hH⟩ : ∃ H : Heap, H = s.heap := ⟨_, rfl⟩
  rw [← hH]
  rw [← hH] at hP
  have hS : va_S A s.heap H [] := by rw [hH]; exact va_S.rf
  clear hH
  refine lv_aload_n hx hb dX0_hasField_0 rfl (lv_at hl 0 rfl) ?_
  refine lv_iload_n hx hb dX0_hasField_1 rfl (lv_at hl 1 rfl) ?_
  have hPc := hP.sub (ws' := [(h0, .inr (0, [.ref a1, .ref a2, .ref a3, .int (nI N), .int fa])), (a1, .inl (k1, 400, .inl (pm_nf9 cn))), (a2, .inl (k2, 8000, .inl fl)), (a3, .inl (k3, 16, .inl rt))]) [0, 1, 2, 3] rfl
  have hDc := hD.sub (ws' := [(h0, .inr (0, [.ref a1, .ref a2, .ref a3, .int (nI N), .int fa])), (a1, .inl (k1, 400, .inl (pm_nf9 cn))), (a2, .inl (k2, 8000, .inl fl)), (a3, .inl (k3, 16, .inl rt))]) [0, 1, 2, 3] (by decide) rfl
  have hKc := hK.sub (tys' := [(k1, .int), (k2, .int), (k3, .int)]) [0, 1, 2] rfl
  have hFc := va_free (wc := [(h0, .inr (0, [.ref a1, .ref a2, .ref a3, .int (nI N), .int fa])), (a1, .inl (k1, 400, .inl (pm_nf9 cn))), (a2, .inl (k2, 8000, .inl fl)), (a3, .inl (k3, 16, .inl rt))]) hD hS hA [0, 1, 2, 3] rfl
  refine va_calli (va_runV (As := [.int p0]) (rest := []) ⟨hx, hb, hml, hown, hts⟩ (c_H_has l dC dI h0 a1 a2 a3 k1 k2 k3 N cn fl rt fa p0 H.size) (cwV 1 hts (gw_V ml_X0_28 mi_X0_has ms_X0_has mn_X0 mc_X0_has) rfl rfl rfl (by decide +kernel) ⟨Nat.le_of_ble_eq_true rfl, Nat.le_of_ble_eq_true rfl⟩) ⟨fun a U g mk q => by obtain ⟨q0, q1, qP, qK, qD⟩ := q; exact ⟨q0, q1, qP, va_K.moved (u := U) (U := U.calling g mk a) (Vm.Alike.refl U.vm) qK, qD⟩, va_recv hKc hPc (ci := 0) (q0 := 0) rfl rfl, fun U hU hW => ⟨rfl, by rw [hU], by rw [hU]; exact hPc, va_K.moved hW.alike hKc, hDc.weaken (fun _ _ _ _ => trivial)⟩⟩ rfl rfl hl.1 rfl (lv_room (Nat.le_of_ble_eq_true rfl)) dX0_hasField_2 ⟨Nat.le_of_ble_eq_true rfl, Nat.le_of_ble_eq_true rfl⟩) hS (fun q _ h => hFc q h) hFc (fun r_1 u t H1 locs ht hvm hw hB hz1 hk1 hS => ?_)
  obtain ⟨hP1, hK1, hD1⟩ := hB
  rw [ht] at hP1
  have hK1 := va_K.moved hvm.symm hK1
  obtain ⟨hP, hD⟩ := va_join (wr := []) (w1 := [(h0, .inr (0, [.ref a1, .ref a2, .ref a3, .int (nI N), .int fa])), (a1, .inl (k1, 400, .inl (pm_nf9 cn))), (a2, .inl (k2, 8000, .inl fl)), (a3, .inl (k3, 16, .inl rt))]) hP hD [0, 1, 2, 3] [] rfl rfl (by decide) (by decide) hk1 hFc hP1 hD1
  clear hPc hDc hKc hFc hP1 hK1 hD1
  generalize H1 = H at hP hS ⊢
  have hP : va_P (dC, dI) vwCl [(h0, .inr (0, [.ref a1, .ref a2, .ref a3, .int (nI N), .int fa])), (a1, .inl (k1, 400, .inl (pm_nf9 cn))), (a2, .inl (k2, 8000, .inl fl)), (a3, .inl (k3, 16, .inl rt))] H := hP.sub [0, 1, 2, 3] rfl
  have hD : va_D A [(h0, .inr (0, [.ref a1, .ref a2, .ref a3, .int (nI N), .int fa])), (a1, .inl (k1, 400, .inl (pm_nf9 cn))), (a2, .inl (k2, 8000, .inl fl)), (a3, .inl (k3, 16, .inl rt))] := hD.sub [0, 1, 2, 3] (by decide) rfl
  rcases pm_tf (pm_has N p0) with hh_2 | hh_2
  · obtain rfl : r_1 = nI 1 := hw.trans (by rw [hh_2]; rfl)
    have hj := pm_has_cl (by omega) hh_2
    refine lv_if_eq (tgt := 26) hx hb dX0_hasField_5 (by decide) (fun c_5 => absurd c_5 (by decide +kernel)) (fun c_5 => ?_)
    refine lv_iload_n hx hb dX0_hasField_8 rfl (lv_at hl 2 rfl) ?_
    refine lv_if_lt (tgt := 26) hx hb dX0_hasField_9 (by decide) (fun c_9 => ?_) (fun c_9 => ?_)
    · refine lv_iconst (v := nI 0) hx hb dX0_hasField_26 (by decide +kernel) ?_
      exact W.zret (v := nI 0) hx hb hr (by decide +kernel) (fun t ht hW => ⟨⟨nI 0, (), rfl, pm_h8 hh_2 c_9, by rw [ht]; exact hP, va_K.moved hW.alike hK, hD⟩, hS.F ht⟩) hS.2.2 dX0_hasField_27
    · refine lv_iload_n hx hb dX0_hasField_12 rfl (lv_at hl 2 rfl) ?_
      refine lv_aload_n hx hb dX0_hasField_13 rfl (lv_at hl 0 rfl) ?_
      refine va_get (D := (dC, dI)) (ci := 0) (v := .ref a1) (C := RX0) (T := TX0) (N := 5) hx hb hts iw_X0 hown hK hP 0 rfl rfl 0 (by decide) (hts _ mf_X0_9) (fun _ h9 => h9) rfl dX0_hasField_14 ?_
      refine lv_iload_n hx hb dX0_hasField_17 rfl (lv_at hl 1 rfl) ?_
      refine va_iald hx hb hK hP 1 0 rfl rfl (pm_has_in hN (by omega) hh_2) dX0_hasField_18 ?_
      refine lv_topi (fun x_2 ex_2 => ?_)
      subst ex_2
      refine lv_icmp_ge (tgt := 26) hx hb dX0_hasField_19 (by decide) (fun c_19 => ?_) (fun c_19 => ?_)
      · refine lv_iconst (v := nI 0) hx hb dX0_hasField_26 (by decide +kernel) ?_
        exact W.zret (v := nI 0) hx hb hr (by decide +kernel) (fun t ht hW => ⟨⟨nI 0, (), rfl, pm_h9 hh_2 c_19, by rw [ht]; exact hP, va_K.moved hW.alike hK, hD⟩, hS.F ht⟩) hS.2.2 dX0_hasField_27
      · refine lv_iconst (v := nI 1) hx hb dX0_hasField_22 (by decide +kernel) ?_
        refine lv_goto (tgt := 27) hx hb dX0_hasField_23 (by decide) ?_
        exact W.zret (v := nI 1) hx hb hr (by decide +kernel) (fun t ht hW => ⟨⟨nI 1, (), rfl, pm_h10 hh_2 c_9 c_19, by rw [ht]; exact hP, va_K.moved hW.alike hK, hD⟩, hS.F ht⟩) hS.2.2 dX0_hasField_27
  · obtain rfl : r_1 = nI 0 := hw.trans (by rw [hh_2]; rfl)
    refine lv_if_eq (tgt := 26) hx hb dX0_hasField_5 (by decide) (fun c_5 => ?_) (fun c_5 => absurd c_5 (by decide +kernel))
    refine lv_iconst (v := nI 0) hx hb dX0_hasField_26 (by decide +kernel) ?_
    exact W.zret (v := nI 0) hx hb hr (by decide +kernel) (fun t ht hW => ⟨⟨nI 0, (), rfl, pm_h7 hh_2, by rw [ht]; exact hP, va_K.moved hW.alike hK, hD⟩, hS.F ht⟩) hS.2.2 dX0_hasField_27

set_option maxHeartbeats 4000000 in
set_option maxRecDepth 100000 in
/-- Heap.fieldOf(k, field) -/
theorem c_H_fieldOf (l : Launch) (dC : Nat → ClassId) (dI : Nat → Nat → Nat) (h0 a1 a2 a3 : Nat) (k1 k2 k3 : ClassId) (N : Nat) (cn : Nat → Nat) (fl rt : Nat → Int32) (fa : Int32) (p0 p1 : Int32) (sz : Nat) (hN : N ≤ 400) (hc : ∀ k, k < N → cn k ≤ 20) : Met l yX0_fieldOf wsX0_fieldOf ({ frames := 2, cells := 0, slots := 0, locals := 43 }) (va_Pc [.ref h0, .int p0, .int p1] (fun U => U.heap.size = sz ∧ va_P (dC, dI) vwCl [(h0, .inr (0, [.ref a1, .ref a2, .ref a3, .int (nI N), .int fa])), (a1, .inl (k1, 400, .inl (pm_nf9 cn))), (a2, .inl (k2, 8000, .inl fl)), (a3, .inl (k3, 16, .inl rt))] U.heap ∧ va_K (dC, dI) vwCl [(k1, .int), (k2, .int), (k3, .int)] U ∧ va_D (fun _ => True) [(h0, .inr (0, [.ref a1, .ref a2, .ref a3, .int (nI N), .int fa])), (a1, .inl (k1, 400, .inl (pm_nf9 cn))), (a2, .inl (k2, 8000, .inl fl)), (a3, .inl (k3, 16, .inl rt))])) (va_Qi (fun (r : Int32) (_ : Unit) => r = pm_fo N cn fl p0 p1) (fun (_ : Unit) (t : State) => va_P (dC, dI) vwCl [(h0, .inr (0, [.ref a1, .ref a2, .ref a3, .int (nI N), .int fa])), (a1, .inl (k1, 400, .inl (pm_nf9 cn))), (a2, .inl (k2, 8000, .inl fl)), (a3, .inl (k3, 16, .inl rt))] t.heap ∧ va_K (dC, dI) vwCl [(k1, .int), (k2, .int), (k3, .int)] t ∧ va_D (va_A [(h0, .inr (0, [.ref a1, .ref a2, .ref a3, .int (nI N), .int fa])), (a1, .inl (k1, 400, .inl (pm_nf9 cn))), (a2, .inl (k2, 8000, .inl fl)), (a3, .inl (k3, 16, .inl rt))] sz) [(h0, .inr (0, [.ref a1, .ref a2, .ref a3, .int (nI N), .int fa])), (a1, .inl (k1, 400, .inl (pm_nf9 cn))), (a2, .inl (k2, 8000, .inl fl)), (a3, .inl (k3, 16, .inl rt))]) (va_A [(h0, .inr (0, [.ref a1, .ref a2, .ref a3, .int (nI N), .int fa])), (a1, .inl (k1, 400, .inl (pm_nf9 cn))), (a2, .inl (k2, 8000, .inl fl)), (a3, .inl (k3, 16, .inl rt))] sz)) 0 0 (va_A [(h0, .inr (0, [.ref a1, .ref a2, .ref a3, .int (nI N), .int fa])), (a1, .inl (k1, 400, .inl (pm_nf9 cn))), (a2, .inl (k2, 8000, .inl fl)), (a3, .inl (k3, 16, .inl rt))] sz) := by
  refine Met.ofW (cc := cX0_fieldOf) (maxL := 3) (ret := (some .int)) (by decide) rfl ?_
  intro p e s m args below meth c s₁ B hml hv
  obtain ⟨rfl, hsz, hP, hK, hD0⟩ := hv
  have hx := B.exec
  have hb := B.bytes
  have hr := B.returns
  have hts : ∀ w ∈ gw, w.before _ s = true := fun w h => atoms_spec (ws := wsX0_fieldOf) B.pre w (List.mem_cons_of_mem _ h)
  have hown : s.vm.findClass RX0 = some m.cls := findClass_of_methodNamed B.named
  have hlocks := B.notSynchronized
  subst hsz
  have hD := hD0.self (sz := s.heap.size)
  generalize hAe : va_A [(h0, .inr (0, [.ref a1, .ref a2, .ref a3, .int (nI N), .int fa])), (a1, .inl (k1, 400, .inl (pm_nf9 cn))), (a2, .inl (k2, 8000, .inl fl)), (a3, .inl (k3, 16, .inl rt))] s.heap.size = A at hD ⊢
  have hA : ∀ q : Nat, s.heap.size ≤ q → A q := fun q h => by rw [← hAe]; exact Or.inr h
  have hP : va_P (dC, dI) vwCl [(h0, .inr (0, [.ref a1, .ref a2, .ref a3, .int (nI N), .int fa])), (a1, .inl (k1, 400, .inl (pm_nf9 cn))), (a2, .inl (k2, 8000, .inl fl)), (a3, .inl (k3, 16, .inl rt))] s.heap := hP
  have hl := lv_entry ([.ref h0, .int p0, .int p1]) (n := 3) (Nat.le_of_ble_eq_true rfl)
  rw [lg_entry_eq]
  generalize (lg_sl ([.ref h0, .int p0, .int p1]) ++ List.replicate (3 - (lg_sl ([.ref h0, .int p0, .int p1])).length) Slot.unset).toArray = ls at hl ⊢
  have hl : lv_has ls 3 [(0, .ref h0), (1, .int p0), (2, .int p1)] := hl
  obtain ⟨H, hH⟩ : ∃ H : Heap, H = s.heap := ⟨_, rfl⟩
  rw [← hH]
  rw [← hH] at hP
  have hS : va_S A s.heap H [] := by rw [hH]; exact va_S.rf
  clear hH
  refine lv_aload_n hx hb dX0_fieldOf_0 rfl (lv_at hl 0 rfl) ?_
  refine lv_iload_n hx hb dX0_fieldOf_1 rfl (lv_at hl 1 rfl) ?_
  refine lv_iload_n hx hb dX0_fieldOf_2 rfl (lv_at hl 2 rfl) ?_
  have hPc := hP.sub (ws' := [(h0, .inr (0, [.ref a1, .ref a2, .ref a3, .int (nI N), .int fa])), (a1, .inl (k1, 400, .inl (pm_nf9 cn))), (a2, .inl (k2, 8000, .inl fl)), (a3, .inl (k3, 16, .inl rt))]) [0, 1, 2, 3] rfl
  have hDc := hD.sub (ws' := [(h0, .inr (0, [.ref a1, .ref a2, .ref a3, .int (nI N), .int fa])), (a1, .inl (k1, 400, .inl (pm_nf9 cn))), (a2, .inl (k2, 8000, .inl fl)), (a3, .inl (k3, 16, .inl rt))]) [0, 1, 2, 3] (by decide) rfl
  have hKc := hK.sub (tys' := [(k1, .int), (k2, .int), (k3, .int)]) [0, 1, 2] rfl
  have hFc := va_free (wc := [(h0, .inr (0, [.ref a1, .ref a2, .ref a3, .int (nI N), .int fa])), (a1, .inl (k1, 400, .inl (pm_nf9 cn))), (a2, .inl (k2, 8000, .inl fl)), (a3, .inl (k3, 16, .inl rt))]) hD hS hA [0, 1, 2, 3] rfl
  refine va_calli (va_runV (As := [.int p0, .int p1]) (rest := []) ⟨hx, hb, hml, hown, hts⟩ (c_H_hasField l dC dI h0 a1 a2 a3 k1 k2 k3 N cn fl rt fa p0 p1 H.size (hN)) (cwV 2 hts (gw_V ml_X0_36 mi_X0_hasField ms_X0_hasField mn_X0 mc_X0_hasField) rfl rfl rfl (by decide +kernel) ⟨Nat.le_of_ble_eq_true rfl, Nat.le_of_ble_eq_true rfl⟩) ⟨fun a U g mk q => by obtain ⟨q0, q1, qP, qK, qD⟩ := q; exact ⟨q0, q1, qP, va_K.moved (u := U) (U := U.calling g mk a) (Vm.Alike.refl U.vm) qK, qD⟩, va_recv hKc hPc (ci := 0) (q0 := 0) rfl rfl, fun U hU hW => ⟨rfl, by rw [hU], by rw [hU]; exact hPc, va_K.moved hW.alike hKc, hDc.weaken (fun _ _ _ _ => trivial)⟩⟩ rfl rfl hl.1 rfl (lv_room (Nat.le_of_ble_eq_true rfl)) dX0_fieldOf_3 ⟨Nat.le_of_ble_eq_true rfl, Nat.le_of_ble_eq_true rfl⟩) hS (fun q _ h => hFc q h) hFc (fun r_1 u t H1 locs ht hvm hw hB hz1 hk1 hS => ?_)
  obtain ⟨hP1, hK1, hD1⟩ := hB
  rw [ht] at hP1
  have hK1 := va_K.moved hvm.symm hK1
  obtain ⟨hP, hD⟩ := va_join (wr := []) (w1 := [(h0, .inr (0, [.ref a1, .ref a2, .ref a3, .int (nI N), .int fa])), (a1, .inl (k1, 400, .inl (pm_nf9 cn))), (a2, .inl (k2, 8000, .inl fl)), (a3, .inl (k3, 16, .inl rt))]) hP hD [0, 1, 2, 3] [] rfl rfl (by decide) (by decide) hk1 hFc hP1 hD1
  clear hPc hDc hKc hFc hP1 hK1 hD1
  generalize H1 = H at hP hS ⊢
  have hP : va_P (dC, dI) vwCl [(h0, .inr (0, [.ref a1, .ref a2, .ref a3, .int (nI N), .int fa])), (a1, .inl (k1, 400, .inl (pm_nf9 cn))), (a2, .inl (k2, 8000, .inl fl)), (a3, .inl (k3, 16, .inl rt))] H := hP.sub [0, 1, 2, 3] rfl
  have hD : va_D A [(h0, .inr (0, [.ref a1, .ref a2, .ref a3, .int (nI N), .int fa])), (a1, .inl (k1, 400, .inl (pm_nf9 cn))), (a2, .inl (k2, 8000, .inl fl)), (a3, .inl (k3, 16, .inl rt))] := hD.sub [0, 1, 2, 3] (by decide) rfl
  rcases pm_tf (pm_hf N cn p0 p1) with hh_3 | hh_3
  · obtain rfl : r_1 = nI 1 := hw.trans (by rw [hh_3]; rfl)
    obtain ⟨a, j, ha, hj, rfl, rfl⟩ := pm_hf_of (by omega) hc hh_3
    have hca := hc a ha
    refine lv_if_eq (tgt := 23) hx hb dX0_fieldOf_6 (by decide) (fun c_6 => absurd c_6 (by decide +kernel)) (fun c_6 => ?_)
    refine lv_aload_n hx hb dX0_fieldOf_9 rfl (lv_at hl 0 rfl) ?_
    refine va_get (D := (dC, dI)) (ci := 0) (v := .ref a2) (C := RX0) (T := TX0) (N := 5) hx hb hts iw_X0 hown hK hP 0 rfl rfl 1 (by decide) (hts _ mf_X0_15) (fun _ h9 => h9) rfl dX0_fieldOf_10 ?_
    refine lv_iload_n hx hb dX0_fieldOf_13 rfl (lv_at hl 1 rfl) ?_
    refine lv_bipush (v := nI 20) hx hb dX0_fieldOf_14 (by decide +kernel) ?_
    refine lv_imul hx hb dX0_fieldOf_16 ?_
    refine lv_topi (fun x_2 ex_2 => ?_)
    obtain rfl : x_2 = nI (a * 20) := ex_2.trans (pk_mul _ _)
    refine lv_iload_n hx hb dX0_fieldOf_17 rfl (lv_at hl 2 rfl) ?_
    refine lv_iadd hx hb dX0_fieldOf_18 ?_
    refine lv_topi (fun x_3 ex_3 => ?_)
    obtain rfl : x_3 = nI ((a * 20) + j) := ex_3.trans (nI_add _ _)
    refine va_iald hx hb hK hP 2 1 rfl rfl (vp_in_nI (by omega) (by omega)) dX0_fieldOf_19 ?_
    refine lv_topi (fun x_4 ex_4 => ?_)
    rw [nI_clamp (by omega)] at ex_4
    subst ex_4
    refine lv_goto (tgt := 24) hx hb dX0_fieldOf_20 (by decide) ?_
    exact W.iret (v := fl (((a * 20) + j))) hx hb hr (fun t ht hW => ⟨⟨fl (((a * 20) + j)), (), rfl, pm_fo_t hh_3 (by omega) (by omega), by rw [ht]; exact hP, va_K.moved hW.alike hK, hD⟩, hS.F ht⟩) hS.2.2 dX0_fieldOf_24
  · obtain rfl : r_1 = nI 0 := hw.trans (by rw [hh_3]; rfl)
    refine lv_if_eq (tgt := 23) hx hb dX0_fieldOf_6 (by decide) (fun c_6 => ?_) (fun c_6 => absurd c_6 (by decide +kernel))
    refine lv_iconst (v := -1) hx hb dX0_fieldOf_23 (by decide +kernel) ?_
    exact W.iret (v := -1) hx hb hr (fun t ht hW => ⟨⟨-1, (), rfl, pm_fo_f hh_3, by rw [ht]; exact hP, va_K.moved hW.alike hK, hD⟩, hS.F ht⟩) hS.2.2 dX0_fieldOf_24

set_option maxHeartbeats 4000000 in
set_option maxRecDepth 100000 in
/-- Heap.rootAt(i) -/
theorem c_H_rootAt (l : Launch) (dC : Nat → ClassId) (dI : Nat → Nat → Nat) (h0 a1 a2 a3 : Nat) (k1 k2 k3 : ClassId) (N : Nat) (cn : Nat → Nat) (fl rt : Nat → Int32) (fa : Int32) (p0 : Int32) (sz : Nat)  : Met l yX0_rootAt wsX0_rootAt ({ frames := 1, cells := 0, slots := 0, locals := 21 }) (va_Pc [.ref h0, .int p0] (fun U => U.heap.size = sz ∧ va_P (dC, dI) vwCl [(h0, .inr (0, [.ref a1, .ref a2, .ref a3, .int (nI N), .int fa])), (a1, .inl (k1, 400, .inl (pm_nf9 cn))), (a2, .inl (k2, 8000, .inl fl)), (a3, .inl (k3, 16, .inl rt))] U.heap ∧ va_K (dC, dI) vwCl [(k1, .int), (k2, .int), (k3, .int)] U ∧ va_D (fun _ => True) [(h0, .inr (0, [.ref a1, .ref a2, .ref a3, .int (nI N), .int fa])), (a1, .inl (k1, 400, .inl (pm_nf9 cn))), (a2, .inl (k2, 8000, .inl fl)), (a3, .inl (k3, 16, .inl rt))])) (va_Qi (fun (r : Int32) (_ : Unit) => r = (if pm_has 16 p0 = true then rt p0.toNatClampNeg else -1)) (fun (_ : Unit) (t : State) => va_P (dC, dI) vwCl [(h0, .inr (0, [.ref a1, .ref a2, .ref a3, .int (nI N), .int fa])), (a1, .inl (k1, 400, .inl (pm_nf9 cn))), (a2, .inl (k2, 8000, .inl fl)), (a3, .inl (k3, 16, .inl rt))] t.heap ∧ va_K (dC, dI) vwCl [(k1, .int), (k2, .int), (k3, .int)] t ∧ va_D (va_A [(h0, .inr (0, [.ref a1, .ref a2, .ref a3, .int (nI N), .int fa])), (a1, .inl (k1, 400, .inl (pm_nf9 cn))), (a2, .inl (k2, 8000, .inl fl)), (a3, .inl (k3, 16, .inl rt))] sz) [(h0, .inr (0, [.ref a1, .ref a2, .ref a3, .int (nI N), .int fa])), (a1, .inl (k1, 400, .inl (pm_nf9 cn))), (a2, .inl (k2, 8000, .inl fl)), (a3, .inl (k3, 16, .inl rt))]) (va_A [(h0, .inr (0, [.ref a1, .ref a2, .ref a3, .int (nI N), .int fa])), (a1, .inl (k1, 400, .inl (pm_nf9 cn))), (a2, .inl (k2, 8000, .inl fl)), (a3, .inl (k3, 16, .inl rt))] sz)) 0 0 (va_A [(h0, .inr (0, [.ref a1, .ref a2, .ref a3, .int (nI N), .int fa])), (a1, .inl (k1, 400, .inl (pm_nf9 cn))), (a2, .inl (k2, 8000, .inl fl)), (a3, .inl (k3, 16, .inl rt))] sz) := by
  refine Met.ofW (cc := cX0_rootAt) (maxL := 2) (ret := (some .int)) (by decide) rfl ?_
  intro p e s m args below meth c s₁ B hml hv
  obtain ⟨rfl, hsz, hP, hK, hD0⟩ := hv
  have hx := B.exec
  have hb := B.bytes
  have hr := B.returns
  have hts : ∀ w ∈ gw, w.before _ s = true := fun w h => atoms_spec (ws := wsX0_rootAt) B.pre w (List.mem_cons_of_mem _ h)
  have hown : s.vm.findClass RX0 = some m.cls := findClass_of_methodNamed B.named
  have hlocks := B.notSynchronized
  subst hsz
  have hD := hD0.self (sz := s.heap.size)
  generalize hAe : va_A [(h0, .inr (0, [.ref a1, .ref a2, .ref a3, .int (nI N), .int fa])), (a1, .inl (k1, 400, .inl (pm_nf9 cn))), (a2, .inl (k2, 8000, .inl fl)), (a3, .inl (k3, 16, .inl rt))] s.heap.size = A at hD ⊢
  have hA : ∀ q : Nat, s.heap.size ≤ q → A q := fun q h => by rw [← hAe]; exact Or.inr h
  have hP : va_P (dC, dI) vwCl [(h0, .inr (0, [.ref a1, .ref a2, .ref a3, .int (nI N), .int fa])), (a1, .inl (k1, 400, .inl (pm_nf9 cn))), (a2, .inl (k2, 8000, .inl fl)), (a3, .inl (k3, 16, .inl rt))] s.heap := hP
  have hl := lv_entry ([.ref h0, .int p0]) (n := 2) (Nat.le_of_ble_eq_true rfl)
  rw [lg_entry_eq]
  generalize (lg_sl ([.ref h0, .int p0]) ++ List.replicate (2 - (lg_sl ([.ref h0, .int p0])).length) Slot.unset).toArray = ls at hl ⊢
  have hl : lv_has ls 2 [(0, .ref h0), (1, .int p0)] := hl
  obtain ⟨H, hH⟩ : ∃ H : Heap, H = s.heap := ⟨_, rfl⟩
  rw [← hH]
  rw [← hH] at hP
  have hS : va_S A s.heap H [] := by rw [hH]; exact va_S.rf
  clear hH
  refine lv_aload_n hx hb dX0_rootAt_0 rfl (lv_at hl 0 rfl) ?_
  refine lv_iload_n hx hb dX0_rootAt_1 rfl (lv_at hl 1 rfl) ?_
  have hPc := hP.sub (ws' := [(h0, .inr (0, [.ref a1, .ref a2, .ref a3, .int (nI N), .int fa])), (a1, .inl (k1, 400, .inl (pm_nf9 cn))), (a2, .inl (k2, 8000, .inl fl)), (a3, .inl (k3, 16, .inl rt))]) [0, 1, 2, 3] rfl
  have hDc := hD.sub (ws' := [(h0, .inr (0, [.ref a1, .ref a2, .ref a3, .int (nI N), .int fa])), (a1, .inl (k1, 400, .inl (pm_nf9 cn))), (a2, .inl (k2, 8000, .inl fl)), (a3, .inl (k3, 16, .inl rt))]) [0, 1, 2, 3] (by decide) rfl
  have hKc := hK.sub (tys' := [(k1, .int), (k2, .int), (k3, .int)]) [0, 1, 2] rfl
  have hFc := va_free (wc := [(h0, .inr (0, [.ref a1, .ref a2, .ref a3, .int (nI N), .int fa])), (a1, .inl (k1, 400, .inl (pm_nf9 cn))), (a2, .inl (k2, 8000, .inl fl)), (a3, .inl (k3, 16, .inl rt))]) hD hS hA [0, 1, 2, 3] rfl
  refine va_calli (va_runV (As := [.int p0]) (rest := []) ⟨hx, hb, hml, hown, hts⟩ (c_H_hasRoot l dC dI h0 a1 a2 a3 k1 k2 k3 N cn fl rt fa p0 H.size) (cwV 1 hts (gw_V ml_X0_44 mi_X0_hasRoot ms_X0_hasRoot mn_X0 mc_X0_hasRoot) rfl rfl rfl (by decide +kernel) ⟨Nat.le_of_ble_eq_true rfl, Nat.le_of_ble_eq_true rfl⟩) ⟨fun a U g mk q => by obtain ⟨q0, q1, qP, qK, qD⟩ := q; exact ⟨q0, q1, qP, va_K.moved (u := U) (U := U.calling g mk a) (Vm.Alike.refl U.vm) qK, qD⟩, va_recv hKc hPc (ci := 0) (q0 := 0) rfl rfl, fun U hU hW => ⟨rfl, by rw [hU], by rw [hU]; exact hPc, va_K.moved hW.alike hKc, hDc.weaken (fun _ _ _ _ => trivial)⟩⟩ rfl rfl hl.1 rfl (lv_room (Nat.le_of_ble_eq_true rfl)) dX0_rootAt_2 ⟨Nat.le_of_ble_eq_true rfl, Nat.le_of_ble_eq_true rfl⟩) hS (fun q _ h => hFc q h) hFc (fun r_1 u t H1 locs ht hvm hw hB hz1 hk1 hS => ?_)
  obtain ⟨hP1, hK1, hD1⟩ := hB
  rw [ht] at hP1
  have hK1 := va_K.moved hvm.symm hK1
  obtain ⟨hP, hD⟩ := va_join (wr := []) (w1 := [(h0, .inr (0, [.ref a1, .ref a2, .ref a3, .int (nI N), .int fa])), (a1, .inl (k1, 400, .inl (pm_nf9 cn))), (a2, .inl (k2, 8000, .inl fl)), (a3, .inl (k3, 16, .inl rt))]) hP hD [0, 1, 2, 3] [] rfl rfl (by decide) (by decide) hk1 hFc hP1 hD1
  clear hPc hDc hKc hFc hP1 hK1 hD1
  generalize H1 = H at hP hS ⊢
  have hP : va_P (dC, dI) vwCl [(h0, .inr (0, [.ref a1, .ref a2, .ref a3, .int (nI N), .int fa])), (a1, .inl (k1, 400, .inl (pm_nf9 cn))), (a2, .inl (k2, 8000, .inl fl)), (a3, .inl (k3, 16, .inl rt))] H := hP.sub [0, 1, 2, 3] rfl
  have hD : va_D A [(h0, .inr (0, [.ref a1, .ref a2, .ref a3, .int (nI N), .int fa])), (a1, .inl (k1, 400, .inl (pm_nf9 cn))), (a2, .inl (k2, 8000, .inl fl)), (a3, .inl (k3, 16, .inl rt))] := hD.sub [0, 1, 2, 3] (by decide) rfl
  rcases pm_tf (pm_has 16 p0) with hh_2 | hh_2
  · obtain rfl : r_1 = nI 1 := hw.trans (by rw [hh_2]; rfl)
    refine lv_if_eq (tgt := 17) hx hb dX0_rootAt_5 (by decide) (fun c_5 => absurd c_5 (by decide +kernel)) (fun c_5 => ?_)
    refine lv_aload_n hx hb dX0_rootAt_8 rfl (lv_at hl 0 rfl) ?_
    refine va_get (D := (dC, dI)) (ci := 0) (v := .ref a3) (C := RX0) (T := TX0) (N := 5) hx hb hts iw_X0 hown hK hP 0 rfl rfl 2 (by decide) (hts _ mf_X0_18) (fun _ h9 => h9) rfl dX0_rootAt_9 ?_
    refine lv_iload_n hx hb dX0_rootAt_12 rfl (lv_at hl 1 rfl) ?_
    refine va_iald hx hb hK hP 3 2 rfl rfl (pm_has_in (Nat.le_refl 16) (by omega) hh_2) dX0_rootAt_13 ?_
    refine lv_topi (fun x_2 ex_2 => ?_)
    subst ex_2
    refine lv_goto (tgt := 18) hx hb dX0_rootAt_14 (by decide) ?_
    exact W.iret (v := rt (p0.toNatClampNeg)) hx hb hr (fun t ht hW => ⟨⟨rt (p0.toNatClampNeg), (), rfl, by rw [if_pos hh_2], by rw [ht]; exact hP, va_K.moved hW.alike hK, hD⟩, hS.F ht⟩) hS.2.2 dX0_rootAt_18
  · obtain rfl : r_1 = nI 0 := hw.trans (by rw [hh_2]; rfl)
    refine lv_if_eq (tgt := 17) hx hb dX0_rootAt_5 (by decide) (fun c_5 => ?_) (fun c_5 => absurd c_5 (by decide +kernel))
    refine lv_iconst (v := -1) hx hb dX0_rootAt_17 (by decide +kernel) ?_
    exact W.iret (v := -1) hx hb hr (fun t ht hW => ⟨⟨-1, (), rfl, by rw [if_neg (by rw [hh_2]; decide)], by rw [ht]; exact hP, va_K.moved hW.alike hK, hD⟩, hS.F ht⟩) hS.2.2 dX0_rootAt_18

set_option maxHeartbeats 4000000 in
set_option maxRecDepth 100000 in
/-- Heap.fieldCountOf(k) -/
theorem c_H_fieldCountOf (l : Launch) (dC : Nat → ClassId) (dI : Nat → Nat → Nat) (h0 a1 a2 a3 : Nat) (k1 k2 k3 : ClassId) (N : Nat) (cn : Nat → Nat) (fl rt : Nat → Int32) (fa : Int32) (p0 : Int32) (sz : Nat) (hN : N ≤ 400) : Met l yX0_fieldCountOf wsX0_fieldCountOf ({ frames := 1, cells := 0, slots := 0, locals := 21 }) (va_Pc [.ref h0, .int p0] (fun U => U.heap.size = sz ∧ va_P (dC, dI) vwCl [(h0, .inr (0, [.ref a1, .ref a2, .ref a3, .int (nI N), .int fa])), (a1, .inl (k1, 400, .inl (pm_nf9 cn))), (a2, .inl (k2, 8000, .inl fl)), (a3, .inl (k3, 16, .inl rt))] U.heap ∧ va_K (dC, dI) vwCl [(k1, .int), (k2, .int), (k3, .int)] U ∧ va_D (fun _ => True) [(h0, .inr (0, [.ref a1, .ref a2, .ref a3, .int (nI N), .int fa])), (a1, .inl (k1, 400, .inl (pm_nf9 cn))), (a2, .inl (k2, 8000, .inl fl)), (a3, .inl (k3, 16, .inl rt))])) (va_Qi (fun (r : Int32) (_ : Unit) => r = (if pm_has N p0 = true then nI (cn p0.toNatClampNeg) else nI 0)) (fun (_ : Unit) (t : State) => va_P (dC, dI) vwCl [(h0, .inr (0, [.ref a1, .ref a2, .ref a3, .int (nI N), .int fa])), (a1, .inl (k1, 400, .inl (pm_nf9 cn))), (a2, .inl (k2, 8000, .inl fl)), (a3, .inl (k3, 16, .inl rt))] t.heap ∧ va_K (dC, dI) vwCl [(k1, .int), (k2, .int), (k3, .int)] t ∧ va_D (va_A [(h0, .inr (0, [.ref a1, .ref a2, .ref a3, .int (nI N), .int fa])), (a1, .inl (k1, 400, .inl (pm_nf9 cn))), (a2, .inl (k2, 8000, .inl fl)), (a3, .inl (k3, 16, .inl rt))] sz) [(h0, .inr (0, [.ref a1, .ref a2, .ref a3, .int (nI N), .int fa])), (a1, .inl (k1, 400, .inl (pm_nf9 cn))), (a2, .inl (k2, 8000, .inl fl)), (a3, .inl (k3, 16, .inl rt))]) (va_A [(h0, .inr (0, [.ref a1, .ref a2, .ref a3, .int (nI N), .int fa])), (a1, .inl (k1, 400, .inl (pm_nf9 cn))), (a2, .inl (k2, 8000, .inl fl)), (a3, .inl (k3, 16, .inl rt))] sz)) 0 0 (va_A [(h0, .inr (0, [.ref a1, .ref a2, .ref a3, .int (nI N), .int fa])), (a1, .inl (k1, 400, .inl (pm_nf9 cn))), (a2, .inl (k2, 8000, .inl fl)), (a3, .inl (k3, 16, .inl rt))] sz) := by
  refine Met.ofW (cc := cX0_fieldCountOf) (maxL := 2) (ret := (some .int)) (by decide) rfl ?_
  intro p e s m args below meth c s₁ B hml hv
  obtain ⟨rfl, hsz, hP, hK, hD0⟩ := hv
  have hx := B.exec
  have hb := B.bytes
  have hr := B.returns
  have hts : ∀ w ∈ gw, w.before _ s = true := fun w h => atoms_spec (ws := wsX0_fieldCountOf) B.pre w (List.mem_cons_of_mem _ h)
  have hown : s.vm.findClass RX0 = some m.cls := findClass_of_methodNamed B.named
  have hlocks := B.notSynchronized
  subst hsz
  have hD := hD0.self (sz := s.heap.size)
  generalize hAe : va_A [(h0, .inr (0, [.ref a1, .ref a2, .ref a3, .int (nI N), .int fa])), (a1, .inl (k1, 400, .inl (pm_nf9 cn))), (a2, .inl (k2, 8000, .inl fl)), (a3, .inl (k3, 16, .inl rt))] s.heap.size = A at hD ⊢
  have hA : ∀ q : Nat, s.heap.size ≤ q → A q := fun q h => by rw [← hAe]; exact Or.inr h
  have hP : va_P (dC, dI) vwCl [(h0, .inr (0, [.ref a1, .ref a2, .ref a3, .int (nI N), .int fa])), (a1, .inl (k1, 400, .inl (pm_nf9 cn))), (a2, .inl (k2, 8000, .inl fl)), (a3, .inl (k3, 16, .inl rt))] s.heap := hP
  have hl := lv_entry ([.ref h0, .int p0]) (n := 2) (Nat.le_of_ble_eq_true rfl)
  rw [lg_entry_eq]
  generalize (lg_sl ([.ref h0, .int p0]) ++ List.replicate (2 - (lg_sl ([.ref h0, .int p0])).length) Slot.unset).toArray = ls at hl ⊢
  have hl : lv_has ls 2 [(0, .ref h0), (1, .int p0)] := hl
  obtain ⟨H, hH⟩ : ∃ H : Heap, H = s.heap := ⟨_, rfl⟩
  rw [← hH]
  rw [← hH] at hP
  have hS : va_S A s.heap H [] := by rw [hH]; exact va_S.rf
  clear hH
  refine lv_aload_n hx hb dX0_fieldCountOf_0 rfl (lv_at hl 0 rfl) ?_
  refine lv_iload_n hx hb dX0_fieldCountOf_1 rfl (lv_at hl 1 rfl) ?_
  have hPc := hP.sub (ws' := [(h0, .inr (0, [.ref a1, .ref a2, .ref a3, .int (nI N), .int fa])), (a1, .inl (k1, 400, .inl (pm_nf9 cn))), (a2, .inl (k2, 8000, .inl fl)), (a3, .inl (k3, 16, .inl rt))]) [0, 1, 2, 3] rfl
  have hDc := hD.sub (ws' := [(h0, .inr (0, [.ref a1, .ref a2, .ref a3, .int (nI N), .int fa])), (a1, .inl (k1, 400, .inl (pm_nf9 cn))), (a2, .inl (k2, 8000, .inl fl)), (a3, .inl (k3, 16, .inl rt))]) [0, 1, 2, 3] (by decide) rfl
  have hKc := hK.sub (tys' := [(k1, .int), (k2, .int), (k3, .int)]) [0, 1, 2] rfl
  have hFc := va_free (wc := [(h0, .inr (0, [.ref a1, .ref a2, .ref a3, .int (nI N), .int fa])), (a1, .inl (k1, 400, .inl (pm_nf9 cn))), (a2, .inl (k2, 8000, .inl fl)), (a3, .inl (k3, 16, .inl rt))]) hD hS hA [0, 1, 2, 3] rfl
  refine va_calli (va_runV (As := [.int p0]) (rest := []) ⟨hx, hb, hml, hown, hts⟩ (c_H_has l dC dI h0 a1 a2 a3 k1 k2 k3 N cn fl rt fa p0 H.size) (cwV 1 hts (gw_V ml_X0_28 mi_X0_has ms_X0_has mn_X0 mc_X0_has) rfl rfl rfl (by decide +kernel) ⟨Nat.le_of_ble_eq_true rfl, Nat.le_of_ble_eq_true rfl⟩) ⟨fun a U g mk q => by obtain ⟨q0, q1, qP, qK, qD⟩ := q; exact ⟨q0, q1, qP, va_K.moved (u := U) (U := U.calling g mk a) (Vm.Alike.refl U.vm) qK, qD⟩, va_recv hKc hPc (ci := 0) (q0 := 0) rfl rfl, fun U hU hW => ⟨rfl, by rw [hU], by rw [hU]; exact hPc, va_K.moved hW.alike hKc, hDc.weaken (fun _ _ _ _ => trivial)⟩⟩ rfl rfl hl.1 rfl (lv_room (Nat.le_of_ble_eq_true rfl)) dX0_fieldCountOf_2 ⟨Nat.le_of_ble_eq_true rfl, Nat.le_of_ble_eq_true rfl⟩) hS (fun q _ h => hFc q h) hFc (fun r_1 u t H1 locs ht hvm hw hB hz1 hk1 hS => ?_)
  obtain ⟨hP1, hK1, hD1⟩ := hB
  rw [ht] at hP1
  have hK1 := va_K.moved hvm.symm hK1
  obtain ⟨hP, hD⟩ := va_join (wr := []) (w1 := [(h0, .inr (0, [.ref a1, .ref a2, .ref a3, .int (nI N), .int fa])), (a1, .inl (k1, 400, .inl (pm_nf9 cn))), (a2, .inl (k2, 8000, .inl fl)), (a3, .inl (k3, 16, .inl rt))]) hP hD [0, 1, 2, 3] [] rfl rfl (by decide) (by decide) hk1 hFc hP1 hD1
  clear hPc hDc hKc hFc hP1 hK1 hD1
  generalize H1 = H at hP hS ⊢
  have hP : va_P (dC, dI) vwCl [(h0, .inr (0, [.ref a1, .ref a2, .ref a3, .int (nI N), .int fa])), (a1, .inl (k1, 400, .inl (pm_nf9 cn))), (a2, .inl (k2, 8000, .inl fl)), (a3, .inl (k3, 16, .inl rt))] H := hP.sub [0, 1, 2, 3] rfl
  have hD : va_D A [(h0, .inr (0, [.ref a1, .ref a2, .ref a3, .int (nI N), .int fa])), (a1, .inl (k1, 400, .inl (pm_nf9 cn))), (a2, .inl (k2, 8000, .inl fl)), (a3, .inl (k3, 16, .inl rt))] := hD.sub [0, 1, 2, 3] (by decide) rfl
  rcases pm_tf (pm_has N p0) with hh_2 | hh_2
  · obtain rfl : r_1 = nI 1 := hw.trans (by rw [hh_2]; rfl)
    refine lv_if_eq (tgt := 17) hx hb dX0_fieldCountOf_5 (by decide) (fun c_5 => absurd c_5 (by decide +kernel)) (fun c_5 => ?_)
    refine lv_aload_n hx hb dX0_fieldCountOf_8 rfl (lv_at hl 0 rfl) ?_
    refine va_get (D := (dC, dI)) (ci := 0) (v := .ref a1) (C := RX0) (T := TX0) (N := 5) hx hb hts iw_X0 hown hK hP 0 rfl rfl 0 (by decide) (hts _ mf_X0_9) (fun _ h9 => h9) rfl dX0_fieldCountOf_9 ?_
    refine lv_iload_n hx hb dX0_fieldCountOf_12 rfl (lv_at hl 1 rfl) ?_
    refine va_iald hx hb hK hP 1 0 rfl rfl (pm_has_in hN (by omega) hh_2) dX0_fieldCountOf_13 ?_
    refine lv_topi (fun x_2 ex_2 => ?_)
    subst ex_2
    refine lv_goto (tgt := 18) hx hb dX0_fieldCountOf_14 (by decide) ?_
    exact W.iret (v := (pm_nf9 cn) (p0.toNatClampNeg)) hx hb hr (fun t ht hW => ⟨⟨(pm_nf9 cn) (p0.toNatClampNeg), (), rfl, by rw [if_pos hh_2]; rfl, by rw [ht]; exact hP, va_K.moved hW.alike hK, hD⟩, hS.F ht⟩) hS.2.2 dX0_fieldCountOf_18
  · obtain rfl : r_1 = nI 0 := hw.trans (by rw [hh_2]; rfl)
    refine lv_if_eq (tgt := 17) hx hb dX0_fieldCountOf_5 (by decide) (fun c_5 => ?_) (fun c_5 => absurd c_5 (by decide +kernel))
    refine lv_iconst (v := nI 0) hx hb dX0_fieldCountOf_17 (by decide +kernel) ?_
    exact W.iret (v := nI 0) hx hb hr (fun t ht hW => ⟨⟨nI 0, (), rfl, by rw [if_neg (by rw [hh_2]; decide)], by rw [ht]; exact hP, va_K.moved hW.alike hK, hD⟩, hS.F ht⟩) hS.2.2 dX0_fieldCountOf_18

set_option maxHeartbeats 4000000 in
set_option maxRecDepth 100000 in
/-- Heap.countOfObjects() -/
theorem c_H_countOfObjects (l : Launch) (dC : Nat → ClassId) (dI : Nat → Nat → Nat) (h0 a1 a2 a3 : Nat) (k1 k2 k3 : ClassId) (N : Nat) (cn : Nat → Nat) (fl rt : Nat → Int32) (fa : Int32) (sz : Nat)  : Met l yX0_countOfObjects wsX0_countOfObjects ({ frames := 0, cells := 0, slots := 0, locals := 0 }) (va_Pc [.ref h0] (fun U => U.heap.size = sz ∧ va_P (dC, dI) vwCl [(h0, .inr (0, [.ref a1, .ref a2, .ref a3, .int (nI N), .int fa])), (a1, .inl (k1, 400, .inl (pm_nf9 cn))), (a2, .inl (k2, 8000, .inl fl)), (a3, .inl (k3, 16, .inl rt))] U.heap ∧ va_K (dC, dI) vwCl [(k1, .int), (k2, .int), (k3, .int)] U ∧ va_D (fun _ => True) [(h0, .inr (0, [.ref a1, .ref a2, .ref a3, .int (nI N), .int fa])), (a1, .inl (k1, 400, .inl (pm_nf9 cn))), (a2, .inl (k2, 8000, .inl fl)), (a3, .inl (k3, 16, .inl rt))])) (va_Qi (fun (r : Int32) (_ : Unit) => r = nI N) (fun (_ : Unit) (t : State) => va_P (dC, dI) vwCl [(h0, .inr (0, [.ref a1, .ref a2, .ref a3, .int (nI N), .int fa])), (a1, .inl (k1, 400, .inl (pm_nf9 cn))), (a2, .inl (k2, 8000, .inl fl)), (a3, .inl (k3, 16, .inl rt))] t.heap ∧ va_K (dC, dI) vwCl [(k1, .int), (k2, .int), (k3, .int)] t ∧ va_D (va_A [(h0, .inr (0, [.ref a1, .ref a2, .ref a3, .int (nI N), .int fa])), (a1, .inl (k1, 400, .inl (pm_nf9 cn))), (a2, .inl (k2, 8000, .inl fl)), (a3, .inl (k3, 16, .inl rt))] sz) [(h0, .inr (0, [.ref a1, .ref a2, .ref a3, .int (nI N), .int fa])), (a1, .inl (k1, 400, .inl (pm_nf9 cn))), (a2, .inl (k2, 8000, .inl fl)), (a3, .inl (k3, 16, .inl rt))]) (va_A [(h0, .inr (0, [.ref a1, .ref a2, .ref a3, .int (nI N), .int fa])), (a1, .inl (k1, 400, .inl (pm_nf9 cn))), (a2, .inl (k2, 8000, .inl fl)), (a3, .inl (k3, 16, .inl rt))] sz)) 0 0 (va_A [(h0, .inr (0, [.ref a1, .ref a2, .ref a3, .int (nI N), .int fa])), (a1, .inl (k1, 400, .inl (pm_nf9 cn))), (a2, .inl (k2, 8000, .inl fl)), (a3, .inl (k3, 16, .inl rt))] sz) := by
  refine Met.ofW (cc := cX0_countOfObjects) (maxL := 1) (ret := (some .int)) (by decide) rfl ?_
  intro p e s m args below meth c s₁ B hml hv
  obtain ⟨rfl, hsz, hP, hK, hD0⟩ := hv
  have hx := B.exec
  have hb := B.bytes
  have hr := B.returns
  have hts : ∀ w ∈ gw, w.before _ s = true := fun w h => atoms_spec (ws := wsX0_countOfObjects) B.pre w (List.mem_cons_of_mem _ h)
  have hown : s.vm.findClass RX0 = some m.cls := findClass_of_methodNamed B.named
  have hlocks := B.notSynchronized
  subst hsz
  have hD := hD0.self (sz := s.heap.size)
  generalize hAe : va_A [(h0, .inr (0, [.ref a1, .ref a2, .ref a3, .int (nI N), .int fa])), (a1, .inl (k1, 400, .inl (pm_nf9 cn))), (a2, .inl (k2, 8000, .inl fl)), (a3, .inl (k3, 16, .inl rt))] s.heap.size = A at hD ⊢
  have hA : ∀ q : Nat, s.heap.size ≤ q → A q := fun q h => by rw [← hAe]; exact Or.inr h
  have hP : va_P (dC, dI) vwCl [(h0, .inr (0, [.ref a1, .ref a2, .ref a3, .int (nI N), .int fa])), (a1, .inl (k1, 400, .inl (pm_nf9 cn))), (a2, .inl (k2, 8000, .inl fl)), (a3, .inl (k3, 16, .inl rt))] s.heap := hP
  have hl := lv_entry ([.ref h0]) (n := 1) (Nat.le_of_ble_eq_true rfl)
  rw [lg_entry_eq]
  generalize (lg_sl ([.ref h0]) ++ List.replicate (1 - (lg_sl ([.ref h0])).length) Slot.unset).toArray = ls at hl ⊢
  have hl : lv_has ls 1 [(0, .ref h0)] := hl
  obtain ⟨H, hH⟩ : ∃ H : Heap, H = s.heap := ⟨_, rfl⟩
  rw [← hH]
  rw [← hH] at hP
  have hS : va_S A s.heap H [] := by rw [hH]; exact va_S.rf
  clear hH
  refine lv_aload_n hx hb dX0_countOfObjects_0 rfl (lv_at hl 0 rfl) ?_
  refine va_get (D := (dC, dI)) (ci := 0) (v := .int (nI N)) (C := RX0) (T := TX0) (N := 5) hx hb hts iw_X0 hown hK hP 0 rfl rfl 3 (by decide) (hts _ mf_X0_21) (fun _ h9 => h9) rfl dX0_countOfObjects_1 ?_
  exact W.iret (v := nI N) hx hb hr (fun t ht hW => ⟨⟨nI N, (), rfl, rfl, by rw [ht]; exact hP, va_K.moved hW.alike hK, hD⟩, hS.F ht⟩) hS.2.2 dX0_countOfObjects_4

set_option maxHeartbeats 4000000 in
set_option maxRecDepth 100000 in
/-- Heap.countOfFields() -/
theorem c_H_countOfFields (l : Launch) (dC : Nat → ClassId) (dI : Nat → Nat → Nat) (h0 a1 a2 a3 : Nat) (k1 k2 k3 : ClassId) (N : Nat) (cn : Nat → Nat) (fl rt : Nat → Int32) (fa : Int32) (sz : Nat)  : Met l yX0_countOfFields wsX0_countOfFields ({ frames := 0, cells := 0, slots := 0, locals := 0 }) (va_Pc [.ref h0] (fun U => U.heap.size = sz ∧ va_P (dC, dI) vwCl [(h0, .inr (0, [.ref a1, .ref a2, .ref a3, .int (nI N), .int fa])), (a1, .inl (k1, 400, .inl (pm_nf9 cn))), (a2, .inl (k2, 8000, .inl fl)), (a3, .inl (k3, 16, .inl rt))] U.heap ∧ va_K (dC, dI) vwCl [(k1, .int), (k2, .int), (k3, .int)] U ∧ va_D (fun _ => True) [(h0, .inr (0, [.ref a1, .ref a2, .ref a3, .int (nI N), .int fa])), (a1, .inl (k1, 400, .inl (pm_nf9 cn))), (a2, .inl (k2, 8000, .inl fl)), (a3, .inl (k3, 16, .inl rt))])) (va_Qi (fun (r : Int32) (_ : Unit) => r = fa) (fun (_ : Unit) (t : State) => va_P (dC, dI) vwCl [(h0, .inr (0, [.ref a1, .ref a2, .ref a3, .int (nI N), .int fa])), (a1, .inl (k1, 400, .inl (pm_nf9 cn))), (a2, .inl (k2, 8000, .inl fl)), (a3, .inl (k3, 16, .inl rt))] t.heap ∧ va_K (dC, dI) vwCl [(k1, .int), (k2, .int), (k3, .int)] t ∧ va_D (va_A [(h0, .inr (0, [.ref a1, .ref a2, .ref a3, .int (nI N), .int fa])), (a1, .inl (k1, 400, .inl (pm_nf9 cn))), (a2, .inl (k2, 8000, .inl fl)), (a3, .inl (k3, 16, .inl rt))] sz) [(h0, .inr (0, [.ref a1, .ref a2, .ref a3, .int (nI N), .int fa])), (a1, .inl (k1, 400, .inl (pm_nf9 cn))), (a2, .inl (k2, 8000, .inl fl)), (a3, .inl (k3, 16, .inl rt))]) (va_A [(h0, .inr (0, [.ref a1, .ref a2, .ref a3, .int (nI N), .int fa])), (a1, .inl (k1, 400, .inl (pm_nf9 cn))), (a2, .inl (k2, 8000, .inl fl)), (a3, .inl (k3, 16, .inl rt))] sz)) 0 0 (va_A [(h0, .inr (0, [.ref a1, .ref a2, .ref a3, .int (nI N), .int fa])), (a1, .inl (k1, 400, .inl (pm_nf9 cn))), (a2, .inl (k2, 8000, .inl fl)), (a3, .inl (k3, 16, .inl rt))] sz) := by
  refine Met.ofW (cc := cX0_countOfFields) (maxL := 1) (ret := (some .int)) (by decide) rfl ?_
  intro p e s m args below meth c s₁ B hml hv
  obtain ⟨rfl, hsz, hP, hK, hD0⟩ := hv
  have hx := B.exec
  have hb := B.bytes
  have hr := B.returns
  have hts : ∀ w ∈ gw, w.before _ s = true := fun w h => atoms_spec (ws := wsX0_countOfFields) B.pre w (List.mem_cons_of_mem _ h)
  have hown : s.vm.findClass RX0 = some m.cls := findClass_of_methodNamed B.named
  have hlocks := B.notSynchronized
  subst hsz
  have hD := hD0.self (sz := s.heap.size)
  generalize hAe : va_A [(h0, .inr (0, [.ref a1, .ref a2, .ref a3, .int (nI N), .int fa])), (a1, .inl (k1, 400, .inl (pm_nf9 cn))), (a2, .inl (k2, 8000, .inl fl)), (a3, .inl (k3, 16, .inl rt))] s.heap.size = A at hD ⊢
  have hA : ∀ q : Nat, s.heap.size ≤ q → A q := fun q h => by rw [← hAe]; exact Or.inr h
  have hP : va_P (dC, dI) vwCl [(h0, .inr (0, [.ref a1, .ref a2, .ref a3, .int (nI N), .int fa])), (a1, .inl (k1, 400, .inl (pm_nf9 cn))), (a2, .inl (k2, 8000, .inl fl)), (a3, .inl (k3, 16, .inl rt))] s.heap := hP
  have hl := lv_entry ([.ref h0]) (n := 1) (Nat.le_of_ble_eq_true rfl)
  rw [lg_entry_eq]
  generalize (lg_sl ([.ref h0]) ++ List.replicate (1 - (lg_sl ([.ref h0])).length) Slot.unset).toArray = ls at hl ⊢
  have hl : lv_has ls 1 [(0, .ref h0)] := hl
  obtain ⟨H, hH⟩ : ∃ H : Heap, H = s.heap := ⟨_, rfl⟩
  rw [← hH]
  rw [← hH] at hP
  have hS : va_S A s.heap H [] := by rw [hH]; exact va_S.rf
  clear hH
  refine lv_aload_n hx hb dX0_countOfFields_0 rfl (lv_at hl 0 rfl) ?_
  refine va_get (D := (dC, dI)) (ci := 0) (v := .int fa) (C := RX0) (T := TX0) (N := 5) hx hb hts iw_X0 hown hK hP 0 rfl rfl 4 (by decide) (hts _ mf_X0_25) (fun _ h9 => h9) rfl dX0_countOfFields_1 ?_
  exact W.iret (v := fa) hx hb hr (fun t ht hW => ⟨⟨fa, (), rfl, rfl, by rw [ht]; exact hP, va_K.moved hW.alike hK, hD⟩, hS.F ht⟩) hS.2.2 dX0_countOfFields_4
end
section
set_option maxHeartbeats 4000000 in
set_option maxRecDepth 100000 in
/-- Heap.addObject(fields) -/
theorem c_H_addObject (l : Launch) (dC : Nat → ClassId) (dI : Nat → Nat → Nat) (h0 a1 a2 a3 : Nat) (k1 k2 k3 : ClassId) (N : Nat) (cn : Nat → Nat) (fl rt : Nat → Int32) (fa : Int32) (F : Nat) (sz : Nat) (hN : N < 400) (hF : F ≤ 20) : Met l yX0_addObject wsX0_addObject ({ frames := 1, cells := 0, slots := 0, locals := 20 }) (va_Pc [.ref h0, .int (nI F)] (fun U => U.heap.size = sz ∧ va_P (dC, dI) vwCl [(h0, .inr (0, [.ref a1, .ref a2, .ref a3, .int (nI N), .int fa])), (a1, .inl (k1, 400, .inl (pm_nf9 cn))), (a2, .inl (k2, 8000, .inl fl)), (a3, .inl (k3, 16, .inl rt))] U.heap ∧ va_K (dC, dI) vwCl [(k1, .int), (k2, .int), (k3, .int)] U ∧ va_D (fun _ => True) [(h0, .inr (0, [.ref a1, .ref a2, .ref a3, .int (nI N), .int fa])), (a1, .inl (k1, 400, .inl (pm_nf9 cn))), (a2, .inl (k2, 8000, .inl fl)), (a3, .inl (k3, 16, .inl rt))])) (va_Qi (fun (r : Int32) (_ : Unit) => r = nI N) (fun (_ : Unit) (t : State) => va_P (dC, dI) vwCl [(h0, .inr (0, [.ref a1, .ref a2, .ref a3, .int (nI ((N + 1))), .int (fa + nI F)])), (a1, .inl (k1, 400, .inl (pm_nf9 ((pm_un cn N F))))), (a2, .inl (k2, 8000, .inl (pm_fill fl (N * 20) F))), (a3, .inl (k3, 16, .inl rt))] t.heap ∧ va_K (dC, dI) vwCl [(k1, .int), (k2, .int), (k3, .int)] t ∧ va_D (va_A [(h0, .inr (0, [.ref a1, .ref a2, .ref a3, .int (nI N), .int fa])), (a1, .inl (k1, 400, .inl (pm_nf9 cn))), (a2, .inl (k2, 8000, .inl fl)), (a3, .inl (k3, 16, .inl rt))] sz) [(h0, .inr (0, [.ref a1, .ref a2, .ref a3, .int (nI ((N + 1))), .int (fa + nI F)])), (a1, .inl (k1, 400, .inl (pm_nf9 ((pm_un cn N F))))), (a2, .inl (k2, 8000, .inl (pm_fill fl (N * 20) F))), (a3, .inl (k3, 16, .inl rt))]) (va_A [(h0, .inr (0, [.ref a1, .ref a2, .ref a3, .int (nI N), .int fa])), (a1, .inl (k1, 400, .inl (pm_nf9 cn))), (a2, .inl (k2, 8000, .inl fl)), (a3, .inl (k3, 16, .inl rt))] sz)) 0 0 (va_A [(h0, .inr (0, [.ref a1, .ref a2, .ref a3, .int (nI N), .int fa])), (a1, .inl (k1, 400, .inl (pm_nf9 cn))), (a2, .inl (k2, 8000, .inl fl)), (a3, .inl (k3, 16, .inl rt))] sz) := by
  refine Met.ofW (cc := cX0_addObject) (maxL := 4) (ret := (some .int)) (by decide) rfl ?_
  intro p e s m args below meth c s₁ B hml hv
  obtain ⟨rfl, hsz, hP, hK, hD0⟩ := hv
  have hx := B.exec
  have hb := B.bytes
  have hr := B.returns
  have hts : ∀ w ∈ gw, w.before _ s = true := fun w h => atoms_spec (ws := wsX0_addObject) B.pre w (List.mem_cons_of_mem _ h)
  have hown : s.vm.findClass RX0 = some m.cls := findClass_of_methodNamed B.named
  have hlocks := B.notSynchronized
  subst hsz
  have hD := hD0.self (sz := s.heap.size)
  generalize hAe : va_A [(h0, .inr (0, [.ref a1, .ref a2, .ref a3, .int (nI N), .int fa])), (a1, .inl (k1, 400, .inl (pm_nf9 cn))), (a2, .inl (k2, 8000, .inl fl)), (a3, .inl (k3, 16, .inl rt))] s.heap.size = A at hD ⊢
  have hA : ∀ q : Nat, s.heap.size ≤ q → A q := fun q h => by rw [← hAe]; exact Or.inr h
  have hP : va_P (dC, dI) vwCl [(h0, .inr (0, [.ref a1, .ref a2, .ref a3, .int (nI N), .int fa])), (a1, .inl (k1, 400, .inl (pm_nf9 cn))), (a2, .inl (k2, 8000, .inl fl)), (a3, .inl (k3, 16, .inl rt))] s.heap := hP
  have hl := lv_entry ([.ref h0, .int (nI F)]) (n := 4) (Nat.le_of_ble_eq_true rfl)
  rw [lg_entry_eq]
  generalize (lg_sl ([.ref h0, .int (nI F)]) ++ List.replicate (4 - (lg_sl ([.ref h0, .int (nI F)])).length) Slot.unset).toArray = ls at hl ⊢
  have hl : lv_has ls 4 [(0, .ref h0), (1, .int (nI F))] := hl
  obtain ⟨H, hH⟩ : ∃ H : Heap, H = s.heap := ⟨_, rfl⟩
  rw [← hH]
  rw [← hH] at hP
  have hS : va_S A s.heap H [] := by rw [hH]; exact va_S.rf
  clear hH
  refine lv_aload_n hx hb dX0_addObject_0 rfl (lv_at hl 0 rfl) ?_
  have hPc := hP.sub (ws' := [(h0, .inr (0, [.ref a1, .ref a2, .ref a3, .int (nI N), .int fa])), (a1, .inl (k1, 400, .inl (pm_nf9 cn))), (a2, .inl (k2, 8000, .inl fl)), (a3, .inl (k3, 16, .inl rt))]) [0, 1, 2, 3] rfl
  have hDc := hD.sub (ws' := [(h0, .inr (0, [.ref a1, .ref a2, .ref a3, .int (nI N), .int fa])), (a1, .inl (k1, 400, .inl (pm_nf9 cn))), (a2, .inl (k2, 8000, .inl fl)), (a3, .inl (k3, 16, .inl rt))]) [0, 1, 2, 3] (by decide) rfl
  have hKc := hK.sub (tys' := [(k1, .int), (k2, .int), (k3, .int)]) [0, 1, 2] rfl
  have hFc := va_free (wc := [(h0, .inr (0, [.ref a1, .ref a2, .ref a3, .int (nI N), .int fa])), (a1, .inl (k1, 400, .inl (pm_nf9 cn))), (a2, .inl (k2, 8000, .inl fl)), (a3, .inl (k3, 16, .inl rt))]) hD hS hA [0, 1, 2, 3] rfl
  refine va_calli (va_runV (As := []) (rest := []) ⟨hx, hb, hml, hown, hts⟩ (c_H_isFull l dC dI h0 a1 a2 a3 k1 k2 k3 N cn fl rt fa H.size (by omega)) (cwV 0 hts (gw_V ml_X0_32 mi_X0_isFull ms_X0_isFull mn_X0 mc_X0_isFull) rfl rfl rfl (by decide +kernel) ⟨Nat.le_of_ble_eq_true rfl, Nat.le_of_ble_eq_true rfl⟩) ⟨fun a U g mk q => by obtain ⟨q0, q1, qP, qK, qD⟩ := q; exact ⟨q0, q1, qP, va_K.moved (u := U) (U := U.calling g mk a) (Vm.Alike.refl U.vm) qK, qD⟩, va_recv hKc hPc (ci := 0) (q0 := 0) rfl rfl, fun U hU hW => ⟨rfl, by rw [hU], by rw [hU]; exact hPc, va_K.moved hW.alike hKc, hDc.weaken (fun _ _ _ _ => trivial)⟩⟩ rfl rfl hl.1 rfl (lv_room (Nat.le_of_ble_eq_true rfl)) dX0_addObject_1 ⟨Nat.le_of_ble_eq_true rfl, Nat.le_of_ble_eq_true rfl⟩) hS (fun q _ h => hFc q h) hFc (fun r_1 u t H1 locs ht hvm hw hB hz1 hk1 hS => ?_)
  obtain ⟨hP1, hK1, hD1⟩ := hB
  rw [ht] at hP1
  have hK1 := va_K.moved hvm.symm hK1
  obtain ⟨hP, hD⟩ := va_join (wr := []) (w1 := [(h0, .inr (0, [.ref a1, .ref a2, .ref a3, .int (nI N), .int fa])), (a1, .inl (k1, 400, .inl (pm_nf9 cn))), (a2, .inl (k2, 8000, .inl fl)), (a3, .inl (k3, 16, .inl rt))]) hP hD [0, 1, 2, 3] [] rfl rfl (by decide) (by decide) hk1 hFc hP1 hD1
  clear hPc hDc hKc hFc hP1 hK1 hD1
  generalize H1 = H at hP hS ⊢
  have hP : va_P (dC, dI) vwCl [(h0, .inr (0, [.ref a1, .ref a2, .ref a3, .int (nI N), .int fa])), (a1, .inl (k1, 400, .inl (pm_nf9 cn))), (a2, .inl (k2, 8000, .inl fl)), (a3, .inl (k3, 16, .inl rt))] H := hP.sub [0, 1, 2, 3] rfl
  have hD : va_D A [(h0, .inr (0, [.ref a1, .ref a2, .ref a3, .int (nI N), .int fa])), (a1, .inl (k1, 400, .inl (pm_nf9 cn))), (a2, .inl (k2, 8000, .inl fl)), (a3, .inl (k3, 16, .inl rt))] := hD.sub [0, 1, 2, 3] (by decide) rfl
  obtain rfl : r_1 = nI 0 := hw.trans (by rw [decide_eq_false (by omega)]; rfl)
  refine lv_if_ne (tgt := 17) hx hb dX0_addObject_4 (by decide) (fun c_4 => absurd c_4 (by decide +kernel)) (fun c_4 => ?_)
  refine lv_iload_n hx hb dX0_addObject_7 rfl (lv_at hl 1 rfl) ?_
  refine lv_if_lt (tgt := 17) hx hb dX0_addObject_8 (by decide) (fun c_8 => absurd c_8 (nI_pos (by omega))) (fun c_8 => ?_)
  refine lv_iload_n hx hb dX0_addObject_11 rfl (lv_at hl 1 rfl) ?_
  refine lv_bipush (v := nI 20) hx hb dX0_addObject_12 (by decide +kernel) ?_
  refine lv_icmp_le (tgt := 19) hx hb dX0_addObject_14 (by decide) (fun c_14 => ?_) (fun c_14 => absurd (nI_le (by omega) (by omega)) c_14)
  refine lv_aload_n hx hb dX0_addObject_19 rfl (lv_at hl 0 rfl) ?_
  refine va_get (D := (dC, dI)) (ci := 0) (v := .int (nI N)) (C := RX0) (T := TX0) (N := 5) hx hb hts iw_X0 hown hK hP 0 rfl rfl 3 (by decide) (hts _ mf_X0_21) (fun _ h9 => h9) rfl dX0_addObject_20 ?_
  refine lv_istore_n (lv' := [(2, .int (nI N)), (0, .ref h0), (1, .int (nI F))]) hx hb dX0_addObject_23 rfl hl (by decide) rfl (fun ls hl => ?_)
  refine lv_aload_n hx hb dX0_addObject_24 rfl (lv_at hl 1 rfl) ?_
  refine va_get (D := (dC, dI)) (ci := 0) (v := .ref a1) (C := RX0) (T := TX0) (N := 5) hx hb hts iw_X0 hown hK hP 0 rfl rfl 0 (by decide) (hts _ mf_X0_9) (fun _ h9 => h9) rfl dX0_addObject_25 ?_
  refine lv_iload_n hx hb dX0_addObject_28 rfl (lv_at hl 0 rfl) ?_
  refine lv_iload_n hx hb dX0_addObject_29 rfl (lv_at hl 2 rfl) ?_
  refine va_iast hx hb hK hP hD hS 1 0 rfl rfl (vp_in_nI (by omega) (by omega)) dX0_addObject_30 (fun H locs hP hD hS => ?_)
  rw [nI_clamp (by omega)] at hP hD
  have hP : va_P (dC, dI) vwCl [(h0, .inr (0, [.ref a1, .ref a2, .ref a3, .int (nI N), .int fa])), (a1, .inl (k1, 400, .inl (upd (pm_nf9 cn) N (nI F)))), (a2, .inl (k2, 8000, .inl fl)), (a3, .inl (k3, 16, .inl rt))] H := hP
  have hD : va_D A [(h0, .inr (0, [.ref a1, .ref a2, .ref a3, .int (nI N), .int fa])), (a1, .inl (k1, 400, .inl (upd (pm_nf9 cn) N (nI F)))), (a2, .inl (k2, 8000, .inl fl)), (a3, .inl (k3, 16, .inl rt))] := hD
  rw [show upd (pm_nf9 cn) N (nI F) = pm_nf9 (pm_un cn N F) from pm_nf9_up cn N F] at hP hD
  refine lv_iconst (v := nI 0) hx hb dX0_addObject_31 (by decide +kernel) ?_
  refine lv_istore_n (lv' := [(3, .int (nI 0)), (2, .int (nI N)), (0, .ref h0), (1, .int (nI F))]) hx hb dX0_addObject_32 rfl hl (by decide) rfl (fun ls hl => ?_)
  have hP : va_P (dC, dI) vwCl [(h0, .inr (0, [.ref a1, .ref a2, .ref a3, .int (nI N), .int fa])), (a1, .inl (k1, 400, .inl (pm_nf9 ((pm_un cn N F))))), (a2, .inl (k2, 8000, .inl (pm_fill fl (N * 20) 0))), (a3, .inl (k3, 16, .inl rt))] H := by rw [pm_fill_0]; exact hP
  have hD : va_D A [(h0, .inr (0, [.ref a1, .ref a2, .ref a3, .int (nI N), .int fa])), (a1, .inl (k1, 400, .inl (pm_nf9 ((pm_un cn N F))))), (a2, .inl (k2, 8000, .inl (pm_fill fl (N * 20) 0))), (a3, .inl (k3, 16, .inl rt))] := by rw [pm_fill_0]; exact hD
  refine lp_loop (σ := Nat) (head := 33) (fun j H locs ls => j ≤ F ∧ va_P (dC, dI) vwCl [(h0, .inr (0, [.ref a1, .ref a2, .ref a3, .int (nI N), .int fa])), (a1, .inl (k1, 400, .inl (pm_nf9 ((pm_un cn N F))))), (a2, .inl (k2, 8000, .inl (pm_fill fl (N * 20) j))), (a3, .inl (k3, 16, .inl rt))] H ∧ va_D A [(h0, .inr (0, [.ref a1, .ref a2, .ref a3, .int (nI N), .int fa])), (a1, .inl (k1, 400, .inl (pm_nf9 ((pm_un cn N F))))), (a2, .inl (k2, 8000, .inl (pm_fill fl (N * 20) j))), (a3, .inl (k3, 16, .inl rt))] ∧ va_S A s.heap H locs ∧ lv_has ls 4 [(3, .int (nI j)), (2, .int (nI N)), (1, .int (nI F)), (0, .ref h0)]) (fun j => F - j) ?_ 0 _ _ _ ⟨Nat.zero_le _, hP, hD, hS, lv_sub hl [0, 1, 3, 2] rfl⟩
  intro x H locs ls hI ih
  obtain ⟨j, rfl⟩ : ∃ y, y = x := ⟨x, rfl⟩
  obtain ⟨hj, hP, hD, hS, hl⟩ := hI
  refine lv_iload_n hx hb dX0_addObject_33 rfl (lv_at hl 0 rfl) ?_
  refine lv_iload_n hx hb dX0_addObject_34 rfl (lv_at hl 2 rfl) ?_
  refine lv_icmp_ge (tgt := 56) hx hb dX0_addObject_35 (by decide) (fun c_35 => ?_) (fun c_35 => ?_)
  · rw [nI_leI (by omega) (by omega)] at c_35
    rw [show j = F by omega] at hP hD
    refine lv_aload_n hx hb dX0_addObject_56 rfl (lv_at hl 3 rfl) ?_
    refine lv_dup hx hb dX0_addObject_57 rfl ?_
    refine va_get (D := (dC, dI)) (ci := 0) (v := .int (nI N)) (C := RX0) (T := TX0) (N := 5) hx hb hts iw_X0 hown hK hP 0 rfl rfl 3 (by decide) (hts _ mf_X0_21) (fun _ h9 => h9) rfl dX0_addObject_58 ?_
    refine lv_iconst (v := nI 1) hx hb dX0_addObject_61 (by decide +kernel) ?_
    refine lv_iadd hx hb dX0_addObject_62 ?_
    refine lv_topi (fun x_2 ex_2 => ?_)
    obtain rfl : x_2 = nI (N + 1) := ex_2.trans (nI_add _ _)
    refine va_put (D := (dC, dI)) (ci := 0) (v := .int (nI (N + 1))) (ty := .int) (C := RX0) (T := TX0) (N := 5) hx hb hts iw_X0 tyX0 tyX0_ok nmX0 hown hK hP hD hS 0 rfl rfl 3 (by decide) (hts _ mf_X0_21) (fun _ h9 => h9) rfl (by decide +kernel) (rfl) (rfl) (Nat.le_of_ble_eq_true rfl) dX0_addObject_63 (fun H locs hP hD hS => ?_)
    have hP : va_P (dC, dI) vwCl [(h0, .inr (0, [.ref a1, .ref a2, .ref a3, .int (nI (N + 1)), .int fa])), (a1, .inl (k1, 400, .inl (pm_nf9 ((pm_un cn N F))))), (a2, .inl (k2, 8000, .inl (pm_fill fl (N * 20) F))), (a3, .inl (k3, 16, .inl rt))] H := hP
    have hD : va_D A [(h0, .inr (0, [.ref a1, .ref a2, .ref a3, .int (nI (N + 1)), .int fa])), (a1, .inl (k1, 400, .inl (pm_nf9 ((pm_un cn N F))))), (a2, .inl (k2, 8000, .inl (pm_fill fl (N * 20) F))), (a3, .inl (k3, 16, .inl rt))] := hD
    refine lv_aload_n hx hb dX0_addObject_66 rfl (lv_at hl 3 rfl) ?_
    refine lv_dup hx hb dX0_addObject_67 rfl ?_
    refine va_get (D := (dC, dI)) (ci := 0) (v := .int fa) (C := RX0) (T := TX0) (N := 5) hx hb hts iw_X0 hown hK hP 0 rfl rfl 4 (by decide) (hts _ mf_X0_25) (fun _ h9 => h9) rfl dX0_addObject_68 ?_
    refine lv_iload_n hx hb dX0_addObject_71 rfl (lv_at hl 2 rfl) ?_
    refine lv_iadd hx hb dX0_addObject_72 ?_
    refine va_put (D := (dC, dI)) (ci := 0) (v := .int (fa + nI F)) (ty := .int) (C := RX0) (T := TX0) (N := 5) hx hb hts iw_X0 tyX0 tyX0_ok nmX0 hown hK hP hD hS 0 rfl rfl 4 (by decide) (hts _ mf_X0_25) (fun _ h9 => h9) rfl (by decide +kernel) (rfl) (rfl) (Nat.le_of_ble_eq_true rfl) dX0_addObject_73 (fun H locs hP hD hS => ?_)
    have hP : va_P (dC, dI) vwCl [(h0, .inr (0, [.ref a1, .ref a2, .ref a3, .int (nI (N + 1)), .int (fa + nI F)])), (a1, .inl (k1, 400, .inl (pm_nf9 ((pm_un cn N F))))), (a2, .inl (k2, 8000, .inl (pm_fill fl (N * 20) F))), (a3, .inl (k3, 16, .inl rt))] H := hP
    have hD : va_D A [(h0, .inr (0, [.ref a1, .ref a2, .ref a3, .int (nI (N + 1)), .int (fa + nI F)])), (a1, .inl (k1, 400, .inl (pm_nf9 ((pm_un cn N F))))), (a2, .inl (k2, 8000, .inl (pm_fill fl (N * 20) F))), (a3, .inl (k3, 16, .inl rt))] := hD
    refine lv_iload_n hx hb dX0_addObject_76 rfl (lv_at hl 1 rfl) ?_
    exact W.iret (v := nI N) hx hb hr (fun t ht hW => ⟨⟨nI N, (), rfl, rfl, by rw [ht]; exact hP, va_K.moved hW.alike hK, hD⟩, hS.F ht⟩) hS.2.2 dX0_addObject_77
  · rw [nI_leI (by omega) (by omega)] at c_35
    refine lv_aload_n hx hb dX0_addObject_38 rfl (lv_at hl 3 rfl) ?_
    refine va_get (D := (dC, dI)) (ci := 0) (v := .ref a2) (C := RX0) (T := TX0) (N := 5) hx hb hts iw_X0 hown hK hP 0 rfl rfl 1 (by decide) (hts _ mf_X0_15) (fun _ h9 => h9) rfl dX0_addObject_39 ?_
    refine lv_iload_n hx hb dX0_addObject_42 rfl (lv_at hl 1 rfl) ?_
    refine lv_bipush (v := nI 20) hx hb dX0_addObject_43 (by decide +kernel) ?_
    refine lv_imul hx hb dX0_addObject_45 ?_
    refine lv_topi (fun x_3 ex_3 => ?_)
    obtain rfl : x_3 = nI (N * 20) := ex_3.trans (pk_mul _ _)
    refine lv_iload_n hx hb dX0_addObject_46 rfl (lv_at hl 0 rfl) ?_
    refine lv_iadd hx hb dX0_addObject_47 ?_
    refine lv_topi (fun x_4 ex_4 => ?_)
    obtain rfl : x_4 = nI ((N * 20) + j) := ex_4.trans (nI_add _ _)
    refine lv_iconst (v := -1) hx hb dX0_addObject_48 (by decide +kernel) ?_
    refine va_iast hx hb hK hP hD hS 2 1 rfl rfl (vp_in_nI (by omega) (by omega)) dX0_addObject_49 (fun H locs hP hD hS => ?_)
    rw [nI_clamp (by omega)] at hP hD
    have hP : va_P (dC, dI) vwCl [(h0, .inr (0, [.ref a1, .ref a2, .ref a3, .int (nI N), .int fa])), (a1, .inl (k1, 400, .inl (pm_nf9 ((pm_un cn N F))))), (a2, .inl (k2, 8000, .inl (upd (pm_fill fl (N * 20) j) (((N * 20) + j)) (-1)))), (a3, .inl (k3, 16, .inl rt))] H := hP
    have hD : va_D A [(h0, .inr (0, [.ref a1, .ref a2, .ref a3, .int (nI N), .int fa])), (a1, .inl (k1, 400, .inl (pm_nf9 ((pm_un cn N F))))), (a2, .inl (k2, 8000, .inl (upd (pm_fill fl (N * 20) j) (((N * 20) + j)) (-1)))), (a3, .inl (k3, 16, .inl rt))] := hD
    rw [show upd (pm_fill fl (N * 20) j) (((N * 20) + j)) (-1) = pm_fill fl (N * 20) (j + 1) from pm_fill_s fl (N * 20) j] at hP hD
    refine lv_iinc (v := nI (j + 1)) (lv' := [(3, .int (nI (j + 1))), (2, .int (nI N)), (1, .int (nI F)), (0, .ref h0)]) hx hb dX0_addObject_50 hl (k := 0) rfl (nI_1 _) (by decide) rfl (fun ls hl => ?_)
    refine lv_goto (tgt := 33) hx hb dX0_addObject_53 (by decide) ?_
    exact ih (j + 1) _ _ _ ⟨by omega, hP, hD, hS, lv_sub hl [0, 1, 2, 3] rfl⟩ (by omega)

set_option maxHeartbeats 4000000 in
set_option maxRecDepth 100000 in
/-- Heap.putField(k, field, other) -/
theorem c_H_putField (l : Launch) (dC : Nat → ClassId) (dI : Nat → Nat → Nat) (h0 a1 a2 a3 : Nat) (k1 k2 k3 : ClassId) (N : Nat) (cn : Nat → Nat) (fl rt : Nat → Int32) (fa : Int32) (a j : Nat) (p2 : Int32) (sz : Nat) (hN : N ≤ 400) (hc : ∀ k, k < N → cn k ≤ 20) (ha : a < N) (hj : j < cn a) : Met l yX0_putField wsX0_putField ({ frames := 3, cells := 0, slots := 0, locals := 65 }) (va_Pc [.ref h0, .int (nI a), .int (nI j), .int p2] (fun U => U.heap.size = sz ∧ va_P (dC, dI) vwCl [(h0, .inr (0, [.ref a1, .ref a2, .ref a3, .int (nI N), .int fa])), (a1, .inl (k1, 400, .inl (pm_nf9 cn))), (a2, .inl (k2, 8000, .inl fl)), (a3, .inl (k3, 16, .inl rt))] U.heap ∧ va_K (dC, dI) vwCl [(k1, .int), (k2, .int), (k3, .int)] U ∧ va_D (fun _ => True) [(h0, .inr (0, [.ref a1, .ref a2, .ref a3, .int (nI N), .int fa])), (a1, .inl (k1, 400, .inl (pm_nf9 cn))), (a2, .inl (k2, 8000, .inl fl)), (a3, .inl (k3, 16, .inl rt))])) (va_Qi (fun (r : Int32) (_ : Unit) => r = fl (a * 20 + j)) (fun (_ : Unit) (t : State) => va_P (dC, dI) vwCl [(h0, .inr (0, [.ref a1, .ref a2, .ref a3, .int (nI N), .int fa])), (a1, .inl (k1, 400, .inl (pm_nf9 cn))), (a2, .inl (k2, 8000, .inl (upd fl (a * 20 + j) p2))), (a3, .inl (k3, 16, .inl rt))] t.heap ∧ va_K (dC, dI) vwCl [(k1, .int), (k2, .int), (k3, .int)] t ∧ va_D (va_A [(h0, .inr (0, [.ref a1, .ref a2, .ref a3, .int (nI N), .int fa])), (a1, .inl (k1, 400, .inl (pm_nf9 cn))), (a2, .inl (k2, 8000, .inl fl)), (a3, .inl (k3, 16, .inl rt))] sz) [(h0, .inr (0, [.ref a1, .ref a2, .ref a3, .int (nI N), .int fa])), (a1, .inl (k1, 400, .inl (pm_nf9 cn))), (a2, .inl (k2, 8000, .inl (upd fl (a * 20 + j) p2))), (a3, .inl (k3, 16, .inl rt))]) (va_A [(h0, .inr (0, [.ref a1, .ref a2, .ref a3, .int (nI N), .int fa])), (a1, .inl (k1, 400, .inl (pm_nf9 cn))), (a2, .inl (k2, 8000, .inl fl)), (a3, .inl (k3, 16, .inl rt))] sz)) 0 0 (va_A [(h0, .inr (0, [.ref a1, .ref a2, .ref a3, .int (nI N), .int fa])), (a1, .inl (k1, 400, .inl (pm_nf9 cn))), (a2, .inl (k2, 8000, .inl fl)), (a3, .inl (k3, 16, .inl rt))] sz) := by
  refine Met.ofW (cc := cX0_putField) (maxL := 5) (ret := (some .int)) (by decide) rfl ?_
  intro p e s m args below meth c s₁ B hml hv
  obtain ⟨rfl, hsz, hP, hK, hD0⟩ := hv
  have hx := B.exec
  have hb := B.bytes
  have hr := B.returns
  have hts : ∀ w ∈ gw, w.before _ s = true := fun w h => atoms_spec (ws := wsX0_putField) B.pre w (List.mem_cons_of_mem _ h)
  have hown : s.vm.findClass RX0 = some m.cls := findClass_of_methodNamed B.named
  have hlocks := B.notSynchronized
  subst hsz
  have hD := hD0.self (sz := s.heap.size)
  generalize hAe : va_A [(h0, .inr (0, [.ref a1, .ref a2, .ref a3, .int (nI N), .int fa])), (a1, .inl (k1, 400, .inl (pm_nf9 cn))), (a2, .inl (k2, 8000, .inl fl)), (a3, .inl (k3, 16, .inl rt))] s.heap.size = A at hD ⊢
  have hA : ∀ q : Nat, s.heap.size ≤ q → A q := fun q h => by rw [← hAe]; exact Or.inr h
  have hP : va_P (dC, dI) vwCl [(h0, .inr (0, [.ref a1, .ref a2, .ref a3, .int (nI N), .int fa])), (a1, .inl (k1, 400, .inl (pm_nf9 cn))), (a2, .inl (k2, 8000, .inl fl)), (a3, .inl (k3, 16, .inl rt))] s.heap := hP
  have hl := lv_entry ([.ref h0, .int (nI a), .int (nI j), .int p2]) (n := 5) (Nat.le_of_ble_eq_true rfl)
  rw [lg_entry_eq]
  generalize (lg_sl ([.ref h0, .int (nI a), .int (nI j), .int p2]) ++ List.replicate (5 - (lg_sl ([.ref h0, .int (nI a), .int (nI j), .int p2])).length) Slot.unset).toArray = ls at hl ⊢
  have hl : lv_has ls 5 [(0, .ref h0), (1, .int (nI a)), (2, .int (nI j)), (3, .int p2)] := hl
  obtain ⟨H, hH⟩ : ∃ H : Heap, H = s.heap := ⟨_, rfl⟩
  rw [← hH]
  rw [← hH] at hP
  have hS : va_S A s.heap H [] := by rw [hH]; exact va_S.rf
  clear hH
  have hca := hc a ha
  refine lv_aload_n hx hb dX0_putField_0 rfl (lv_at hl 0 rfl) ?_
  refine lv_iload_n hx hb dX0_putField_1 rfl (lv_at hl 1 rfl) ?_
  refine lv_iload_n hx hb dX0_putField_2 rfl (lv_at hl 2 rfl) ?_
  have hPc := hP.sub (ws' := [(h0, .inr (0, [.ref a1, .ref a2, .ref a3, .int (nI N), .int fa])), (a1, .inl (k1, 400, .inl (pm_nf9 cn))), (a2, .inl (k2, 8000, .inl fl)), (a3, .inl (k3, 16, .inl rt))]) [0, 1, 2, 3] rfl
  have hDc := hD.sub (ws' := [(h0, .inr (0, [.ref a1, .ref a2, .ref a3, .int (nI N), .int fa])), (a1, .inl (k1, 400, .inl (pm_nf9 cn))), (a2, .inl (k2, 8000, .inl fl)), (a3, .inl (k3, 16, .inl rt))]) [0, 1, 2, 3] (by decide) rfl
  have hKc := hK.sub (tys' := [(k1, .int), (k2, .int), (k3, .int)]) [0, 1, 2] rfl
  have hFc := va_free (wc := [(h0, .inr (0, [.ref a1, .ref a2, .ref a3, .int (nI N), .int fa])), (a1, .inl (k1, 400, .inl (pm_nf9 cn))), (a2, .inl (k2, 8000, .inl fl)), (a3, .inl (k3, 16, .inl rt))]) hD hS hA [0, 1, 2, 3] rfl
  refine va_calli (va_runV (As := [.int (nI a), .int (nI j)]) (rest := []) ⟨hx, hb, hml, hown, hts⟩ (c_H_fieldOf l dC dI h0 a1 a2 a3 k1 k2 k3 N cn fl rt fa (nI a) (nI j) H.size (hN) (hc)) (cwV 2 hts (gw_V ml_X0_40 mi_X0_fieldOf ms_X0_fieldOf mn_X0 mc_X0_fieldOf) rfl rfl rfl (by decide +kernel) ⟨Nat.le_of_ble_eq_true rfl, Nat.le_of_ble_eq_true rfl⟩) ⟨fun a U g mk q => by obtain ⟨q0, q1, qP, qK, qD⟩ := q; exact ⟨q0, q1, qP, va_K.moved (u := U) (U := U.calling g mk a) (Vm.Alike.refl U.vm) qK, qD⟩, va_recv hKc hPc (ci := 0) (q0 := 0) rfl rfl, fun U hU hW => ⟨rfl, by rw [hU], by rw [hU]; exact hPc, va_K.moved hW.alike hKc, hDc.weaken (fun _ _ _ _ => trivial)⟩⟩ rfl rfl hl.1 rfl (lv_room (Nat.le_of_ble_eq_true rfl)) dX0_putField_3 ⟨Nat.le_of_ble_eq_true rfl, Nat.le_of_ble_eq_true rfl⟩) hS (fun q _ h => hFc q h) hFc (fun r_1 u t H1 locs ht hvm hw hB hz1 hk1 hS => ?_)
  obtain ⟨hP1, hK1, hD1⟩ := hB
  rw [ht] at hP1
  have hK1 := va_K.moved hvm.symm hK1
  obtain ⟨hP, hD⟩ := va_join (wr := []) (w1 := [(h0, .inr (0, [.ref a1, .ref a2, .ref a3, .int (nI N), .int fa])), (a1, .inl (k1, 400, .inl (pm_nf9 cn))), (a2, .inl (k2, 8000, .inl fl)), (a3, .inl (k3, 16, .inl rt))]) hP hD [0, 1, 2, 3] [] rfl rfl (by decide) (by decide) hk1 hFc hP1 hD1
  clear hPc hDc hKc hFc hP1 hK1 hD1
  generalize H1 = H at hP hS ⊢
  have hP : va_P (dC, dI) vwCl [(h0, .inr (0, [.ref a1, .ref a2, .ref a3, .int (nI N), .int fa])), (a1, .inl (k1, 400, .inl (pm_nf9 cn))), (a2, .inl (k2, 8000, .inl fl)), (a3, .inl (k3, 16, .inl rt))] H := hP.sub [0, 1, 2, 3] rfl
  have hD : va_D A [(h0, .inr (0, [.ref a1, .ref a2, .ref a3, .int (nI N), .int fa])), (a1, .inl (k1, 400, .inl (pm_nf9 cn))), (a2, .inl (k2, 8000, .inl fl)), (a3, .inl (k3, 16, .inl rt))] := hD.sub [0, 1, 2, 3] (by decide) rfl
  obtain rfl : r_1 = fl (a * 20 + j) := hw.trans ((pm_fo_t (pm_hf_nI (by omega) (by omega) ha hj) (by omega) (by omega)).symm)
  refine lv_istore (lv' := [(4, .int (fl (a * 20 + j))), (0, .ref h0), (1, .int (nI a)), (2, .int (nI j)), (3, .int p2)]) hx hb dX0_putField_6 hl (by decide) rfl (fun ls hl => ?_)
  refine lv_aload_n hx hb dX0_putField_8 rfl (lv_at hl 1 rfl) ?_
  refine lv_iload_n hx hb dX0_putField_9 rfl (lv_at hl 2 rfl) ?_
  refine lv_iload_n hx hb dX0_putField_10 rfl (lv_at hl 3 rfl) ?_
  have hPc := hP.sub (ws' := [(h0, .inr (0, [.ref a1, .ref a2, .ref a3, .int (nI N), .int fa])), (a1, .inl (k1, 400, .inl (pm_nf9 cn))), (a2, .inl (k2, 8000, .inl fl)), (a3, .inl (k3, 16, .inl rt))]) [0, 1, 2, 3] rfl
  have hDc := hD.sub (ws' := [(h0, .inr (0, [.ref a1, .ref a2, .ref a3, .int (nI N), .int fa])), (a1, .inl (k1, 400, .inl (pm_nf9 cn))), (a2, .inl (k2, 8000, .inl fl)), (a3, .inl (k3, 16, .inl rt))]) [0, 1, 2, 3] (by decide) rfl
  have hKc := hK.sub (tys' := [(k1, .int), (k2, .int), (k3, .int)]) [0, 1, 2] rfl
  have hFc := va_free (wc := [(h0, .inr (0, [.ref a1, .ref a2, .ref a3, .int (nI N), .int fa])), (a1, .inl (k1, 400, .inl (pm_nf9 cn))), (a2, .inl (k2, 8000, .inl fl)), (a3, .inl (k3, 16, .inl rt))]) hD hS hA [0, 1, 2, 3] rfl
  refine va_calli (va_runV (As := [.int (nI a), .int (nI j)]) (rest := []) ⟨hx, hb, hml, hown, hts⟩ (c_H_hasField l dC dI h0 a1 a2 a3 k1 k2 k3 N cn fl rt fa (nI a) (nI j) H.size (hN)) (cwV 2 hts (gw_V ml_X0_36 mi_X0_hasField ms_X0_hasField mn_X0 mc_X0_hasField) rfl rfl rfl (by decide +kernel) ⟨Nat.le_of_ble_eq_true rfl, Nat.le_of_ble_eq_true rfl⟩) ⟨fun a U g mk q => by obtain ⟨q0, q1, qP, qK, qD⟩ := q; exact ⟨q0, q1, qP, va_K.moved (u := U) (U := U.calling g mk a) (Vm.Alike.refl U.vm) qK, qD⟩, va_recv hKc hPc (ci := 0) (q0 := 0) rfl rfl, fun U hU hW => ⟨rfl, by rw [hU], by rw [hU]; exact hPc, va_K.moved hW.alike hKc, hDc.weaken (fun _ _ _ _ => trivial)⟩⟩ rfl rfl hl.1 rfl (lv_room (Nat.le_of_ble_eq_true rfl)) dX0_putField_11 ⟨Nat.le_of_ble_eq_true rfl, Nat.le_of_ble_eq_true rfl⟩) hS (fun q _ h => hFc q h) hFc (fun r_2 u t H1 locs ht hvm hw hB hz1 hk1 hS => ?_)
  obtain ⟨hP1, hK1, hD1⟩ := hB
  rw [ht] at hP1
  have hK1 := va_K.moved hvm.symm hK1
  obtain ⟨hP, hD⟩ := va_join (wr := []) (w1 := [(h0, .inr (0, [.ref a1, .ref a2, .ref a3, .int (nI N), .int fa])), (a1, .inl (k1, 400, .inl (pm_nf9 cn))), (a2, .inl (k2, 8000, .inl fl)), (a3, .inl (k3, 16, .inl rt))]) hP hD [0, 1, 2, 3] [] rfl rfl (by decide) (by decide) hk1 hFc hP1 hD1
  clear hPc hDc hKc hFc hP1 hK1 hD1
  generalize H1 = H at hP hS ⊢
  have hP : va_P (dC, dI) vwCl [(h0, .inr (0, [.ref a1, .ref a2, .ref a3, .int (nI N), .int fa])), (a1, .inl (k1, 400, .inl (pm_nf9 cn))), (a2, .inl (k2, 8000, .inl fl)), (a3, .inl (k3, 16, .inl rt))] H := hP.sub [0, 1, 2, 3] rfl
  have hD : va_D A [(h0, .inr (0, [.ref a1, .ref a2, .ref a3, .int (nI N), .int fa])), (a1, .inl (k1, 400, .inl (pm_nf9 cn))), (a2, .inl (k2, 8000, .inl fl)), (a3, .inl (k3, 16, .inl rt))] := hD.sub [0, 1, 2, 3] (by decide) rfl
  obtain rfl : r_2 = nI 1 := hw.trans (by rw [pm_hf_nI (by omega) (by omega) ha hj]; rfl)
  refine lv_if_eq (tgt := 29) hx hb dX0_putField_14 (by decide) (fun c_14 => absurd c_14 (by decide +kernel)) (fun c_14 => ?_)
  refine lv_aload_n hx hb dX0_putField_17 rfl (lv_at hl 1 rfl) ?_
  refine va_get (D := (dC, dI)) (ci := 0) (v := .ref a2) (C := RX0) (T := TX0) (N := 5) hx hb hts iw_X0 hown hK hP 0 rfl rfl 1 (by decide) (hts _ mf_X0_15) (fun _ h9 => h9) rfl dX0_putField_18 ?_
  refine lv_iload_n hx hb dX0_putField_21 rfl (lv_at hl 2 rfl) ?_
  refine lv_bipush (v := nI 20) hx hb dX0_putField_22 (by decide +kernel) ?_
  refine lv_imul hx hb dX0_putField_24 ?_
  refine lv_topi (fun x_3 ex_3 => ?_)
  obtain rfl : x_3 = nI (a * 20) := ex_3.trans (pk_mul _ _)
  refine lv_iload_n hx hb dX0_putField_25 rfl (lv_at hl 3 rfl) ?_
  refine lv_iadd hx hb dX0_putField_26 ?_
  refine lv_topi (fun x_4 ex_4 => ?_)
  obtain rfl : x_4 = nI ((a * 20) + j) := ex_4.trans (nI_add _ _)
  refine lv_iload_n hx hb dX0_putField_27 rfl (lv_at hl 4 rfl) ?_
  refine va_iast hx hb hK hP hD hS 2 1 rfl rfl (vp_in_nI (by omega) (by omega)) dX0_putField_28 (fun H locs hP hD hS => ?_)
  rw [nI_clamp (by omega)] at hP hD
  have hP : va_P (dC, dI) vwCl [(h0, .inr (0, [.ref a1, .ref a2, .ref a3, .int (nI N), .int fa])), (a1, .inl (k1, 400, .inl (pm_nf9 cn))), (a2, .inl (k2, 8000, .inl (upd fl (((a * 20) + j)) p2))), (a3, .inl (k3, 16, .inl rt))] H := hP
  have hD : va_D A [(h0, .inr (0, [.ref a1, .ref a2, .ref a3, .int (nI N), .int fa])), (a1, .inl (k1, 400, .inl (pm_nf9 cn))), (a2, .inl (k2, 8000, .inl (upd fl (((a * 20) + j)) p2))), (a3, .inl (k3, 16, .inl rt))] := hD
  refine lv_iload hx hb dX0_putField_29 (lv_at hl 0 rfl) ?_
  exact W.iret (v := fl (a * 20 + j)) hx hb hr (fun t ht hW => ⟨⟨fl (a * 20 + j), (), rfl, rfl, by rw [ht]; exact hP, va_K.moved hW.alike hK, hD⟩, hS.F ht⟩) hS.2.2 dX0_putField_31

set_option maxHeartbeats 4000000 in
set_option maxRecDepth 100000 in
/-- Heap.putRoot(i, k) -/
theorem c_H_putRoot (l : Launch) (dC : Nat → ClassId) (dI : Nat → Nat → Nat) (h0 a1 a2 a3 : Nat) (k1 k2 k3 : ClassId) (N : Nat) (cn : Nat → Nat) (fl rt : Nat → Int32) (fa : Int32) (i : Nat) (p1 : Int32) (sz : Nat) (hi : i < 16) : Met l yX0_putRoot wsX0_putRoot ({ frames := 2, cells := 0, slots := 0, locals := 43 }) (va_Pc [.ref h0, .int (nI i), .int p1] (fun U => U.heap.size = sz ∧ va_P (dC, dI) vwCl [(h0, .inr (0, [.ref a1, .ref a2, .ref a3, .int (nI N), .int fa])), (a1, .inl (k1, 400, .inl (pm_nf9 cn))), (a2, .inl (k2, 8000, .inl fl)), (a3, .inl (k3, 16, .inl rt))] U.heap ∧ va_K (dC, dI) vwCl [(k1, .int), (k2, .int), (k3, .int)] U ∧ va_D (fun _ => True) [(h0, .inr (0, [.ref a1, .ref a2, .ref a3, .int (nI N), .int fa])), (a1, .inl (k1, 400, .inl (pm_nf9 cn))), (a2, .inl (k2, 8000, .inl fl)), (a3, .inl (k3, 16, .inl rt))])) (va_Qi (fun (r : Int32) (_ : Unit) => r = rt i) (fun (_ : Unit) (t : State) => va_P (dC, dI) vwCl [(h0, .inr (0, [.ref a1, .ref a2, .ref a3, .int (nI N), .int fa])), (a1, .inl (k1, 400, .inl (pm_nf9 cn))), (a2, .inl (k2, 8000, .inl fl)), (a3, .inl (k3, 16, .inl (upd rt i p1)))] t.heap ∧ va_K (dC, dI) vwCl [(k1, .int), (k2, .int), (k3, .int)] t ∧ va_D (va_A [(h0, .inr (0, [.ref a1, .ref a2, .ref a3, .int (nI N), .int fa])), (a1, .inl (k1, 400, .inl (pm_nf9 cn))), (a2, .inl (k2, 8000, .inl fl)), (a3, .inl (k3, 16, .inl rt))] sz) [(h0, .inr (0, [.ref a1, .ref a2, .ref a3, .int (nI N), .int fa])), (a1, .inl (k1, 400, .inl (pm_nf9 cn))), (a2, .inl (k2, 8000, .inl fl)), (a3, .inl (k3, 16, .inl (upd rt i p1)))]) (va_A [(h0, .inr (0, [.ref a1, .ref a2, .ref a3, .int (nI N), .int fa])), (a1, .inl (k1, 400, .inl (pm_nf9 cn))), (a2, .inl (k2, 8000, .inl fl)), (a3, .inl (k3, 16, .inl rt))] sz)) 0 0 (va_A [(h0, .inr (0, [.ref a1, .ref a2, .ref a3, .int (nI N), .int fa])), (a1, .inl (k1, 400, .inl (pm_nf9 cn))), (a2, .inl (k2, 8000, .inl fl)), (a3, .inl (k3, 16, .inl rt))] sz) := by
  refine Met.ofW (cc := cX0_putRoot) (maxL := 4) (ret := (some .int)) (by decide) rfl ?_
  intro p e s m args below meth c s₁ B hml hv
  obtain ⟨rfl, hsz, hP, hK, hD0⟩ := hv
  have hx := B.exec
  have hb := B.bytes
  have hr := B.returns
  have hts : ∀ w ∈ gw, w.before _ s = true := fun w h => atoms_spec (ws := wsX0_putRoot) B.pre w (List.mem_cons_of_mem _ h)
  have hown : s.vm.findClass RX0 = some m.cls := findClass_of_methodNamed B.named
  have hlocks := B.notSynchronized
  subst hsz
  have hD := hD0.self (sz := s.heap.size)
  generalize hAe : va_A [(h0, .inr (0, [.ref a1, .ref a2, .ref a3, .int (nI N), .int fa])), (a1, .inl (k1, 400, .inl (pm_nf9 cn))), (a2, .inl (k2, 8000, .inl fl)), (a3, .inl (k3, 16, .inl rt))] s.heap.size = A at hD ⊢
  have hA : ∀ q : Nat, s.heap.size ≤ q → A q := fun q h => by rw [← hAe]; exact Or.inr h
  have hP : va_P (dC, dI) vwCl [(h0, .inr (0, [.ref a1, .ref a2, .ref a3, .int (nI N), .int fa])), (a1, .inl (k1, 400, .inl (pm_nf9 cn))), (a2, .inl (k2, 8000, .inl fl)), (a3, .inl (k3, 16, .inl rt))] s.heap := hP
  have hl := lv_entry ([.ref h0, .int (nI i), .int p1]) (n := 4) (Nat.le_of_ble_eq_true rfl)
  rw [lg_entry_eq]
  generalize (lg_sl ([.ref h0, .int (nI i), .int p1]) ++ List.replicate (4 - (lg_sl ([.ref h0, .int (nI i), .int p1])).length) Slot.unset).toArray = ls at hl ⊢
  have hl : lv_has ls 4 [(0, .ref h0), (1, .int (nI i)), (2, .int p1)] := hl
  obtain ⟨H, hH⟩ : ∃ H : Heap, H = s.heap := ⟨_, rfl⟩
  rw [← hH]
  rw [← hH] at hP
  have hS : va_S A s.heap H [] := by rw [hH]; exact va_S.rf
  clear hH
  refine lv_aload_n hx hb dX0_putRoot_0 rfl (lv_at hl 0 rfl) ?_
  refine lv_iload_n hx hb dX0_putRoot_1 rfl (lv_at hl 1 rfl) ?_
  have hPc := hP.sub (ws' := [(h0, .inr (0, [.ref a1, .ref a2, .ref a3, .int (nI N), .int fa])), (a1, .inl (k1, 400, .inl (pm_nf9 cn))), (a2, .inl (k2, 8000, .inl fl)), (a3, .inl (k3, 16, .inl rt))]) [0, 1, 2, 3] rfl
  have hDc := hD.sub (ws' := [(h0, .inr (0, [.ref a1, .ref a2, .ref a3, .int (nI N), .int fa])), (a1, .inl (k1, 400, .inl (pm_nf9 cn))), (a2, .inl (k2, 8000, .inl fl)), (a3, .inl (k3, 16, .inl rt))]) [0, 1, 2, 3] (by decide) rfl
  have hKc := hK.sub (tys' := [(k1, .int), (k2, .int), (k3, .int)]) [0, 1, 2] rfl
  have hFc := va_free (wc := [(h0, .inr (0, [.ref a1, .ref a2, .ref a3, .int (nI N), .int fa])), (a1, .inl (k1, 400, .inl (pm_nf9 cn))), (a2, .inl (k2, 8000, .inl fl)), (a3, .inl (k3, 16, .inl rt))]) hD hS hA [0, 1, 2, 3] rfl
  refine va_calli (va_runV (As := [.int (nI i)]) (rest := []) ⟨hx, hb, hml, hown, hts⟩ (c_H_rootAt l dC dI h0 a1 a2 a3 k1 k2 k3 N cn fl rt fa (nI i) H.size) (cwV 1 hts (gw_V ml_X0_47 mi_X0_rootAt ms_X0_rootAt mn_X0 mc_X0_rootAt) rfl rfl rfl (by decide +kernel) ⟨Nat.le_of_ble_eq_true rfl, Nat.le_of_ble_eq_true rfl⟩) ⟨fun a U g mk q => by obtain ⟨q0, q1, qP, qK, qD⟩ := q; exact ⟨q0, q1, qP, va_K.moved (u := U) (U := U.calling g mk a) (Vm.Alike.refl U.vm) qK, qD⟩, va_recv hKc hPc (ci := 0) (q0 := 0) rfl rfl, fun U hU hW => ⟨rfl, by rw [hU], by rw [hU]; exact hPc, va_K.moved hW.alike hKc, hDc.weaken (fun _ _ _ _ => trivial)⟩⟩ rfl rfl hl.1 rfl (lv_room (Nat.le_of_ble_eq_true rfl)) dX0_putRoot_2 ⟨Nat.le_of_ble_eq_true rfl, Nat.le_of_ble_eq_true rfl⟩) hS (fun q _ h => hFc q h) hFc (fun r_1 u t H1 locs ht hvm hw hB hz1 hk1 hS => ?_)
  obtain ⟨hP1, hK1, hD1⟩ := hB
  rw [ht] at hP1
  have hK1 := va_K.moved hvm.symm hK1
  obtain ⟨hP, hD⟩ := va_join (wr := []) (w1 := [(h0, .inr (0, [.ref a1, .ref a2, .ref a3, .int (nI N), .int fa])), (a1, .inl (k1, 400, .inl (pm_nf9 cn))), (a2, .inl (k2, 8000, .inl fl)), (a3, .inl (k3, 16, .inl rt))]) hP hD [0, 1, 2, 3] [] rfl rfl (by decide) (by decide) hk1 hFc hP1 hD1
  clear hPc hDc hKc hFc hP1 hK1 hD1
  generalize H1 = H at hP hS ⊢
  have hP : va_P (dC, dI) vwCl [(h0, .inr (0, [.ref a1, .ref a2, .ref a3, .int (nI N), .int fa])), (a1, .inl (k1, 400, .inl (pm_nf9 cn))), (a2, .inl (k2, 8000, .inl fl)), (a3, .inl (k3, 16, .inl rt))] H := hP.sub [0, 1, 2, 3] rfl
  have hD : va_D A [(h0, .inr (0, [.ref a1, .ref a2, .ref a3, .int (nI N), .int fa])), (a1, .inl (k1, 400, .inl (pm_nf9 cn))), (a2, .inl (k2, 8000, .inl fl)), (a3, .inl (k3, 16, .inl rt))] := hD.sub [0, 1, 2, 3] (by decide) rfl
  obtain rfl : r_1 = rt i := hw.trans (by rw [if_pos (pm_has_nI (by omega) hi), nI_clamp (by omega)])
  refine lv_istore_n (lv' := [(3, .int (rt i)), (0, .ref h0), (1, .int (nI i)), (2, .int p1)]) hx hb dX0_putRoot_5 rfl hl (by decide) rfl (fun ls hl => ?_)
  refine lv_aload_n hx hb dX0_putRoot_6 rfl (lv_at hl 1 rfl) ?_
  refine lv_iload_n hx hb dX0_putRoot_7 rfl (lv_at hl 2 rfl) ?_
  have hPc := hP.sub (ws' := [(h0, .inr (0, [.ref a1, .ref a2, .ref a3, .int (nI N), .int fa])), (a1, .inl (k1, 400, .inl (pm_nf9 cn))), (a2, .inl (k2, 8000, .inl fl)), (a3, .inl (k3, 16, .inl rt))]) [0, 1, 2, 3] rfl
  have hDc := hD.sub (ws' := [(h0, .inr (0, [.ref a1, .ref a2, .ref a3, .int (nI N), .int fa])), (a1, .inl (k1, 400, .inl (pm_nf9 cn))), (a2, .inl (k2, 8000, .inl fl)), (a3, .inl (k3, 16, .inl rt))]) [0, 1, 2, 3] (by decide) rfl
  have hKc := hK.sub (tys' := [(k1, .int), (k2, .int), (k3, .int)]) [0, 1, 2] rfl
  have hFc := va_free (wc := [(h0, .inr (0, [.ref a1, .ref a2, .ref a3, .int (nI N), .int fa])), (a1, .inl (k1, 400, .inl (pm_nf9 cn))), (a2, .inl (k2, 8000, .inl fl)), (a3, .inl (k3, 16, .inl rt))]) hD hS hA [0, 1, 2, 3] rfl
  refine va_calli (va_runV (As := [.int (nI i)]) (rest := []) ⟨hx, hb, hml, hown, hts⟩ (c_H_hasRoot l dC dI h0 a1 a2 a3 k1 k2 k3 N cn fl rt fa (nI i) H.size) (cwV 1 hts (gw_V ml_X0_44 mi_X0_hasRoot ms_X0_hasRoot mn_X0 mc_X0_hasRoot) rfl rfl rfl (by decide +kernel) ⟨Nat.le_of_ble_eq_true rfl, Nat.le_of_ble_eq_true rfl⟩) ⟨fun a U g mk q => by obtain ⟨q0, q1, qP, qK, qD⟩ := q; exact ⟨q0, q1, qP, va_K.moved (u := U) (U := U.calling g mk a) (Vm.Alike.refl U.vm) qK, qD⟩, va_recv hKc hPc (ci := 0) (q0 := 0) rfl rfl, fun U hU hW => ⟨rfl, by rw [hU], by rw [hU]; exact hPc, va_K.moved hW.alike hKc, hDc.weaken (fun _ _ _ _ => trivial)⟩⟩ rfl rfl hl.1 rfl (lv_room (Nat.le_of_ble_eq_true rfl)) dX0_putRoot_8 ⟨Nat.le_of_ble_eq_true rfl, Nat.le_of_ble_eq_true rfl⟩) hS (fun q _ h => hFc q h) hFc (fun r_2 u t H1 locs ht hvm hw hB hz1 hk1 hS => ?_)
  obtain ⟨hP1, hK1, hD1⟩ := hB
  rw [ht] at hP1
  have hK1 := va_K.moved hvm.symm hK1
  obtain ⟨hP, hD⟩ := va_join (wr := []) (w1 := [(h0, .inr (0, [.ref a1, .ref a2, .ref a3, .int (nI N), .int fa])), (a1, .inl (k1, 400, .inl (pm_nf9 cn))), (a2, .inl (k2, 8000, .inl fl)), (a3, .inl (k3, 16, .inl rt))]) hP hD [0, 1, 2, 3] [] rfl rfl (by decide) (by decide) hk1 hFc hP1 hD1
  clear hPc hDc hKc hFc hP1 hK1 hD1
  generalize H1 = H at hP hS ⊢
  have hP : va_P (dC, dI) vwCl [(h0, .inr (0, [.ref a1, .ref a2, .ref a3, .int (nI N), .int fa])), (a1, .inl (k1, 400, .inl (pm_nf9 cn))), (a2, .inl (k2, 8000, .inl fl)), (a3, .inl (k3, 16, .inl rt))] H := hP.sub [0, 1, 2, 3] rfl
  have hD : va_D A [(h0, .inr (0, [.ref a1, .ref a2, .ref a3, .int (nI N), .int fa])), (a1, .inl (k1, 400, .inl (pm_nf9 cn))), (a2, .inl (k2, 8000, .inl fl)), (a3, .inl (k3, 16, .inl rt))] := hD.sub [0, 1, 2, 3] (by decide) rfl
  obtain rfl : r_2 = nI 1 := hw.trans (by rw [pm_has_nI (by omega) hi]; rfl)
  refine lv_if_eq (tgt := 21) hx hb dX0_putRoot_11 (by decide) (fun c_11 => absurd c_11 (by decide +kernel)) (fun c_11 => ?_)
  refine lv_aload_n hx hb dX0_putRoot_14 rfl (lv_at hl 1 rfl) ?_
  refine va_get (D := (dC, dI)) (ci := 0) (v := .ref a3) (C := RX0) (T := TX0) (N := 5) hx hb hts iw_X0 hown hK hP 0 rfl rfl 2 (by decide) (hts _ mf_X0_18) (fun _ h9 => h9) rfl dX0_putRoot_15 ?_
  refine lv_iload_n hx hb dX0_putRoot_18 rfl (lv_at hl 2 rfl) ?_
  refine lv_iload_n hx hb dX0_putRoot_19 rfl (lv_at hl 3 rfl) ?_
  refine va_iast hx hb hK hP hD hS 3 2 rfl rfl (vp_in_nI (by omega) (by omega)) dX0_putRoot_20 (fun H locs hP hD hS => ?_)
  rw [nI_clamp (by omega)] at hP hD
  have hP : va_P (dC, dI) vwCl [(h0, .inr (0, [.ref a1, .ref a2, .ref a3, .int (nI N), .int fa])), (a1, .inl (k1, 400, .inl (pm_nf9 cn))), (a2, .inl (k2, 8000, .inl fl)), (a3, .inl (k3, 16, .inl (upd rt i p1)))] H := hP
  have hD : va_D A [(h0, .inr (0, [.ref a1, .ref a2, .ref a3, .int (nI N), .int fa])), (a1, .inl (k1, 400, .inl (pm_nf9 cn))), (a2, .inl (k2, 8000, .inl fl)), (a3, .inl (k3, 16, .inl (upd rt i p1)))] := hD
  refine lv_iload_n hx hb dX0_putRoot_21 rfl (lv_at hl 0 rfl) ?_
  exact W.iret (v := rt i) hx hb hr (fun t ht hW => ⟨⟨rt i, (), rfl, rfl, by rw [ht]; exact hP, va_K.moved hW.alike hK, hD⟩, hS.F ht⟩) hS.2.2 dX0_putRoot_22
end
section
theorem dX1_init_0 : decode cX1_init 0 = .ok (.aload_n 0, 1) := by decide +kernel
theorem dX1_init_1 : decode cX1_init 1 = .ok (.invokespecial 3, 3) := by decide +kernel
theorem dX1_init_4 : decode cX1_init 4 = .ok (.aload_n 0, 1) := by decide +kernel
theorem dX1_init_5 : decode cX1_init 5 = .ok (.aload_n 1, 1) := by decide +kernel
theorem dX1_init_6 : decode cX1_init 6 = .ok (.putfield 9, 3) := by decide +kernel
theorem dX1_init_9 : decode cX1_init 9 = .ok (.aload_n 0, 1) := by decide +kernel
theorem dX1_init_10 : decode cX1_init 10 = .ok (.sipush 400, 3) := by decide +kernel
theorem dX1_init_13 : decode cX1_init 13 = .ok (.newarray .boolean, 2) := by decide +kernel
theorem dX1_init_15 : decode cX1_init 15 = .ok (.putfield 15, 3) := by decide +kernel
theorem dX1_init_18 : decode cX1_init 18 = .ok (.aload_n 0, 1) := by decide +kernel
theorem dX1_init_19 : decode cX1_init 19 = .ok (.sipush 400, 3) := by decide +kernel
theorem dX1_init_22 : decode cX1_init 22 = .ok (.newarray .boolean, 2) := by decide +kernel
theorem dX1_init_24 : decode cX1_init 24 = .ok (.putfield 19, 3) := by decide +kernel
theorem dX1_init_27 : decode cX1_init 27 = .ok (.aload_n 0, 1) := by decide +kernel
theorem dX1_init_28 : decode cX1_init 28 = .ok (.bipush 64, 2) := by decide +kernel
theorem dX1_init_30 : decode cX1_init 30 = .ok (.newarray .int, 2) := by decide +kernel
theorem dX1_init_32 : decode cX1_init 32 = .ok (.putfield 22, 3) := by decide +kernel
theorem dX1_init_35 : decode cX1_init 35 = .ok (.aload_n 0, 1) := by decide +kernel
theorem dX1_init_36 : decode cX1_init 36 = .ok (.bipush 8, 2) := by decide +kernel
theorem dX1_init_38 : decode cX1_init 38 = .ok (.putfield 26, 3) := by decide +kernel
theorem dX1_init_41 : decode cX1_init 41 = .ok (.aload_n 0, 1) := by decide +kernel
theorem dX1_init_42 : decode cX1_init 42 = .ok (.iconst 0, 1) := by decide +kernel
theorem dX1_init_43 : decode cX1_init 43 = .ok (.putfield 30, 3) := by decide +kernel
theorem dX1_init_46 : decode cX1_init 46 = .ok (.aload_n 0, 1) := by decide +kernel
theorem dX1_init_47 : decode cX1_init 47 = .ok (.iconst 0, 1) := by decide +kernel
theorem dX1_init_48 : decode cX1_init 48 = .ok (.putfield 33, 3) := by decide +kernel
theorem dX1_init_51 : decode cX1_init 51 = .ok (.aload_n 0, 1) := by decide +kernel
theorem dX1_init_52 : decode cX1_init 52 = .ok (.sipush 400, 3) := by decide +kernel
theorem dX1_init_55 : decode cX1_init 55 = .ok (.putfield 36, 3) := by decide +kernel
theorem dX1_init_58 : decode cX1_init 58 = .ok (.aload_n 0, 1) := by decide +kernel
theorem dX1_init_59 : decode cX1_init 59 = .ok (.sipush 400, 3) := by decide +kernel
theorem dX1_init_62 : decode cX1_init 62 = .ok (.putfield 39, 3) := by decide +kernel
theorem dX1_init_65 : decode cX1_init 65 = .ok (.return_, 1) := by decide +kernel
theorem dX1_noteChange_0 : decode cX1_noteChange 0 = .ok (.aload_n 0, 1) := by decide +kernel
theorem dX1_noteChange_1 : decode cX1_noteChange 1 = .ok (.getfield 9, 3) := by decide +kernel
theorem dX1_noteChange_4 : decode cX1_noteChange 4 = .ok (.iload_n 1, 1) := by decide +kernel
theorem dX1_noteChange_5 : decode cX1_noteChange 5 = .ok (.invokevirtual 42, 3) := by decide +kernel
theorem dX1_noteChange_8 : decode cX1_noteChange 8 = .ok (.ifCond .eq 23, 3) := by decide +kernel
theorem dX1_noteChange_11 : decode cX1_noteChange 11 = .ok (.aload_n 0, 1) := by decide +kernel
theorem dX1_noteChange_12 : decode cX1_noteChange 12 = .ok (.getfield 19, 3) := by decide +kernel
theorem dX1_noteChange_15 : decode cX1_noteChange 15 = .ok (.iload_n 1, 1) := by decide +kernel
theorem dX1_noteChange_16 : decode cX1_noteChange 16 = .ok (.iconst 1, 1) := by decide +kernel
theorem dX1_noteChange_17 : decode cX1_noteChange 17 = .ok (.bastore, 1) := by decide +kernel
theorem dX1_noteChange_18 : decode cX1_noteChange 18 = .ok (.iload_n 1, 1) := by decide +kernel
theorem dX1_noteChange_19 : decode cX1_noteChange 19 = .ok (.aload_n 0, 1) := by decide +kernel
theorem dX1_noteChange_20 : decode cX1_noteChange 20 = .ok (.getfield 39, 3) := by decide +kernel
theorem dX1_noteChange_23 : decode cX1_noteChange 23 = .ok (.if_icmp .ge 8, 3) := by decide +kernel
theorem dX1_noteChange_26 : decode cX1_noteChange 26 = .ok (.aload_n 0, 1) := by decide +kernel
theorem dX1_noteChange_27 : decode cX1_noteChange 27 = .ok (.iload_n 1, 1) := by decide +kernel
theorem dX1_noteChange_28 : decode cX1_noteChange 28 = .ok (.putfield 39, 3) := by decide +kernel
theorem dX1_noteChange_31 : decode cX1_noteChange 31 = .ok (.return_, 1) := by decide +kernel
theorem dX1_changeLimit_0 : decode cX1_changeLimit 0 = .ok (.aload_n 0, 1) := by decide +kernel
theorem dX1_changeLimit_1 : decode cX1_changeLimit 1 = .ok (.getfield 26, 3) := by decide +kernel
theorem dX1_changeLimit_4 : decode cX1_changeLimit 4 = .ok (.istore_n 2, 1) := by decide +kernel
theorem dX1_changeLimit_5 : decode cX1_changeLimit 5 = .ok (.aload_n 0, 1) := by decide +kernel
theorem dX1_changeLimit_6 : decode cX1_changeLimit 6 = .ok (.iload_n 1, 1) := by decide +kernel
theorem dX1_changeLimit_7 : decode cX1_changeLimit 7 = .ok (.putfield 26, 3) := by decide +kernel
theorem dX1_changeLimit_10 : decode cX1_changeLimit 10 = .ok (.iload_n 2, 1) := by decide +kernel
theorem dX1_changeLimit_11 : decode cX1_changeLimit 11 = .ok (.ireturn, 1) := by decide +kernel
theorem dX1_forgetAll_0 : decode cX1_forgetAll 0 = .ok (.iconst 0, 1) := by decide +kernel
theorem dX1_forgetAll_1 : decode cX1_forgetAll 1 = .ok (.istore_n 1, 1) := by decide +kernel
theorem dX1_forgetAll_2 : decode cX1_forgetAll 2 = .ok (.iload_n 1, 1) := by decide +kernel
theorem dX1_forgetAll_3 : decode cX1_forgetAll 3 = .ok (.sipush 400, 3) := by decide +kernel
theorem dX1_forgetAll_6 : decode cX1_forgetAll 6 = .ok (.if_icmp .ge 23, 3) := by decide +kernel
theorem dX1_forgetAll_9 : decode cX1_forgetAll 9 = .ok (.aload_n 0, 1) := by decide +kernel
theorem dX1_forgetAll_10 : decode cX1_forgetAll 10 = .ok (.getfield 15, 3) := by decide +kernel
theorem dX1_forgetAll_13 : decode cX1_forgetAll 13 = .ok (.iload_n 1, 1) := by decide +kernel
theorem dX1_forgetAll_14 : decode cX1_forgetAll 14 = .ok (.iconst 0, 1) := by decide +kernel
theorem dX1_forgetAll_15 : decode cX1_forgetAll 15 = .ok (.bastore, 1) := by decide +kernel
theorem dX1_forgetAll_16 : decode cX1_forgetAll 16 = .ok (.aload_n 0, 1) := by decide +kernel
theorem dX1_forgetAll_17 : decode cX1_forgetAll 17 = .ok (.getfield 19, 3) := by decide +kernel
theorem dX1_forgetAll_20 : decode cX1_forgetAll 20 = .ok (.iload_n 1, 1) := by decide +kernel
theorem dX1_forgetAll_21 : decode cX1_forgetAll 21 = .ok (.iconst 0, 1) := by decide +kernel
theorem dX1_forgetAll_22 : decode cX1_forgetAll 22 = .ok (.bastore, 1) := by decide +kernel
theorem dX1_forgetAll_23 : decode cX1_forgetAll 23 = .ok (.iinc 1 1, 3) := by decide +kernel
theorem dX1_forgetAll_26 : decode cX1_forgetAll 26 = .ok (.goto (-24), 3) := by decide +kernel
theorem dX1_forgetAll_29 : decode cX1_forgetAll 29 = .ok (.aload_n 0, 1) := by decide +kernel
theorem dX1_forgetAll_30 : decode cX1_forgetAll 30 = .ok (.iconst 0, 1) := by decide +kernel
theorem dX1_forgetAll_31 : decode cX1_forgetAll 31 = .ok (.putfield 30, 3) := by decide +kernel
theorem dX1_forgetAll_34 : decode cX1_forgetAll 34 = .ok (.aload_n 0, 1) := by decide +kernel
theorem dX1_forgetAll_35 : decode cX1_forgetAll 35 = .ok (.iconst 0, 1) := by decide +kernel
theorem dX1_forgetAll_36 : decode cX1_forgetAll 36 = .ok (.putfield 33, 3) := by decide +kernel
theorem dX1_forgetAll_39 : decode cX1_forgetAll 39 = .ok (.aload_n 0, 1) := by decide +kernel
theorem dX1_forgetAll_40 : decode cX1_forgetAll 40 = .ok (.sipush 400, 3) := by decide +kernel
theorem dX1_forgetAll_43 : decode cX1_forgetAll 43 = .ok (.putfield 36, 3) := by decide +kernel
theorem dX1_forgetAll_46 : decode cX1_forgetAll 46 = .ok (.aload_n 0, 1) := by decide +kernel
theorem dX1_forgetAll_47 : decode cX1_forgetAll 47 = .ok (.sipush 400, 3) := by decide +kernel
theorem dX1_forgetAll_50 : decode cX1_forgetAll 50 = .ok (.putfield 39, 3) := by decide +kernel
theorem dX1_forgetAll_53 : decode cX1_forgetAll 53 = .ok (.return_, 1) := by decide +kernel
theorem dX1_doMarkSteps_0 : decode cX1_doMarkSteps 0 = .ok (.iconst 1, 1) := by decide +kernel
theorem dX1_doMarkSteps_1 : decode cX1_doMarkSteps 1 = .ok (.istore_n 2, 1) := by decide +kernel
theorem dX1_doMarkSteps_2 : decode cX1_doMarkSteps 2 = .ok (.iconst 0, 1) := by decide +kernel
theorem dX1_doMarkSteps_3 : decode cX1_doMarkSteps 3 = .ok (.istore_n 3, 1) := by decide +kernel
theorem dX1_doMarkSteps_4 : decode cX1_doMarkSteps 4 = .ok (.iload_n 3, 1) := by decide +kernel
theorem dX1_doMarkSteps_5 : decode cX1_doMarkSteps 5 = .ok (.iload_n 1, 1) := by decide +kernel
theorem dX1_doMarkSteps_6 : decode cX1_doMarkSteps 6 = .ok (.if_icmp .ge 18, 3) := by decide +kernel
theorem dX1_doMarkSteps_9 : decode cX1_doMarkSteps 9 = .ok (.iload_n 2, 1) := by decide +kernel
theorem dX1_doMarkSteps_10 : decode cX1_doMarkSteps 10 = .ok (.ifCond .eq 14, 3) := by decide +kernel
theorem dX1_doMarkSteps_13 : decode cX1_doMarkSteps 13 = .ok (.aload_n 0, 1) := by decide +kernel
theorem dX1_doMarkSteps_14 : decode cX1_doMarkSteps 14 = .ok (.invokevirtual 48, 3) := by decide +kernel
theorem dX1_doMarkSteps_17 : decode cX1_doMarkSteps 17 = .ok (.istore_n 2, 1) := by decide +kernel
theorem dX1_doMarkSteps_18 : decode cX1_doMarkSteps 18 = .ok (.iinc 3 1, 3) := by decide +kernel
theorem dX1_doMarkSteps_21 : decode cX1_doMarkSteps 21 = .ok (.goto (-17), 3) := by decide +kernel
theorem dX1_doMarkSteps_24 : decode cX1_doMarkSteps 24 = .ok (.return_, 1) := by decide +kernel
theorem dX1_markStep_0 : decode cX1_markStep 0 = .ok (.aload_n 0, 1) := by decide +kernel
theorem dX1_markStep_1 : decode cX1_markStep 1 = .ok (.getfield 33, 3) := by decide +kernel
theorem dX1_markStep_4 : decode cX1_markStep 4 = .ok (.bipush 16, 2) := by decide +kernel
theorem dX1_markStep_6 : decode cX1_markStep 6 = .ok (.if_icmp .ge 30, 3) := by decide +kernel
theorem dX1_markStep_9 : decode cX1_markStep 9 = .ok (.aload_n 0, 1) := by decide +kernel
theorem dX1_markStep_10 : decode cX1_markStep 10 = .ok (.aload_n 0, 1) := by decide +kernel
theorem dX1_markStep_11 : decode cX1_markStep 11 = .ok (.getfield 9, 3) := by decide +kernel
theorem dX1_markStep_14 : decode cX1_markStep 14 = .ok (.aload_n 0, 1) := by decide +kernel
theorem dX1_markStep_15 : decode cX1_markStep 15 = .ok (.getfield 33, 3) := by decide +kernel
theorem dX1_markStep_18 : decode cX1_markStep 18 = .ok (.invokevirtual 56, 3) := by decide +kernel
theorem dX1_markStep_21 : decode cX1_markStep 21 = .ok (.invokevirtual 60, 3) := by decide +kernel
theorem dX1_markStep_24 : decode cX1_markStep 24 = .ok (.aload_n 0, 1) := by decide +kernel
theorem dX1_markStep_25 : decode cX1_markStep 25 = .ok (.dup, 1) := by decide +kernel
theorem dX1_markStep_26 : decode cX1_markStep 26 = .ok (.getfield 33, 3) := by decide +kernel
theorem dX1_markStep_29 : decode cX1_markStep 29 = .ok (.iconst 1, 1) := by decide +kernel
theorem dX1_markStep_30 : decode cX1_markStep 30 = .ok (.iadd, 1) := by decide +kernel
theorem dX1_markStep_31 : decode cX1_markStep 31 = .ok (.putfield 33, 3) := by decide +kernel
theorem dX1_markStep_34 : decode cX1_markStep 34 = .ok (.iconst 1, 1) := by decide +kernel
theorem dX1_markStep_35 : decode cX1_markStep 35 = .ok (.ireturn, 1) := by decide +kernel
theorem dX1_markStep_36 : decode cX1_markStep 36 = .ok (.aload_n 0, 1) := by decide +kernel
theorem dX1_markStep_37 : decode cX1_markStep 37 = .ok (.getfield 30, 3) := by decide +kernel
theorem dX1_markStep_40 : decode cX1_markStep 40 = .ok (.ifCond .le 37, 3) := by decide +kernel
theorem dX1_markStep_43 : decode cX1_markStep 43 = .ok (.aload_n 0, 1) := by decide +kernel
theorem dX1_markStep_44 : decode cX1_markStep 44 = .ok (.getfield 30, 3) := by decide +kernel
theorem dX1_markStep_47 : decode cX1_markStep 47 = .ok (.bipush 64, 2) := by decide +kernel
theorem dX1_markStep_49 : decode cX1_markStep 49 = .ok (.if_icmp .gt 28, 3) := by decide +kernel
theorem dX1_markStep_52 : decode cX1_markStep 52 = .ok (.aload_n 0, 1) := by decide +kernel
theorem dX1_markStep_53 : decode cX1_markStep 53 = .ok (.dup, 1) := by decide +kernel
theorem dX1_markStep_54 : decode cX1_markStep 54 = .ok (.getfield 30, 3) := by decide +kernel
theorem dX1_markStep_57 : decode cX1_markStep 57 = .ok (.iconst 1, 1) := by decide +kernel
theorem dX1_markStep_58 : decode cX1_markStep 58 = .ok (.isub, 1) := by decide +kernel
theorem dX1_markStep_59 : decode cX1_markStep 59 = .ok (.putfield 30, 3) := by decide +kernel
theorem dX1_markStep_62 : decode cX1_markStep 62 = .ok (.aload_n 0, 1) := by decide +kernel
theorem dX1_markStep_63 : decode cX1_markStep 63 = .ok (.aload_n 0, 1) := by decide +kernel
theorem dX1_markStep_64 : decode cX1_markStep 64 = .ok (.getfield 22, 3) := by decide +kernel
theorem dX1_markStep_67 : decode cX1_markStep 67 = .ok (.aload_n 0, 1) := by decide +kernel
theorem dX1_markStep_68 : decode cX1_markStep 68 = .ok (.getfield 30, 3) := by decide +kernel
theorem dX1_markStep_71 : decode cX1_markStep 71 = .ok (.iaload, 1) := by decide +kernel
theorem dX1_markStep_72 : decode cX1_markStep 72 = .ok (.invokevirtual 64, 3) := by decide +kernel
theorem dX1_markStep_75 : decode cX1_markStep 75 = .ok (.iconst 1, 1) := by decide +kernel
theorem dX1_markStep_76 : decode cX1_markStep 76 = .ok (.ireturn, 1) := by decide +kernel
theorem dX1_markStep_77 : decode cX1_markStep 77 = .ok (.aload_n 0, 1) := by decide +kernel
theorem dX1_markStep_78 : decode cX1_markStep 78 = .ok (.getfield 36, 3) := by decide +kernel
theorem dX1_markStep_81 : decode cX1_markStep 81 = .ok (.aload_n 0, 1) := by decide +kernel
theorem dX1_markStep_82 : decode cX1_markStep 82 = .ok (.getfield 9, 3) := by decide +kernel
theorem dX1_markStep_85 : decode cX1_markStep 85 = .ok (.invokevirtual 67, 3) := by decide +kernel
end
section
theorem dX1_markStep_88 : decode cX1_markStep 88 = .ok (.if_icmp .ge 33, 3) := by decide +kernel
theorem dX1_markStep_91 : decode cX1_markStep 91 = .ok (.aload_n 0, 1) := by decide +kernel
theorem dX1_markStep_92 : decode cX1_markStep 92 = .ok (.getfield 36, 3) := by decide +kernel
theorem dX1_markStep_95 : decode cX1_markStep 95 = .ok (.istore_n 1, 1) := by decide +kernel
theorem dX1_markStep_96 : decode cX1_markStep 96 = .ok (.aload_n 0, 1) := by decide +kernel
theorem dX1_markStep_97 : decode cX1_markStep 97 = .ok (.dup, 1) := by decide +kernel
theorem dX1_markStep_98 : decode cX1_markStep 98 = .ok (.getfield 36, 3) := by decide +kernel
theorem dX1_markStep_101 : decode cX1_markStep 101 = .ok (.iconst 1, 1) := by decide +kernel
theorem dX1_markStep_102 : decode cX1_markStep 102 = .ok (.iadd, 1) := by decide +kernel
theorem dX1_markStep_103 : decode cX1_markStep 103 = .ok (.putfield 36, 3) := by decide +kernel
theorem dX1_markStep_106 : decode cX1_markStep 106 = .ok (.aload_n 0, 1) := by decide +kernel
theorem dX1_markStep_107 : decode cX1_markStep 107 = .ok (.iload_n 1, 1) := by decide +kernel
theorem dX1_markStep_108 : decode cX1_markStep 108 = .ok (.invokevirtual 71, 3) := by decide +kernel
theorem dX1_markStep_111 : decode cX1_markStep 111 = .ok (.ifCond .eq 8, 3) := by decide +kernel
theorem dX1_markStep_114 : decode cX1_markStep 114 = .ok (.aload_n 0, 1) := by decide +kernel
theorem dX1_markStep_115 : decode cX1_markStep 115 = .ok (.iload_n 1, 1) := by decide +kernel
theorem dX1_markStep_116 : decode cX1_markStep 116 = .ok (.invokevirtual 64, 3) := by decide +kernel
theorem dX1_markStep_119 : decode cX1_markStep 119 = .ok (.iconst 1, 1) := by decide +kernel
theorem dX1_markStep_120 : decode cX1_markStep 120 = .ok (.ireturn, 1) := by decide +kernel
theorem dX1_markStep_121 : decode cX1_markStep 121 = .ok (.iconst 0, 1) := by decide +kernel
theorem dX1_markStep_122 : decode cX1_markStep 122 = .ok (.ireturn, 1) := by decide +kernel
theorem dX1_putMark_0 : decode cX1_putMark 0 = .ok (.aload_n 0, 1) := by decide +kernel
theorem dX1_putMark_1 : decode cX1_putMark 1 = .ok (.getfield 9, 3) := by decide +kernel
theorem dX1_putMark_4 : decode cX1_putMark 4 = .ok (.iload_n 1, 1) := by decide +kernel
theorem dX1_putMark_5 : decode cX1_putMark 5 = .ok (.invokevirtual 42, 3) := by decide +kernel
theorem dX1_putMark_8 : decode cX1_putMark 8 = .ok (.ifCond .eq 24, 3) := by decide +kernel
theorem dX1_putMark_11 : decode cX1_putMark 11 = .ok (.aload_n 0, 1) := by decide +kernel
theorem dX1_putMark_12 : decode cX1_putMark 12 = .ok (.getfield 15, 3) := by decide +kernel
theorem dX1_putMark_15 : decode cX1_putMark 15 = .ok (.iload_n 1, 1) := by decide +kernel
theorem dX1_putMark_16 : decode cX1_putMark 16 = .ok (.baload, 1) := by decide +kernel
theorem dX1_putMark_17 : decode cX1_putMark 17 = .ok (.ifCond .ne 15, 3) := by decide +kernel
theorem dX1_putMark_20 : decode cX1_putMark 20 = .ok (.aload_n 0, 1) := by decide +kernel
theorem dX1_putMark_21 : decode cX1_putMark 21 = .ok (.getfield 15, 3) := by decide +kernel
theorem dX1_putMark_24 : decode cX1_putMark 24 = .ok (.iload_n 1, 1) := by decide +kernel
theorem dX1_putMark_25 : decode cX1_putMark 25 = .ok (.iconst 1, 1) := by decide +kernel
theorem dX1_putMark_26 : decode cX1_putMark 26 = .ok (.bastore, 1) := by decide +kernel
theorem dX1_putMark_27 : decode cX1_putMark 27 = .ok (.aload_n 0, 1) := by decide +kernel
theorem dX1_putMark_28 : decode cX1_putMark 28 = .ok (.iload_n 1, 1) := by decide +kernel
theorem dX1_putMark_29 : decode cX1_putMark 29 = .ok (.invokevirtual 81, 3) := by decide +kernel
theorem dX1_putMark_32 : decode cX1_putMark 32 = .ok (.return_, 1) := by decide +kernel
theorem dX1_keepOrForget_0 : decode cX1_keepOrForget 0 = .ok (.aload_n 0, 1) := by decide +kernel
theorem dX1_keepOrForget_1 : decode cX1_keepOrForget 1 = .ok (.getfield 30, 3) := by decide +kernel
theorem dX1_keepOrForget_4 : decode cX1_keepOrForget 4 = .ok (.ifCond .lt 46, 3) := by decide +kernel
theorem dX1_keepOrForget_7 : decode cX1_keepOrForget 7 = .ok (.aload_n 0, 1) := by decide +kernel
theorem dX1_keepOrForget_8 : decode cX1_keepOrForget 8 = .ok (.getfield 30, 3) := by decide +kernel
theorem dX1_keepOrForget_11 : decode cX1_keepOrForget 11 = .ok (.aload_n 0, 1) := by decide +kernel
theorem dX1_keepOrForget_12 : decode cX1_keepOrForget 12 = .ok (.getfield 26, 3) := by decide +kernel
theorem dX1_keepOrForget_15 : decode cX1_keepOrForget 15 = .ok (.if_icmp .ge 35, 3) := by decide +kernel
theorem dX1_keepOrForget_18 : decode cX1_keepOrForget 18 = .ok (.aload_n 0, 1) := by decide +kernel
theorem dX1_keepOrForget_19 : decode cX1_keepOrForget 19 = .ok (.getfield 30, 3) := by decide +kernel
theorem dX1_keepOrForget_22 : decode cX1_keepOrForget 22 = .ok (.bipush 64, 2) := by decide +kernel
theorem dX1_keepOrForget_24 : decode cX1_keepOrForget 24 = .ok (.if_icmp .ge 26, 3) := by decide +kernel
theorem dX1_keepOrForget_27 : decode cX1_keepOrForget 27 = .ok (.aload_n 0, 1) := by decide +kernel
theorem dX1_keepOrForget_28 : decode cX1_keepOrForget 28 = .ok (.getfield 22, 3) := by decide +kernel
theorem dX1_keepOrForget_31 : decode cX1_keepOrForget 31 = .ok (.aload_n 0, 1) := by decide +kernel
theorem dX1_keepOrForget_32 : decode cX1_keepOrForget 32 = .ok (.getfield 30, 3) := by decide +kernel
theorem dX1_keepOrForget_35 : decode cX1_keepOrForget 35 = .ok (.iload_n 1, 1) := by decide +kernel
theorem dX1_keepOrForget_36 : decode cX1_keepOrForget 36 = .ok (.iastore, 1) := by decide +kernel
theorem dX1_keepOrForget_37 : decode cX1_keepOrForget 37 = .ok (.aload_n 0, 1) := by decide +kernel
theorem dX1_keepOrForget_38 : decode cX1_keepOrForget 38 = .ok (.dup, 1) := by decide +kernel
theorem dX1_keepOrForget_39 : decode cX1_keepOrForget 39 = .ok (.getfield 30, 3) := by decide +kernel
theorem dX1_keepOrForget_42 : decode cX1_keepOrForget 42 = .ok (.iconst 1, 1) := by decide +kernel
theorem dX1_keepOrForget_43 : decode cX1_keepOrForget 43 = .ok (.iadd, 1) := by decide +kernel
theorem dX1_keepOrForget_44 : decode cX1_keepOrForget 44 = .ok (.putfield 30, 3) := by decide +kernel
theorem dX1_keepOrForget_47 : decode cX1_keepOrForget 47 = .ok (.goto 16, 3) := by decide +kernel
theorem dX1_keepOrForget_50 : decode cX1_keepOrForget 50 = .ok (.iload_n 1, 1) := by decide +kernel
theorem dX1_keepOrForget_51 : decode cX1_keepOrForget 51 = .ok (.aload_n 0, 1) := by decide +kernel
theorem dX1_keepOrForget_52 : decode cX1_keepOrForget 52 = .ok (.getfield 36, 3) := by decide +kernel
theorem dX1_keepOrForget_55 : decode cX1_keepOrForget 55 = .ok (.if_icmp .ge 8, 3) := by decide +kernel
theorem dX1_keepOrForget_58 : decode cX1_keepOrForget 58 = .ok (.aload_n 0, 1) := by decide +kernel
theorem dX1_keepOrForget_59 : decode cX1_keepOrForget 59 = .ok (.iload_n 1, 1) := by decide +kernel
theorem dX1_keepOrForget_60 : decode cX1_keepOrForget 60 = .ok (.putfield 36, 3) := by decide +kernel
theorem dX1_keepOrForget_63 : decode cX1_keepOrForget 63 = .ok (.return_, 1) := by decide +kernel
theorem dX1_markFieldsOf_0 : decode cX1_markFieldsOf 0 = .ok (.aload_n 0, 1) := by decide +kernel
theorem dX1_markFieldsOf_1 : decode cX1_markFieldsOf 1 = .ok (.getfield 9, 3) := by decide +kernel
theorem dX1_markFieldsOf_4 : decode cX1_markFieldsOf 4 = .ok (.iload_n 1, 1) := by decide +kernel
theorem dX1_markFieldsOf_5 : decode cX1_markFieldsOf 5 = .ok (.invokevirtual 74, 3) := by decide +kernel
theorem dX1_markFieldsOf_8 : decode cX1_markFieldsOf 8 = .ok (.istore_n 2, 1) := by decide +kernel
theorem dX1_markFieldsOf_9 : decode cX1_markFieldsOf 9 = .ok (.iconst 0, 1) := by decide +kernel
theorem dX1_markFieldsOf_10 : decode cX1_markFieldsOf 10 = .ok (.istore_n 3, 1) := by decide +kernel
theorem dX1_markFieldsOf_11 : decode cX1_markFieldsOf 11 = .ok (.iload_n 3, 1) := by decide +kernel
theorem dX1_markFieldsOf_12 : decode cX1_markFieldsOf 12 = .ok (.iload_n 2, 1) := by decide +kernel
theorem dX1_markFieldsOf_13 : decode cX1_markFieldsOf 13 = .ok (.if_icmp .ge 22, 3) := by decide +kernel
theorem dX1_markFieldsOf_16 : decode cX1_markFieldsOf 16 = .ok (.aload_n 0, 1) := by decide +kernel
theorem dX1_markFieldsOf_17 : decode cX1_markFieldsOf 17 = .ok (.aload_n 0, 1) := by decide +kernel
theorem dX1_markFieldsOf_18 : decode cX1_markFieldsOf 18 = .ok (.getfield 9, 3) := by decide +kernel
theorem dX1_markFieldsOf_21 : decode cX1_markFieldsOf 21 = .ok (.iload_n 1, 1) := by decide +kernel
theorem dX1_markFieldsOf_22 : decode cX1_markFieldsOf 22 = .ok (.iload_n 3, 1) := by decide +kernel
theorem dX1_markFieldsOf_23 : decode cX1_markFieldsOf 23 = .ok (.invokevirtual 77, 3) := by decide +kernel
theorem dX1_markFieldsOf_26 : decode cX1_markFieldsOf 26 = .ok (.invokevirtual 60, 3) := by decide +kernel
theorem dX1_markFieldsOf_29 : decode cX1_markFieldsOf 29 = .ok (.iinc 3 1, 3) := by decide +kernel
theorem dX1_markFieldsOf_32 : decode cX1_markFieldsOf 32 = .ok (.goto (-21), 3) := by decide +kernel
theorem dX1_markFieldsOf_35 : decode cX1_markFieldsOf 35 = .ok (.return_, 1) := by decide +kernel
theorem dX1_hasMark_0 : decode cX1_hasMark 0 = .ok (.aload_n 0, 1) := by decide +kernel
theorem dX1_hasMark_1 : decode cX1_hasMark 1 = .ok (.getfield 9, 3) := by decide +kernel
theorem dX1_hasMark_4 : decode cX1_hasMark 4 = .ok (.iload_n 1, 1) := by decide +kernel
theorem dX1_hasMark_5 : decode cX1_hasMark 5 = .ok (.invokevirtual 42, 3) := by decide +kernel
theorem dX1_hasMark_8 : decode cX1_hasMark 8 = .ok (.ifCond .eq 16, 3) := by decide +kernel
theorem dX1_hasMark_11 : decode cX1_hasMark 11 = .ok (.aload_n 0, 1) := by decide +kernel
theorem dX1_hasMark_12 : decode cX1_hasMark 12 = .ok (.getfield 15, 3) := by decide +kernel
theorem dX1_hasMark_15 : decode cX1_hasMark 15 = .ok (.iload_n 1, 1) := by decide +kernel
theorem dX1_hasMark_16 : decode cX1_hasMark 16 = .ok (.baload, 1) := by decide +kernel
theorem dX1_hasMark_17 : decode cX1_hasMark 17 = .ok (.ifCond .eq 7, 3) := by decide +kernel
theorem dX1_hasMark_20 : decode cX1_hasMark 20 = .ok (.iconst 1, 1) := by decide +kernel
theorem dX1_hasMark_21 : decode cX1_hasMark 21 = .ok (.goto 4, 3) := by decide +kernel
theorem dX1_hasMark_24 : decode cX1_hasMark 24 = .ok (.iconst 0, 1) := by decide +kernel
theorem dX1_hasMark_25 : decode cX1_hasMark 25 = .ok (.ireturn, 1) := by decide +kernel
theorem dX1_doCleanSteps_0 : decode cX1_doCleanSteps 0 = .ok (.iconst 1, 1) := by decide +kernel
theorem dX1_doCleanSteps_1 : decode cX1_doCleanSteps 1 = .ok (.istore_n 2, 1) := by decide +kernel
theorem dX1_doCleanSteps_2 : decode cX1_doCleanSteps 2 = .ok (.iconst 0, 1) := by decide +kernel
theorem dX1_doCleanSteps_3 : decode cX1_doCleanSteps 3 = .ok (.istore_n 3, 1) := by decide +kernel
theorem dX1_doCleanSteps_4 : decode cX1_doCleanSteps 4 = .ok (.iload_n 3, 1) := by decide +kernel
theorem dX1_doCleanSteps_5 : decode cX1_doCleanSteps 5 = .ok (.iload_n 1, 1) := by decide +kernel
theorem dX1_doCleanSteps_6 : decode cX1_doCleanSteps 6 = .ok (.if_icmp .ge 18, 3) := by decide +kernel
theorem dX1_doCleanSteps_9 : decode cX1_doCleanSteps 9 = .ok (.iload_n 2, 1) := by decide +kernel
theorem dX1_doCleanSteps_10 : decode cX1_doCleanSteps 10 = .ok (.ifCond .eq 14, 3) := by decide +kernel
theorem dX1_doCleanSteps_13 : decode cX1_doCleanSteps 13 = .ok (.aload_n 0, 1) := by decide +kernel
theorem dX1_doCleanSteps_14 : decode cX1_doCleanSteps 14 = .ok (.invokevirtual 52, 3) := by decide +kernel
theorem dX1_doCleanSteps_17 : decode cX1_doCleanSteps 17 = .ok (.istore_n 2, 1) := by decide +kernel
theorem dX1_doCleanSteps_18 : decode cX1_doCleanSteps 18 = .ok (.iinc 3 1, 3) := by decide +kernel
theorem dX1_doCleanSteps_21 : decode cX1_doCleanSteps 21 = .ok (.goto (-17), 3) := by decide +kernel
theorem dX1_doCleanSteps_24 : decode cX1_doCleanSteps 24 = .ok (.return_, 1) := by decide +kernel
theorem dX1_cleanStep_0 : decode cX1_cleanStep 0 = .ok (.aload_n 0, 1) := by decide +kernel
theorem dX1_cleanStep_1 : decode cX1_cleanStep 1 = .ok (.getfield 39, 3) := by decide +kernel
theorem dX1_cleanStep_4 : decode cX1_cleanStep 4 = .ok (.aload_n 0, 1) := by decide +kernel
theorem dX1_cleanStep_5 : decode cX1_cleanStep 5 = .ok (.getfield 9, 3) := by decide +kernel
theorem dX1_cleanStep_8 : decode cX1_cleanStep 8 = .ok (.invokevirtual 67, 3) := by decide +kernel
theorem dX1_cleanStep_11 : decode cX1_cleanStep 11 = .ok (.if_icmp .lt 5, 3) := by decide +kernel
theorem dX1_cleanStep_14 : decode cX1_cleanStep 14 = .ok (.iconst 0, 1) := by decide +kernel
theorem dX1_cleanStep_15 : decode cX1_cleanStep 15 = .ok (.ireturn, 1) := by decide +kernel
theorem dX1_cleanStep_16 : decode cX1_cleanStep 16 = .ok (.aload_n 0, 1) := by decide +kernel
theorem dX1_cleanStep_17 : decode cX1_cleanStep 17 = .ok (.getfield 39, 3) := by decide +kernel
theorem dX1_cleanStep_20 : decode cX1_cleanStep 20 = .ok (.istore_n 1, 1) := by decide +kernel
theorem dX1_cleanStep_21 : decode cX1_cleanStep 21 = .ok (.aload_n 0, 1) := by decide +kernel
theorem dX1_cleanStep_22 : decode cX1_cleanStep 22 = .ok (.dup, 1) := by decide +kernel
theorem dX1_cleanStep_23 : decode cX1_cleanStep 23 = .ok (.getfield 39, 3) := by decide +kernel
theorem dX1_cleanStep_26 : decode cX1_cleanStep 26 = .ok (.iconst 1, 1) := by decide +kernel
theorem dX1_cleanStep_27 : decode cX1_cleanStep 27 = .ok (.iadd, 1) := by decide +kernel
theorem dX1_cleanStep_28 : decode cX1_cleanStep 28 = .ok (.putfield 39, 3) := by decide +kernel
theorem dX1_cleanStep_31 : decode cX1_cleanStep 31 = .ok (.aload_n 0, 1) := by decide +kernel
theorem dX1_cleanStep_32 : decode cX1_cleanStep 32 = .ok (.getfield 9, 3) := by decide +kernel
theorem dX1_cleanStep_35 : decode cX1_cleanStep 35 = .ok (.iload_n 1, 1) := by decide +kernel
theorem dX1_cleanStep_36 : decode cX1_cleanStep 36 = .ok (.invokevirtual 42, 3) := by decide +kernel
theorem dX1_cleanStep_39 : decode cX1_cleanStep 39 = .ok (.ifCond .eq 33, 3) := by decide +kernel
theorem dX1_cleanStep_42 : decode cX1_cleanStep 42 = .ok (.aload_n 0, 1) := by decide +kernel
theorem dX1_cleanStep_43 : decode cX1_cleanStep 43 = .ok (.getfield 19, 3) := by decide +kernel
theorem dX1_cleanStep_46 : decode cX1_cleanStep 46 = .ok (.iload_n 1, 1) := by decide +kernel
theorem dX1_cleanStep_47 : decode cX1_cleanStep 47 = .ok (.baload, 1) := by decide +kernel
theorem dX1_cleanStep_48 : decode cX1_cleanStep 48 = .ok (.ifCond .eq 24, 3) := by decide +kernel
theorem dX1_cleanStep_51 : decode cX1_cleanStep 51 = .ok (.aload_n 0, 1) := by decide +kernel
end
section
theorem dX1_cleanStep_52 : decode cX1_cleanStep 52 = .ok (.getfield 19, 3) := by decide +kernel
theorem dX1_cleanStep_55 : decode cX1_cleanStep 55 = .ok (.iload_n 1, 1) := by decide +kernel
theorem dX1_cleanStep_56 : decode cX1_cleanStep 56 = .ok (.iconst 0, 1) := by decide +kernel
theorem dX1_cleanStep_57 : decode cX1_cleanStep 57 = .ok (.bastore, 1) := by decide +kernel
theorem dX1_cleanStep_58 : decode cX1_cleanStep 58 = .ok (.aload_n 0, 1) := by decide +kernel
theorem dX1_cleanStep_59 : decode cX1_cleanStep 59 = .ok (.getfield 15, 3) := by decide +kernel
theorem dX1_cleanStep_62 : decode cX1_cleanStep 62 = .ok (.iload_n 1, 1) := by decide +kernel
theorem dX1_cleanStep_63 : decode cX1_cleanStep 63 = .ok (.baload, 1) := by decide +kernel
theorem dX1_cleanStep_64 : decode cX1_cleanStep 64 = .ok (.ifCond .eq 8, 3) := by decide +kernel
theorem dX1_cleanStep_67 : decode cX1_cleanStep 67 = .ok (.aload_n 0, 1) := by decide +kernel
theorem dX1_cleanStep_68 : decode cX1_cleanStep 68 = .ok (.iload_n 1, 1) := by decide +kernel
theorem dX1_cleanStep_69 : decode cX1_cleanStep 69 = .ok (.invokevirtual 64, 3) := by decide +kernel
theorem dX1_cleanStep_72 : decode cX1_cleanStep 72 = .ok (.iconst 1, 1) := by decide +kernel
theorem dX1_cleanStep_73 : decode cX1_cleanStep 73 = .ok (.ireturn, 1) := by decide +kernel
theorem dX1_markAllThatIsLeft_0 : decode cX1_markAllThatIsLeft 0 = .ok (.aload_n 0, 1) := by decide +kernel
theorem dX1_markAllThatIsLeft_1 : decode cX1_markAllThatIsLeft 1 = .ok (.iconst 0, 1) := by decide +kernel
theorem dX1_markAllThatIsLeft_2 : decode cX1_markAllThatIsLeft 2 = .ok (.putfield 33, 3) := by decide +kernel
theorem dX1_markAllThatIsLeft_5 : decode cX1_markAllThatIsLeft 5 = .ok (.iconst 1, 1) := by decide +kernel
theorem dX1_markAllThatIsLeft_6 : decode cX1_markAllThatIsLeft 6 = .ok (.istore_n 1, 1) := by decide +kernel
theorem dX1_markAllThatIsLeft_7 : decode cX1_markAllThatIsLeft 7 = .ok (.iconst 0, 1) := by decide +kernel
theorem dX1_markAllThatIsLeft_8 : decode cX1_markAllThatIsLeft 8 = .ok (.istore_n 2, 1) := by decide +kernel
theorem dX1_markAllThatIsLeft_9 : decode cX1_markAllThatIsLeft 9 = .ok (.iload_n 2, 1) := by decide +kernel
theorem dX1_markAllThatIsLeft_10 : decode cX1_markAllThatIsLeft 10 = .ok (.ldc 55, 2) := by decide +kernel
theorem dX1_markAllThatIsLeft_12 : decode cX1_markAllThatIsLeft 12 = .ok (.if_icmp .ge 33, 3) := by decide +kernel
theorem dX1_markAllThatIsLeft_15 : decode cX1_markAllThatIsLeft 15 = .ok (.iload_n 1, 1) := by decide +kernel
theorem dX1_markAllThatIsLeft_16 : decode cX1_markAllThatIsLeft 16 = .ok (.ifCond .eq 29, 3) := by decide +kernel
theorem dX1_markAllThatIsLeft_19 : decode cX1_markAllThatIsLeft 19 = .ok (.aload_n 0, 1) := by decide +kernel
theorem dX1_markAllThatIsLeft_20 : decode cX1_markAllThatIsLeft 20 = .ok (.invokevirtual 48, 3) := by decide +kernel
theorem dX1_markAllThatIsLeft_23 : decode cX1_markAllThatIsLeft 23 = .ok (.ifCond .ne 10, 3) := by decide +kernel
theorem dX1_markAllThatIsLeft_26 : decode cX1_markAllThatIsLeft 26 = .ok (.aload_n 0, 1) := by decide +kernel
theorem dX1_markAllThatIsLeft_27 : decode cX1_markAllThatIsLeft 27 = .ok (.invokevirtual 52, 3) := by decide +kernel
theorem dX1_markAllThatIsLeft_30 : decode cX1_markAllThatIsLeft 30 = .ok (.ifCond .eq 7, 3) := by decide +kernel
theorem dX1_markAllThatIsLeft_33 : decode cX1_markAllThatIsLeft 33 = .ok (.iconst 1, 1) := by decide +kernel
theorem dX1_markAllThatIsLeft_34 : decode cX1_markAllThatIsLeft 34 = .ok (.goto 4, 3) := by decide +kernel
theorem dX1_markAllThatIsLeft_37 : decode cX1_markAllThatIsLeft 37 = .ok (.iconst 0, 1) := by decide +kernel
theorem dX1_markAllThatIsLeft_38 : decode cX1_markAllThatIsLeft 38 = .ok (.istore_n 1, 1) := by decide +kernel
theorem dX1_markAllThatIsLeft_39 : decode cX1_markAllThatIsLeft 39 = .ok (.iinc 2 1, 3) := by decide +kernel
theorem dX1_markAllThatIsLeft_42 : decode cX1_markAllThatIsLeft 42 = .ok (.goto (-33), 3) := by decide +kernel
theorem dX1_markAllThatIsLeft_45 : decode cX1_markAllThatIsLeft 45 = .ok (.return_, 1) := by decide +kernel
theorem dX1_countOfMarks_0 : decode cX1_countOfMarks 0 = .ok (.iconst 0, 1) := by decide +kernel
theorem dX1_countOfMarks_1 : decode cX1_countOfMarks 1 = .ok (.istore_n 1, 1) := by decide +kernel
theorem dX1_countOfMarks_2 : decode cX1_countOfMarks 2 = .ok (.iconst 0, 1) := by decide +kernel
theorem dX1_countOfMarks_3 : decode cX1_countOfMarks 3 = .ok (.istore_n 2, 1) := by decide +kernel
theorem dX1_countOfMarks_4 : decode cX1_countOfMarks 4 = .ok (.iload_n 2, 1) := by decide +kernel
theorem dX1_countOfMarks_5 : decode cX1_countOfMarks 5 = .ok (.sipush 400, 3) := by decide +kernel
theorem dX1_countOfMarks_8 : decode cX1_countOfMarks 8 = .ok (.if_icmp .ge 21, 3) := by decide +kernel
theorem dX1_countOfMarks_11 : decode cX1_countOfMarks 11 = .ok (.aload_n 0, 1) := by decide +kernel
theorem dX1_countOfMarks_12 : decode cX1_countOfMarks 12 = .ok (.getfield 15, 3) := by decide +kernel
theorem dX1_countOfMarks_15 : decode cX1_countOfMarks 15 = .ok (.iload_n 2, 1) := by decide +kernel
theorem dX1_countOfMarks_16 : decode cX1_countOfMarks 16 = .ok (.baload, 1) := by decide +kernel
theorem dX1_countOfMarks_17 : decode cX1_countOfMarks 17 = .ok (.ifCond .eq 6, 3) := by decide +kernel
theorem dX1_countOfMarks_20 : decode cX1_countOfMarks 20 = .ok (.iinc 1 1, 3) := by decide +kernel
theorem dX1_countOfMarks_23 : decode cX1_countOfMarks 23 = .ok (.iinc 2 1, 3) := by decide +kernel
theorem dX1_countOfMarks_26 : decode cX1_countOfMarks 26 = .ok (.goto (-22), 3) := by decide +kernel
theorem dX1_countOfMarks_29 : decode cX1_countOfMarks 29 = .ok (.iload_n 1, 1) := by decide +kernel
theorem dX1_countOfMarks_30 : decode cX1_countOfMarks 30 = .ok (.ireturn, 1) := by decide +kernel
end
section
set_option maxHeartbeats 4000000 in
set_option maxRecDepth 100000 in
/-- Marker.keepOrForget(k): on the pile, or forgotten -/
theorem c_M_keepOrForget (l : Launch) (dC : Nat → ClassId) (dI : Nat → Nat → Nat) (m0 b1 b2 b3 : Nat) (g1 g2 g3 : ClassId) (mr ch kp : Nat → Int32) (lim kc nr nf nc : Nat) (h0 a1 a2 a3 : Nat) (k1 k2 k3 : ClassId) (N : Nat) (cn : Nat → Nat) (fl rt : Nat → Int32) (fa : Int32) (j : Nat) (sz : Nat) (hlim : lim ≤ 64) (hkc : kc ≤ 64) (hnf : nf ≤ 400) (hj : j < 400) : Met l yX1_keepOrForget wsX1_keepOrForget ({ frames := 0, cells := 0, slots := 0, locals := 0 }) (va_Pc [.ref m0, .int (nI j)] (fun U => U.heap.size = sz ∧ va_P (dC, dI) vwCl [(m0, .inr (1, [.ref h0, .ref b1, .ref b2, .ref b3, .int (nI lim), .int (nI kc), .int (nI nr), .int (nI nf), .int (nI nc)])), (b3, .inl (g3, 64, .inl kp))] U.heap ∧ va_K (dC, dI) vwCl [(g3, .int)] U ∧ va_D (fun _ => True) [(m0, .inr (1, [.ref h0, .ref b1, .ref b2, .ref b3, .int (nI lim), .int (nI kc), .int (nI nr), .int (nI nf), .int (nI nc)])), (b3, .inl (g3, 64, .inl kp))])) (va_Qv (fun (u : pm_P) => u = pm_keep lim (mr, kp, kc, nf) j) (fun (u : pm_P) (t : State) => va_P (dC, dI) vwCl [(m0, .inr (1, [.ref h0, .ref b1, .ref b2, .ref b3, .int (nI lim), .int (nI u.2.2.1), .int (nI nr), .int (nI u.2.2.2), .int (nI nc)])), (b3, .inl (g3, 64, .inl (u.2.1)))] t.heap ∧ va_K (dC, dI) vwCl [(g3, .int)] t ∧ va_D (va_A [(m0, .inr (1, [.ref h0, .ref b1, .ref b2, .ref b3, .int (nI lim), .int (nI kc), .int (nI nr), .int (nI nf), .int (nI nc)])), (b3, .inl (g3, 64, .inl kp))] sz) [(m0, .inr (1, [.ref h0, .ref b1, .ref b2, .ref b3, .int (nI lim), .int (nI u.2.2.1), .int (nI nr), .int (nI u.2.2.2), .int (nI nc)])), (b3, .inl (g3, 64, .inl (u.2.1)))]) (va_A [(m0, .inr (1, [.ref h0, .ref b1, .ref b2, .ref b3, .int (nI lim), .int (nI kc), .int (nI nr), .int (nI nf), .int (nI nc)])), (b3, .inl (g3, 64, .inl kp))] sz)) 0 0 (va_A [(m0, .inr (1, [.ref h0, .ref b1, .ref b2, .ref b3, .int (nI lim), .int (nI kc), .int (nI nr), .int (nI nf), .int (nI nc)])), (b3, .inl (g3, 64, .inl kp))] sz) := by
  refine Met.ofW (cc := cX1_keepOrForget) (maxL := 2) (ret := (none)) (by decide) rfl ?_
  intro p e s m args below meth c s₁ B hml hv
  obtain ⟨rfl, hsz, hP, hK, hD0⟩ := hv
  have hx := B.exec
  have hb := B.bytes
  have hr := B.returns
  have hts : ∀ w ∈ gw, w.before _ s = true := fun w h => atoms_spec (ws := wsX1_keepOrForget) B.pre w (List.mem_cons_of_mem _ h)
  have hown : s.vm.findClass RX1 = some m.cls := findClass_of_methodNamed B.named
  have hlocks := B.notSynchronized
  subst hsz
  have hD := hD0.self (sz := s.heap.size)
  generalize hAe : va_A [(m0, .inr (1, [.ref h0, .ref b1, .ref b2, .ref b3, .int (nI lim), .int (nI kc), .int (nI nr), .int (nI nf), .int (nI nc)])), (b3, .inl (g3, 64, .inl kp))] s.heap.size = A at hD ⊢
  have hA : ∀ q : Nat, s.heap.size ≤ q → A q := fun q h => by rw [← hAe]; exact Or.inr h
  have hP : va_P (dC, dI) vwCl [(m0, .inr (1, [.ref h0, .ref b1, .ref b2, .ref b3, .int (nI lim), .int (nI kc), .int (nI nr), .int (nI nf), .int (nI nc)])), (b3, .inl (g3, 64, .inl kp))] s.heap := hP
  have hl := lv_entry ([.ref m0, .int (nI j)]) (n := 2) (Nat.le_of_ble_eq_true rfl)
  rw [lg_entry_eq]
  generalize (lg_sl ([.ref m0, .int (nI j)]) ++ List.replicate (2 - (lg_sl ([.ref m0, .int (nI j)])).length) Slot.unset).toArray = ls at hl ⊢
  have hl : lv_has ls 2 [(0, .ref m0), (1, .int (nI j))] := hl
  obtain ⟨H, hH⟩ : ∃ H : Heap, H = s.heap := ⟨_, rfl⟩
  rw [← hH]
  rw [← hH] at hP
  have hS : va_S A s.heap H [] := by rw [hH]; exact va_S.rf
  clear hH
  refine lv_aload_n hx hb dX1_keepOrForget_0 rfl (lv_at hl 0 rfl) ?_
  refine va_get (D := (dC, dI)) (ci := 1) (v := .int (nI kc)) (C := RX1) (T := TX1) (N := 9) hx hb hts iw_X1 hown hK hP 0 rfl rfl 5 (by decide) (hts _ mf_X1_30) (fun _ h9 => h9) rfl dX1_keepOrForget_1 ?_
  refine lv_if_lt (tgt := 50) hx hb dX1_keepOrForget_4 (by decide) (fun c_4 => absurd c_4 (nI_pos (by omega))) (fun c_4 => ?_)
  refine lv_aload_n hx hb dX1_keepOrForget_7 rfl (lv_at hl 0 rfl) ?_
  refine va_get (D := (dC, dI)) (ci := 1) (v := .int (nI kc)) (C := RX1) (T := TX1) (N := 9) hx hb hts iw_X1 hown hK hP 0 rfl rfl 5 (by decide) (hts _ mf_X1_30) (fun _ h9 => h9) rfl dX1_keepOrForget_8 ?_
  refine lv_aload_n hx hb dX1_keepOrForget_11 rfl (lv_at hl 0 rfl) ?_
  refine va_get (D := (dC, dI)) (ci := 1) (v := .int (nI lim)) (C := RX1) (T := TX1) (N := 9) hx hb hts iw_X1 hown hK hP 0 rfl rfl 4 (by decide) (hts _ mf_X1_26) (fun _ h9 => h9) rfl dX1_keepOrForget_12 ?_
  refine lv_icmp_ge (tgt := 50) hx hb dX1_keepOrForget_15 (by decide) (fun c_15 => ?_) (fun c_15 => ?_)
  · rw [nI_leI (by omega) (by omega)] at c_15
    refine lv_iload_n hx hb dX1_keepOrForget_50 rfl (lv_at hl 1 rfl) ?_
    refine lv_aload_n hx hb dX1_keepOrForget_51 rfl (lv_at hl 0 rfl) ?_
    refine va_get (D := (dC, dI)) (ci := 1) (v := .int (nI nf)) (C := RX1) (T := TX1) (N := 9) hx hb hts iw_X1 hown hK hP 0 rfl rfl 7 (by decide) (hts _ mf_X1_36) (fun _ h9 => h9) rfl dX1_keepOrForget_52 ?_
    refine lv_icmp_ge (tgt := 63) hx hb dX1_keepOrForget_55 (by decide) (fun c_55 => ?_) (fun c_55 => ?_)
    · rw [nI_leI (by omega) (by omega)] at c_55
      exact W.vret hx hb hr (fun t ht hW => ⟨⟨(mr, kp, kc, nf), rfl, pm_k3 (by omega) (by omega), by rw [ht]; exact hP, va_K.moved hW.alike hK, hD⟩, hS.F ht⟩) hS.2.2 dX1_keepOrForget_63
    · rw [nI_leI (by omega) (by omega)] at c_55
      refine lv_aload_n hx hb dX1_keepOrForget_58 rfl (lv_at hl 0 rfl) ?_
      refine lv_iload_n hx hb dX1_keepOrForget_59 rfl (lv_at hl 1 rfl) ?_
      refine va_put (D := (dC, dI)) (ci := 1) (v := .int (nI j)) (ty := .int) (C := RX1) (T := TX1) (N := 9) hx hb hts iw_X1 tyX1 tyX1_ok nmX1 hown hK hP hD hS 0 rfl rfl 7 (by decide) (hts _ mf_X1_36) (fun _ h9 => h9) rfl (by decide +kernel) (rfl) (rfl) (Nat.le_of_ble_eq_true rfl) dX1_keepOrForget_60 (fun H locs hP hD hS => ?_)
      have hP : va_P (dC, dI) vwCl [(m0, .inr (1, [.ref h0, .ref b1, .ref b2, .ref b3, .int (nI lim), .int (nI kc), .int (nI nr), .int (nI j), .int (nI nc)])), (b3, .inl (g3, 64, .inl kp))] H := hP
      have hD : va_D A [(m0, .inr (1, [.ref h0, .ref b1, .ref b2, .ref b3, .int (nI lim), .int (nI kc), .int (nI nr), .int (nI j), .int (nI nc)])), (b3, .inl (g3, 64, .inl kp))] := hD
      exact W.vret hx hb hr (fun t ht hW => ⟨⟨(mr, kp, kc, j), rfl, pm_k2 (by omega) (by omega), by rw [ht]; exact hP, va_K.moved hW.alike hK, hD⟩, hS.F ht⟩) hS.2.2 dX1_keepOrForget_63
  · rw [nI_leI (by omega) (by omega)] at c_15
    refine lv_aload_n hx hb dX1_keepOrForget_18 rfl (lv_at hl 0 rfl) ?_
    refine va_get (D := (dC, dI)) (ci := 1) (v := .int (nI kc)) (C := RX1) (T := TX1) (N := 9) hx hb hts iw_X1 hown hK hP 0 rfl rfl 5 (by decide) (hts _ mf_X1_30) (fun _ h9 => h9) rfl dX1_keepOrForget_19 ?_
    refine lv_bipush (v := nI 64) hx hb dX1_keepOrForget_22 (by decide +kernel) ?_
    refine lv_icmp_ge (tgt := 50) hx hb dX1_keepOrForget_24 (by decide) (fun c_24 => ?_) (fun c_24 => ?_)
    · rw [nI_leI (by omega) (by omega)] at c_24
      refine lv_iload_n hx hb dX1_keepOrForget_50 rfl (lv_at hl 1 rfl) ?_
      refine lv_aload_n hx hb dX1_keepOrForget_51 rfl (lv_at hl 0 rfl) ?_
      refine va_get (D := (dC, dI)) (ci := 1) (v := .int (nI nf)) (C := RX1) (T := TX1) (N := 9) hx hb hts iw_X1 hown hK hP 0 rfl rfl 7 (by decide) (hts _ mf_X1_36) (fun _ h9 => h9) rfl dX1_keepOrForget_52 ?_
      refine lv_icmp_ge (tgt := 63) hx hb dX1_keepOrForget_55 (by decide) (fun c_55 => ?_) (fun c_55 => ?_)
      · rw [nI_leI (by omega) (by omega)] at c_55
        exact W.vret hx hb hr (fun t ht hW => ⟨⟨(mr, kp, kc, nf), rfl, pm_k3 (by omega) (by omega), by rw [ht]; exact hP, va_K.moved hW.alike hK, hD⟩, hS.F ht⟩) hS.2.2 dX1_keepOrForget_63
      · rw [nI_leI (by omega) (by omega)] at c_55
        refine lv_aload_n hx hb dX1_keepOrForget_58 rfl (lv_at hl 0 rfl) ?_
        refine lv_iload_n hx hb dX1_keepOrForget_59 rfl (lv_at hl 1 rfl) ?_
        refine va_put (D := (dC, dI)) (ci := 1) (v := .int (nI j)) (ty := .int) (C := RX1) (T := TX1) (N := 9) hx hb hts iw_X1 tyX1 tyX1_ok nmX1 hown hK hP hD hS 0 rfl rfl 7 (by decide) (hts _ mf_X1_36) (fun _ h9 => h9) rfl (by decide +kernel) (rfl) (rfl) (Nat.le_of_ble_eq_true rfl) dX1_keepOrForget_60 (fun H locs hP hD hS => ?_)
        have hP : va_P (dC, dI) vwCl [(m0, .inr (1, [.ref h0, .ref b1, .ref b2, .ref b3, .int (nI lim), .int (nI kc), .int (nI nr), .int (nI j), .int (nI nc)])), (b3, .inl (g3, 64, .inl kp))] H := hP
        have hD : va_D A [(m0, .inr (1, [.ref h0, .ref b1, .ref b2, .ref b3, .int (nI lim), .int (nI kc), .int (nI nr), .int (nI j), .int (nI nc)])), (b3, .inl (g3, 64, .inl kp))] := hD
        exact W.vret hx hb hr (fun t ht hW => ⟨⟨(mr, kp, kc, j), rfl, pm_k2 (by omega) (by omega), by rw [ht]; exact hP, va_K.moved hW.alike hK, hD⟩, hS.F ht⟩) hS.2.2 dX1_keepOrForget_63
    · rw [nI_leI (by omega) (by omega)] at c_24
      refine lv_aload_n hx hb dX1_keepOrForget_27 rfl (lv_at hl 0 rfl) ?_
      refine va_get (D := (dC, dI)) (ci := 1) (v := .ref b3) (C := RX1) (T := TX1) (N := 9) hx hb hts iw_X1 hown hK hP 0 rfl rfl 3 (by decide) (hts _ mf_X1_22) (fun _ h9 => h9) rfl dX1_keepOrForget_28 ?_
      refine lv_aload_n hx hb dX1_keepOrForget_31 rfl (lv_at hl 0 rfl) ?_
      refine va_get (D := (dC, dI)) (ci := 1) (v := .int (nI kc)) (C := RX1) (T := TX1) (N := 9) hx hb hts iw_X1 hown hK hP 0 rfl rfl 5 (by decide) (hts _ mf_X1_30) (fun _ h9 => h9) rfl dX1_keepOrForget_32 ?_
      refine lv_iload_n hx hb dX1_keepOrForget_35 rfl (lv_at hl 1 rfl) ?_
      refine va_iast hx hb hK hP hD hS 1 0 rfl rfl (vp_in_nI (by omega) (by omega)) dX1_keepOrForget_36 (fun H locs hP hD hS => ?_)
      rw [nI_clamp (by omega)] at hP hD
      have hP : va_P (dC, dI) vwCl [(m0, .inr (1, [.ref h0, .ref b1, .ref b2, .ref b3, .int (nI lim), .int (nI kc), .int (nI nr), .int (nI nf), .int (nI nc)])), (b3, .inl (g3, 64, .inl (upd kp kc (nI j))))] H := hP
      have hD : va_D A [(m0, .inr (1, [.ref h0, .ref b1, .ref b2, .ref b3, .int (nI lim), .int (nI kc), .int (nI nr), .int (nI nf), .int (nI nc)])), (b3, .inl (g3, 64, .inl (upd kp kc (nI j))))] := hD
      refine lv_aload_n hx hb dX1_keepOrForget_37 rfl (lv_at hl 0 rfl) ?_
      refine lv_dup hx hb dX1_keepOrForget_38 rfl ?_
      refine va_get (D := (dC, dI)) (ci := 1) (v := .int (nI kc)) (C := RX1) (T := TX1) (N := 9) hx hb hts iw_X1 hown hK hP 0 rfl rfl 5 (by decide) (hts _ mf_X1_30) (fun _ h9 => h9) rfl dX1_keepOrForget_39 ?_
      refine lv_iconst (v := nI 1) hx hb dX1_keepOrForget_42 (by decide +kernel) ?_
      refine lv_iadd hx hb dX1_keepOrForget_43 ?_
      refine lv_topi (fun x_1 ex_1 => ?_)
      obtain rfl : x_1 = nI (kc + 1) := ex_1.trans (nI_add _ _)
      refine va_put (D := (dC, dI)) (ci := 1) (v := .int (nI (kc + 1))) (ty := .int) (C := RX1) (T := TX1) (N := 9) hx hb hts iw_X1 tyX1 tyX1_ok nmX1 hown hK hP hD hS 0 rfl rfl 5 (by decide) (hts _ mf_X1_30) (fun _ h9 => h9) rfl (by decide +kernel) (rfl) (rfl) (Nat.le_of_ble_eq_true rfl) dX1_keepOrForget_44 (fun H locs hP hD hS => ?_)
      have hP : va_P (dC, dI) vwCl [(m0, .inr (1, [.ref h0, .ref b1, .ref b2, .ref b3, .int (nI lim), .int (nI (kc + 1)), .int (nI nr), .int (nI nf), .int (nI nc)])), (b3, .inl (g3, 64, .inl (upd kp kc (nI j))))] H := hP
      have hD : va_D A [(m0, .inr (1, [.ref h0, .ref b1, .ref b2, .ref b3, .int (nI lim), .int (nI (kc + 1)), .int (nI nr), .int (nI nf), .int (nI nc)])), (b3, .inl (g3, 64, .inl (upd kp kc (nI j))))] := hD
      refine lv_goto (tgt := 63) hx hb dX1_keepOrForget_47 (by decide) ?_
      exact W.vret hx hb hr (fun t ht hW => ⟨⟨(mr, upd kp kc (nI j), kc + 1, nf), rfl, pm_k1 (by omega) (by omega), by rw [ht]; exact hP, va_K.moved hW.alike hK, hD⟩, hS.F ht⟩) hS.2.2 dX1_keepOrForget_63

set_option maxHeartbeats 4000000 in
set_option maxRecDepth 100000 in
/-- Marker.putMark(k) -/
theorem c_M_putMark (l : Launch) (dC : Nat → ClassId) (dI : Nat → Nat → Nat) (m0 b1 b2 b3 : Nat) (g1 g2 g3 : ClassId) (mr ch kp : Nat → Int32) (lim kc nr nf nc : Nat) (h0 a1 a2 a3 : Nat) (k1 k2 k3 : ClassId) (N : Nat) (cn : Nat → Nat) (fl rt : Nat → Int32) (fa : Int32) (p0 : Int32) (sz : Nat) (hlim : lim ≤ 64) (hkc : kc ≤ 64) (hnf : nf ≤ 400) (hN : N ≤ 400) : Met l yX1_putMark wsX1_putMark ({ frames := 1, cells := 0, slots := 0, locals := 21 }) (va_Pc [.ref m0, .int p0] (fun U => U.heap.size = sz ∧ va_P (dC, dI) vwCl [(m0, .inr (1, [.ref h0, .ref b1, .ref b2, .ref b3, .int (nI lim), .int (nI kc), .int (nI nr), .int (nI nf), .int (nI nc)])), (b1, .inl (g1, 400, .inl mr)), (b2, .inl (g2, 400, .inl ch)), (b3, .inl (g3, 64, .inl kp)), (h0, .inr (0, [.ref a1, .ref a2, .ref a3, .int (nI N), .int fa])), (a1, .inl (k1, 400, .inl (pm_nf9 cn))), (a2, .inl (k2, 8000, .inl fl)), (a3, .inl (k3, 16, .inl rt))] U.heap ∧ va_K (dC, dI) vwCl [(g1, .boolean), (g2, .boolean), (g3, .int), (k1, .int), (k2, .int), (k3, .int)] U ∧ va_D (fun _ => True) [(m0, .inr (1, [.ref h0, .ref b1, .ref b2, .ref b3, .int (nI lim), .int (nI kc), .int (nI nr), .int (nI nf), .int (nI nc)])), (b1, .inl (g1, 400, .inl mr)), (b2, .inl (g2, 400, .inl ch)), (b3, .inl (g3, 64, .inl kp)), (h0, .inr (0, [.ref a1, .ref a2, .ref a3, .int (nI N), .int fa])), (a1, .inl (k1, 400, .inl (pm_nf9 cn))), (a2, .inl (k2, 8000, .inl fl)), (a3, .inl (k3, 16, .inl rt))])) (va_Qv (fun (u : pm_P) => u = pm_put N lim (mr, kp, kc, nf) p0) (fun (u : pm_P) (t : State) => va_P (dC, dI) vwCl [(m0, .inr (1, [.ref h0, .ref b1, .ref b2, .ref b3, .int (nI lim), .int (nI (u.2.2.1)), .int (nI nr), .int (nI (u.2.2.2)), .int (nI nc)])), (b1, .inl (g1, 400, .inl (u.1))), (b2, .inl (g2, 400, .inl ch)), (b3, .inl (g3, 64, .inl (u.2.1))), (h0, .inr (0, [.ref a1, .ref a2, .ref a3, .int (nI N), .int fa])), (a1, .inl (k1, 400, .inl (pm_nf9 cn))), (a2, .inl (k2, 8000, .inl fl)), (a3, .inl (k3, 16, .inl rt))] t.heap ∧ va_K (dC, dI) vwCl [(g1, .boolean), (g2, .boolean), (g3, .int), (k1, .int), (k2, .int), (k3, .int)] t ∧ va_D (va_A [(m0, .inr (1, [.ref h0, .ref b1, .ref b2, .ref b3, .int (nI lim), .int (nI kc), .int (nI nr), .int (nI nf), .int (nI nc)])), (b1, .inl (g1, 400, .inl mr)), (b2, .inl (g2, 400, .inl ch)), (b3, .inl (g3, 64, .inl kp)), (h0, .inr (0, [.ref a1, .ref a2, .ref a3, .int (nI N), .int fa])), (a1, .inl (k1, 400, .inl (pm_nf9 cn))), (a2, .inl (k2, 8000, .inl fl)), (a3, .inl (k3, 16, .inl rt))] sz) [(m0, .inr (1, [.ref h0, .ref b1, .ref b2, .ref b3, .int (nI lim), .int (nI (u.2.2.1)), .int (nI nr), .int (nI (u.2.2.2)), .int (nI nc)])), (b1, .inl (g1, 400, .inl (u.1))), (b2, .inl (g2, 400, .inl ch)), (b3, .inl (g3, 64, .inl (u.2.1))), (h0, .inr (0, [.ref a1, .ref a2, .ref a3, .int (nI N), .int fa])), (a1, .inl (k1, 400, .inl (pm_nf9 cn))), (a2, .inl (k2, 8000, .inl fl)), (a3, .inl (k3, 16, .inl rt))]) (va_A [(m0, .inr (1, [.ref h0, .ref b1, .ref b2, .ref b3, .int (nI lim), .int (nI kc), .int (nI nr), .int (nI nf), .int (nI nc)])), (b1, .inl (g1, 400, .inl mr)), (b2, .inl (g2, 400, .inl ch)), (b3, .inl (g3, 64, .inl kp)), (h0, .inr (0, [.ref a1, .ref a2, .ref a3, .int (nI N), .int fa])), (a1, .inl (k1, 400, .inl (pm_nf9 cn))), (a2, .inl (k2, 8000, .inl fl)), (a3, .inl (k3, 16, .inl rt))] sz)) 0 0 (va_A [(m0, .inr (1, [.ref h0, .ref b1, .ref b2, .ref b3, .int (nI lim), .int (nI kc), .int (nI nr), .int (nI nf), .int (nI nc)])), (b1, .inl (g1, 400, .inl mr)), (b2, .inl (g2, 400, .inl ch)), (b3, .inl (g3, 64, .inl kp)), (h0, .inr (0, [.ref a1, .ref a2, .ref a3, .int (nI N), .int fa])), (a1, .inl (k1, 400, .inl (pm_nf9 cn))), (a2, .inl (k2, 8000, .inl fl)), (a3, .inl (k3, 16, .inl rt))] sz) := by
  refine Met.ofW (cc := cX1_putMark) (maxL := 2) (ret := (none)) (by decide) rfl ?_
  intro p e s m args below meth c s₁ B hml hv
  obtain ⟨rfl, hsz, hP, hK, hD0⟩ := hv
  have hx := B.exec
  have hb := B.bytes
  have hr := B.returns
  have hts : ∀ w ∈ gw, w.before _ s = true := fun w h => atoms_spec (ws := wsX1_putMark) B.pre w (List.mem_cons_of_mem _ h)
  have hown : s.vm.findClass RX1 = some m.cls := findClass_of_methodNamed B.named
  have hlocks := B.notSynchronized
  subst hsz
  have hD := hD0.self (sz := s.heap.size)
  generalize hAe : va_A [(m0, .inr (1, [.ref h0, .ref b1, .ref b2, .ref b3, .int (nI lim), .int (nI kc), .int (nI nr), .int (nI nf), .int (nI nc)])), (b1, .inl (g1, 400, .inl mr)), (b2, .inl (g2, 400, .inl ch)), (b3, .inl (g3, 64, .inl kp)), (h0, .inr (0, [.ref a1, .ref a2, .ref a3, .int (nI N), .int fa])), (a1, .inl (k1, 400, .inl (pm_nf9 cn))), (a2, .inl (k2, 8000, .inl fl)), (a3, .inl (k3, 16, .inl rt))] s.heap.size = A at hD ⊢
  have hA : ∀ q : Nat, s.heap.size ≤ q → A q := fun q h => by rw [← hAe]; exact Or.inr h
  have hP : va_P (dC, dI) vwCl [(m0, .inr (1, [.ref h0, .ref b1, .ref b2, .ref b3, .int (nI lim), .int (nI kc), .int (nI nr), .int (nI nf), .int (nI nc)])), (b1, .inl (g1, 400, .inl mr)), (b2, .inl (g2, 400, .inl ch)), (b3, .inl (g3, 64, .inl kp)), (h0, .inr (0, [.ref a1, .ref a2, .ref a3, .int (nI N), .int fa])), (a1, .inl (k1, 400, .inl (pm_nf9 cn))), (a2, .inl (k2, 8000, .inl fl)), (a3, .inl (k3, 16, .inl rt))] s.heap := hP
  have hl := lv_entry ([.ref m0, .int p0]) (n := 2) (Nat.le_of_ble_eq_true rfl)
  rw [lg_entry_eq]
  generalize (lg_sl ([.ref m0, .int p0]) ++ List.replicate (2 - (lg_sl ([.ref m0, .int p0])).length) Slot.unset).toArray = ls at hl ⊢
  have hl : lv_has ls 2 [(0, .ref m0), (1, .int p0)] := hl
  obtain ⟨H, hH⟩ : ∃ H : Heap, H = s.heap := ⟨_, rfl⟩
  rw [← hH]
  rw [← hH] at hP
  have hS : va_S A s.heap H [] := by rw [hH]; exact va_S.rf
  clear hH
  refine lv_aload_n hx hb dX1_putMark_0 rfl (lv_at hl 0 rfl) ?_
  refine va_get (D := (dC, dI)) (ci := 1) (v := .ref h0) (C := RX1) (T := TX1) (N := 9) hx hb hts iw_X1 hown hK hP 0 rfl rfl 0 (by decide) (hts _ mf_X1_9) (fun _ h9 => h9) rfl dX1_putMark_1 ?_
  refine lv_iload_n hx hb dX1_putMark_4 rfl (lv_at hl 1 rfl) ?_
  have hPc := hP.sub (ws' := [(h0, .inr (0, [.ref a1, .ref a2, .ref a3, .int (nI N), .int fa])), (a1, .inl (k1, 400, .inl (pm_nf9 cn))), (a2, .inl (k2, 8000, .inl fl)), (a3, .inl (k3, 16, .inl rt))]) [4, 5, 6, 7] rfl
  have hDc := hD.sub (ws' := [(h0, .inr (0, [.ref a1, .ref a2, .ref a3, .int (nI N), .int fa])), (a1, .inl (k1, 400, .inl (pm_nf9 cn))), (a2, .inl (k2, 8000, .inl fl)), (a3, .inl (k3, 16, .inl rt))]) [4, 5, 6, 7] (by decide) rfl
  have hKc := hK.sub (tys' := [(k1, .int), (k2, .int), (k3, .int)]) [3, 4, 5] rfl
  have hFc := va_free (wc := [(h0, .inr (0, [.ref a1, .ref a2, .ref a3, .int (nI N), .int fa])), (a1, .inl (k1, 400, .inl (pm_nf9 cn))), (a2, .inl (k2, 8000, .inl fl)), (a3, .inl (k3, 16, .inl rt))]) hD hS hA [4, 5, 6, 7] rfl
  refine va_calli (va_runV (As := [.int p0]) (rest := []) ⟨hx, hb, hml, hown, hts⟩ (c_H_has l dC dI h0 a1 a2 a3 k1 k2 k3 N cn fl rt fa p0 H.size) (cwV 1 hts (gw_V ml_X1_42 mi_X0_has ms_X0_has mn_X0 mc_X0_has) rfl rfl rfl (by decide +kernel) ⟨Nat.le_of_ble_eq_true rfl, Nat.le_of_ble_eq_true rfl⟩) ⟨fun a U g mk q => by obtain ⟨q0, q1, qP, qK, qD⟩ := q; exact ⟨q0, q1, qP, va_K.moved (u := U) (U := U.calling g mk a) (Vm.Alike.refl U.vm) qK, qD⟩, va_recv hKc hPc (ci := 0) (q0 := 0) rfl rfl, fun U hU hW => ⟨rfl, by rw [hU], by rw [hU]; exact hPc, va_K.moved hW.alike hKc, hDc.weaken (fun _ _ _ _ => trivial)⟩⟩ rfl rfl hl.1 rfl (lv_room (Nat.le_of_ble_eq_true rfl)) dX1_putMark_5 ⟨Nat.le_of_ble_eq_true rfl, Nat.le_of_ble_eq_true rfl⟩) hS (fun q _ h => hFc q h) hFc (fun r_1 u t H1 locs ht hvm hw hB hz1 hk1 hS => ?_)
  obtain ⟨hP1, hK1, hD1⟩ := hB
  rw [ht] at hP1
  have hK1 := va_K.moved hvm.symm hK1
  obtain ⟨hP, hD⟩ := va_join (wr := [(m0, .inr (1, [.ref h0, .ref b1, .ref b2, .ref b3, .int (nI lim), .int (nI kc), .int (nI nr), .int (nI nf), .int (nI nc)])), (b1, .inl (g1, 400, .inl mr)), (b2, .inl (g2, 400, .inl ch)), (b3, .inl (g3, 64, .inl kp))]) (w1 := [(h0, .inr (0, [.ref a1, .ref a2, .ref a3, .int (nI N), .int fa])), (a1, .inl (k1, 400, .inl (pm_nf9 cn))), (a2, .inl (k2, 8000, .inl fl)), (a3, .inl (k3, 16, .inl rt))]) hP hD [4, 5, 6, 7] [0, 1, 2, 3] rfl rfl (by decide) (by decide) hk1 hFc hP1 hD1
  clear hPc hDc hKc hFc hP1 hK1 hD1
  generalize H1 = H at hP hS ⊢
  have hP : va_P (dC, dI) vwCl [(m0, .inr (1, [.ref h0, .ref b1, .ref b2, .ref b3, .int (nI lim), .int (nI kc), .int (nI nr), .int (nI nf), .int (nI nc)])), (b1, .inl (g1, 400, .inl mr)), (b2, .inl (g2, 400, .inl ch)), (b3, .inl (g3, 64, .inl kp)), (h0, .inr (0, [.ref a1, .ref a2, .ref a3, .int (nI N), .int fa])), (a1, .inl (k1, 400, .inl (pm_nf9 cn))), (a2, .inl (k2, 8000, .inl fl)), (a3, .inl (k3, 16, .inl rt))] H := hP.sub [0, 1, 2, 3, 4, 5, 6, 7] rfl
  have hD : va_D A [(m0, .inr (1, [.ref h0, .ref b1, .ref b2, .ref b3, .int (nI lim), .int (nI kc), .int (nI nr), .int (nI nf), .int (nI nc)])), (b1, .inl (g1, 400, .inl mr)), (b2, .inl (g2, 400, .inl ch)), (b3, .inl (g3, 64, .inl kp)), (h0, .inr (0, [.ref a1, .ref a2, .ref a3, .int (nI N), .int fa])), (a1, .inl (k1, 400, .inl (pm_nf9 cn))), (a2, .inl (k2, 8000, .inl fl)), (a3, .inl (k3, 16, .inl rt))] := hD.sub [0, 1, 2, 3, 4, 5, 6, 7] (by decide) rfl
  rcases pm_tf (pm_has N p0) with hh_5 | hh_5
  · obtain rfl : r_1 = nI 1 := hw.trans (by rw [hh_5]; rfl)
    obtain ⟨k, hk, rfl⟩ := pm_has_of (by omega) hh_5
    refine lv_if_eq (tgt := 32) hx hb dX1_putMark_8 (by decide) (fun c_8 => absurd c_8 (by decide +kernel)) (fun c_8 => ?_)
    refine lv_aload_n hx hb dX1_putMark_11 rfl (lv_at hl 0 rfl) ?_
    refine va_get (D := (dC, dI)) (ci := 1) (v := .ref b1) (C := RX1) (T := TX1) (N := 9) hx hb hts iw_X1 hown hK hP 0 rfl rfl 1 (by decide) (hts _ mf_X1_15) (fun _ h9 => h9) rfl dX1_putMark_12 ?_
    refine lv_iload_n hx hb dX1_putMark_15 rfl (lv_at hl 1 rfl) ?_
    refine va_zald hx hb hK hP 1 0 rfl rfl (vp_in_nI (by omega) (by omega)) dX1_putMark_16 ?_
    refine lv_topi (fun x_2 ex_2 => ?_)
    rw [nI_clamp (by omega)] at ex_2
    subst ex_2
    refine lv_if_ne (tgt := 32) hx hb dX1_putMark_17 (by decide) (fun c_17 => ?_) (fun c_17 => ?_)
    · exact W.vret hx hb hr (fun t ht hW => ⟨⟨(mr, kp, kc, nf), rfl, pm_p2 hh_5 (by omega) c_17, by rw [ht]; exact hP, va_K.moved hW.alike hK, hD⟩, hS.F ht⟩) hS.2.2 dX1_putMark_32
    · refine lv_aload_n hx hb dX1_putMark_20 rfl (lv_at hl 0 rfl) ?_
      refine va_get (D := (dC, dI)) (ci := 1) (v := .ref b1) (C := RX1) (T := TX1) (N := 9) hx hb hts iw_X1 hown hK hP 0 rfl rfl 1 (by decide) (hts _ mf_X1_15) (fun _ h9 => h9) rfl dX1_putMark_21 ?_
      refine lv_iload_n hx hb dX1_putMark_24 rfl (lv_at hl 1 rfl) ?_
      refine lv_iconst (v := nI 1) hx hb dX1_putMark_25 (by decide +kernel) ?_
      refine va_zast hx hb hK hP hD hS 1 0 rfl rfl (vp_in_nI (by omega) (by omega)) dX1_putMark_26 (fun H locs hP hD hS => ?_)
      rw [nI_clamp (by omega)] at hP hD
      rw [pm_z1] at hP hD
      have hP : va_P (dC, dI) vwCl [(m0, .inr (1, [.ref h0, .ref b1, .ref b2, .ref b3, .int (nI lim), .int (nI kc), .int (nI nr), .int (nI nf), .int (nI nc)])), (b1, .inl (g1, 400, .inl (upd mr k 1))), (b2, .inl (g2, 400, .inl ch)), (b3, .inl (g3, 64, .inl kp)), (h0, .inr (0, [.ref a1, .ref a2, .ref a3, .int (nI N), .int fa])), (a1, .inl (k1, 400, .inl (pm_nf9 cn))), (a2, .inl (k2, 8000, .inl fl)), (a3, .inl (k3, 16, .inl rt))] H := hP
      have hD : va_D A [(m0, .inr (1, [.ref h0, .ref b1, .ref b2, .ref b3, .int (nI lim), .int (nI kc), .int (nI nr), .int (nI nf), .int (nI nc)])), (b1, .inl (g1, 400, .inl (upd mr k 1))), (b2, .inl (g2, 400, .inl ch)), (b3, .inl (g3, 64, .inl kp)), (h0, .inr (0, [.ref a1, .ref a2, .ref a3, .int (nI N), .int fa])), (a1, .inl (k1, 400, .inl (pm_nf9 cn))), (a2, .inl (k2, 8000, .inl fl)), (a3, .inl (k3, 16, .inl rt))] := hD
      refine lv_aload_n hx hb dX1_putMark_27 rfl (lv_at hl 0 rfl) ?_
      refine lv_iload_n hx hb dX1_putMark_28 rfl (lv_at hl 1 rfl) ?_
      have hPc := hP.sub (ws' := [(m0, .inr (1, [.ref h0, .ref b1, .ref b2, .ref b3, .int (nI lim), .int (nI kc), .int (nI nr), .int (nI nf), .int (nI nc)])), (b3, .inl (g3, 64, .inl kp))]) [0, 3] rfl
      have hDc := hD.sub (ws' := [(m0, .inr (1, [.ref h0, .ref b1, .ref b2, .ref b3, .int (nI lim), .int (nI kc), .int (nI nr), .int (nI nf), .int (nI nc)])), (b3, .inl (g3, 64, .inl kp))]) [0, 3] (by decide) rfl
      have hKc := hK.sub (tys' := [(g3, .int)]) [2] rfl
      have hFc := va_free (wc := [(m0, .inr (1, [.ref h0, .ref b1, .ref b2, .ref b3, .int (nI lim), .int (nI kc), .int (nI nr), .int (nI nf), .int (nI nc)])), (b3, .inl (g3, 64, .inl kp))]) hD hS hA [0, 3] rfl
      refine va_callv (va_runV (As := [.int (nI k)]) (rest := []) ⟨hx, hb, hml, hown, hts⟩ (c_M_keepOrForget l dC dI m0 b1 b2 b3 g1 g2 g3 (upd mr k 1) ch kp lim kc nr nf nc h0 a1 a2 a3 k1 k2 k3 N cn fl rt fa k H.size (hlim) (hkc) (hnf) (by omega)) (cwV 1 hts (gw_V ml_X1_81 mi_X1_keepOrForget ms_X1_keepOrForget mn_X1 mc_X1_keepOrForget) rfl rfl rfl (by decide +kernel) ⟨Nat.le_of_ble_eq_true rfl, Nat.le_of_ble_eq_true rfl⟩) ⟨fun a U g mk q => by obtain ⟨q0, q1, qP, qK, qD⟩ := q; exact ⟨q0, q1, qP, va_K.moved (u := U) (U := U.calling g mk a) (Vm.Alike.refl U.vm) qK, qD⟩, va_recv hKc hPc (ci := 1) (q0 := 0) rfl rfl, fun U hU hW => ⟨rfl, by rw [hU], by rw [hU]; exact hPc, va_K.moved hW.alike hKc, hDc.weaken (fun _ _ _ _ => trivial)⟩⟩ rfl rfl hl.1 rfl (lv_room (Nat.le_of_ble_eq_true rfl)) dX1_putMark_29 ⟨Nat.le_of_ble_eq_true rfl, Nat.le_of_ble_eq_true rfl⟩) hS (fun q _ h => hFc q h) hFc (fun u t H1 locs ht hvm hw hB hz1 hk1 hS => ?_)
      obtain ⟨mk9, kp9, kc9, nf9⟩ := u
      obtain ⟨hP1, hK1, hD1⟩ := hB
      rw [ht] at hP1
      have hK1 := va_K.moved hvm.symm hK1
      obtain ⟨hP, hD⟩ := va_join (wr := [(b1, .inl (g1, 400, .inl (upd mr k 1))), (b2, .inl (g2, 400, .inl ch)), (h0, .inr (0, [.ref a1, .ref a2, .ref a3, .int (nI N), .int fa])), (a1, .inl (k1, 400, .inl (pm_nf9 cn))), (a2, .inl (k2, 8000, .inl fl)), (a3, .inl (k3, 16, .inl rt))]) (w1 := [(m0, .inr (1, [.ref h0, .ref b1, .ref b2, .ref b3, .int (nI lim), .int (nI kc9), .int (nI nr), .int (nI nf9), .int (nI nc)])), (b3, .inl (g3, 64, .inl kp9))]) hP hD [0, 3] [1, 2, 4, 5, 6, 7] rfl rfl (by decide) (by decide) hk1 hFc hP1 hD1
      clear hPc hDc hKc hFc hP1 hK1 hD1
      generalize H1 = H at hP hS ⊢
      have hP : va_P (dC, dI) vwCl [(m0, .inr (1, [.ref h0, .ref b1, .ref b2, .ref b3, .int (nI lim), .int (nI kc9), .int (nI nr), .int (nI nf9), .int (nI nc)])), (b1, .inl (g1, 400, .inl (upd mr k 1))), (b2, .inl (g2, 400, .inl ch)), (b3, .inl (g3, 64, .inl kp9)), (h0, .inr (0, [.ref a1, .ref a2, .ref a3, .int (nI N), .int fa])), (a1, .inl (k1, 400, .inl (pm_nf9 cn))), (a2, .inl (k2, 8000, .inl fl)), (a3, .inl (k3, 16, .inl rt))] H := hP.sub [6, 0, 1, 7, 2, 3, 4, 5] rfl
      have hD : va_D A [(m0, .inr (1, [.ref h0, .ref b1, .ref b2, .ref b3, .int (nI lim), .int (nI kc9), .int (nI nr), .int (nI nf9), .int (nI nc)])), (b1, .inl (g1, 400, .inl (upd mr k 1))), (b2, .inl (g2, 400, .inl ch)), (b3, .inl (g3, 64, .inl kp9)), (h0, .inr (0, [.ref a1, .ref a2, .ref a3, .int (nI N), .int fa])), (a1, .inl (k1, 400, .inl (pm_nf9 cn))), (a2, .inl (k2, 8000, .inl fl)), (a3, .inl (k3, 16, .inl rt))] := hD.sub [6, 0, 1, 7, 2, 3, 4, 5] (by decide) rfl
      have e9 : mk9 = upd mr k 1 := by have q := congrArg Prod.fst hw; rw [pm_keep_mk] at q; exact q
      exact W.vret hx hb hr (fun t ht hW => ⟨⟨(upd mr k 1, kp9, kc9, nf9), rfl, by rw [← pm_p3 hh_5 (by omega) c_17, ← hw, e9], by rw [ht]; exact hP, va_K.moved hW.alike hK, hD⟩, hS.F ht⟩) hS.2.2 dX1_putMark_32
  · obtain rfl : r_1 = nI 0 := hw.trans (by rw [hh_5]; rfl)
    refine lv_if_eq (tgt := 32) hx hb dX1_putMark_8 (by decide) (fun c_8 => ?_) (fun c_8 => absurd c_8 (by decide +kernel))
    exact W.vret hx hb hr (fun t ht hW => ⟨⟨(mr, kp, kc, nf), rfl, pm_p1 hh_5, by rw [ht]; exact hP, va_K.moved hW.alike hK, hD⟩, hS.F ht⟩) hS.2.2 dX1_putMark_32

set_option maxHeartbeats 4000000 in
set_option maxRecDepth 100000 in
/-- Marker.markFieldsOf(k) -/
theorem c_M_markFieldsOf (l : Launch) (dC : Nat → ClassId) (dI : Nat → Nat → Nat) (m0 b1 b2 b3 : Nat) (g1 g2 g3 : ClassId) (mr ch kp : Nat → Int32) (lim kc nr nf nc : Nat) (h0 a1 a2 a3 : Nat) (k1 k2 k3 : ClassId) (N : Nat) (cn : Nat → Nat) (fl rt : Nat → Int32) (fa : Int32) (p0 : Int32) (sz : Nat) (hlim : lim ≤ 64) (hkc : kc ≤ 64) (hnf : nf ≤ 400) (hN : N ≤ 400) (hc : ∀ k, k < N → cn k ≤ 20) : Met l yX1_markFieldsOf wsX1_markFieldsOf ({ frames := 3, cells := 0, slots := 0, locals := 65 }) (va_Pc [.ref m0, .int p0] (fun U => U.heap.size = sz ∧ va_P (dC, dI) vwCl [(m0, .inr (1, [.ref h0, .ref b1, .ref b2, .ref b3, .int (nI lim), .int (nI kc), .int (nI nr), .int (nI nf), .int (nI nc)])), (b1, .inl (g1, 400, .inl mr)), (b2, .inl (g2, 400, .inl ch)), (b3, .inl (g3, 64, .inl kp)), (h0, .inr (0, [.ref a1, .ref a2, .ref a3, .int (nI N), .int fa])), (a1, .inl (k1, 400, .inl (pm_nf9 cn))), (a2, .inl (k2, 8000, .inl fl)), (a3, .inl (k3, 16, .inl rt))] U.heap ∧ va_K (dC, dI) vwCl [(g1, .boolean), (g2, .boolean), (g3, .int), (k1, .int), (k2, .int), (k3, .int)] U ∧ va_D (fun _ => True) [(m0, .inr (1, [.ref h0, .ref b1, .ref b2, .ref b3, .int (nI lim), .int (nI kc), .int (nI nr), .int (nI nf), .int (nI nc)])), (b1, .inl (g1, 400, .inl mr)), (b2, .inl (g2, 400, .inl ch)), (b3, .inl (g3, 64, .inl kp)), (h0, .inr (0, [.ref a1, .ref a2, .ref a3, .int (nI N), .int fa])), (a1, .inl (k1, 400, .inl (pm_nf9 cn))), (a2, .inl (k2, 8000, .inl fl)), (a3, .inl (k3, 16, .inl rt))])) (va_Qv (fun (u : pm_P) => u = pm_go N cn fl lim (mr, kp, kc, nf) p0) (fun (u : pm_P) (t : State) => va_P (dC, dI) vwCl [(m0, .inr (1, [.ref h0, .ref b1, .ref b2, .ref b3, .int (nI lim), .int (nI (u.2.2.1)), .int (nI nr), .int (nI (u.2.2.2)), .int (nI nc)])), (b1, .inl (g1, 400, .inl (u.1))), (b2, .inl (g2, 400, .inl ch)), (b3, .inl (g3, 64, .inl (u.2.1))), (h0, .inr (0, [.ref a1, .ref a2, .ref a3, .int (nI N), .int fa])), (a1, .inl (k1, 400, .inl (pm_nf9 cn))), (a2, .inl (k2, 8000, .inl fl)), (a3, .inl (k3, 16, .inl rt))] t.heap ∧ va_K (dC, dI) vwCl [(g1, .boolean), (g2, .boolean), (g3, .int), (k1, .int), (k2, .int), (k3, .int)] t ∧ va_D (va_A [(m0, .inr (1, [.ref h0, .ref b1, .ref b2, .ref b3, .int (nI lim), .int (nI kc), .int (nI nr), .int (nI nf), .int (nI nc)])), (b1, .inl (g1, 400, .inl mr)), (b2, .inl (g2, 400, .inl ch)), (b3, .inl (g3, 64, .inl kp)), (h0, .inr (0, [.ref a1, .ref a2, .ref a3, .int (nI N), .int fa])), (a1, .inl (k1, 400, .inl (pm_nf9 cn))), (a2, .inl (k2, 8000, .inl fl)), (a3, .inl (k3, 16, .inl rt))] sz) [(m0, .inr (1, [.ref h0, .ref b1, .ref b2, .ref b3, .int (nI lim), .int (nI (u.2.2.1)), .int (nI nr), .int (nI (u.2.2.2)), .int (nI nc)])), (b1, .inl (g1, 400, .inl (u.1))), (b2, .inl (g2, 400, .inl ch)), (b3, .inl (g3, 64, .inl (u.2.1))), (h0, .inr (0, [.ref a1, .ref a2, .ref a3, .int (nI N), .int fa])), (a1, .inl (k1, 400, .inl (pm_nf9 cn))), (a2, .inl (k2, 8000, .inl fl)), (a3, .inl (k3, 16, .inl rt))]) (va_A [(m0, .inr (1, [.ref h0, .ref b1, .ref b2, .ref b3, .int (nI lim), .int (nI kc), .int (nI nr), .int (nI nf), .int (nI nc)])), (b1, .inl (g1, 400, .inl mr)), (b2, .inl (g2, 400, .inl ch)), (b3, .inl (g3, 64, .inl kp)), (h0, .inr (0, [.ref a1, .ref a2, .ref a3, .int (nI N), .int fa])), (a1, .inl (k1, 400, .inl (pm_nf9 cn))), (a2, .inl (k2, 8000, .inl fl)), (a3, .inl (k3, 16, .inl rt))] sz)) 0 0 (va_A [(m0, .inr (1, [.ref h0, .ref b1, .ref b2, .ref b3, .int (nI lim), .int (nI kc), .int (nI nr), .int (nI nf), .int (nI nc)])), (b1, .inl (g1, 400, .inl mr)), (b2, .inl (g2, 400, .inl ch)), (b3, .inl (g3, 64, .inl kp)), (h0, .inr (0, [.ref a1, .ref a2, .ref a3, .int (nI N), .int fa])), (a1, .inl (k1, 400, .inl (pm_nf9 cn))), (a2, .inl (k2, 8000, .inl fl)), (a3, .inl (k3, 16, .inl rt))] sz) := by
  refine Met.ofW (cc := cX1_markFieldsOf) (maxL := 4) (ret := (none)) (by decide) rfl ?_
  intro p e s m args below meth c s₁ B hml hv
  obtain ⟨rfl, hsz, hP, hK, hD0⟩ := hv
  have hx := B.exec
  have hb := B.bytes
  have hr := B.returns
  have hts : ∀ w ∈ gw, w.before _ s = true := fun w h => atoms_spec (ws := wsX1_markFieldsOf) B.pre w (List.mem_cons_of_mem _ h)
  have hown : s.vm.findClass RX1 = some m.cls := findClass_of_methodNamed B.named
  have hlocks := B.notSynchronized
  subst hsz
  have hD := hD0.self (sz := s.heap.size)
  generalize hAe : va_A [(m0, .inr (1, [.ref h0, .ref b1, .ref b2, .ref b3, .int (nI lim), .int (nI kc), .int (nI nr), .int (nI nf), .int (nI nc)])), (b1, .inl (g1, 400, .inl mr)), (b2, .inl (g2, 400, .inl ch)), (b3, .inl (g3, 64, .inl kp)), (h0, .inr (0, [.ref a1, .ref a2, .ref a3, .int (nI N), .int fa])), (a1, .inl (k1, 400, .inl (pm_nf9 cn))), (a2, .inl (k2, 8000, .inl fl)), (a3, .inl (k3, 16, .inl rt))] s.heap.size = A at hD ⊢
  have hA : ∀ q : Nat, s.heap.size ≤ q → A q := fun q h => by rw [← hAe]; exact Or.inr h
  have hP : va_P (dC, dI) vwCl [(m0, .inr (1, [.ref h0, .ref b1, .ref b2, .ref b3, .int (nI lim), .int (nI kc), .int (nI nr), .int (nI nf), .int (nI nc)])), (b1, .inl (g1, 400, .inl mr)), (b2, .inl (g2, 400, .inl ch)), (b3, .inl (g3, 64, .inl kp)), (h0, .inr (0, [.ref a1, .ref a2, .ref a3, .int (nI N), .int fa])), (a1, .inl (k1, 400, .inl (pm_nf9 cn))), (a2, .inl (k2, 8000, .inl fl)), (a3, .inl (k3, 16, .inl rt))] s.heap := hP
  have hl := lv_entry ([.ref m0, .int p0]) (n := 4) (Nat.le_of_ble_eq_true rfl)
  rw [lg_entry_eq]
  generalize (lg_sl ([.ref m0, .int p0]) ++ List.replicate (4 - (lg_sl ([.ref m0, .int p0])).length) Slot.unset).toArray = ls at hl ⊢
  have hl : lv_has ls 4 [(0, .ref m0), (1, .int p0)] := hl
  obtain ⟨H, hH⟩ : ∃ H : Heap, H = s.heap := ⟨_, rfl⟩
  rw [← hH]
  rw [← hH] at hP
  have hS : va_S A s.heap H [] := by rw [hH]; exact va_S.rf
  clear hH
  refine lv_aload_n hx hb dX1_markFieldsOf_0 rfl (lv_at hl 0 rfl) ?_
  refine va_get (D := (dC, dI)) (ci := 1) (v := .ref h0) (C := RX1) (T := TX1) (N := 9) hx hb hts iw_X1 hown hK hP 0 rfl rfl 0 (by decide) (hts _ mf_X1_9) (fun _ h9 => h9) rfl dX1_markFieldsOf_1 ?_
  refine lv_iload_n hx hb dX1_markFieldsOf_4 rfl (lv_at hl 1 rfl) ?_
  have hPc := hP.sub (ws' := [(h0, .inr (0, [.ref a1, .ref a2, .ref a3, .int (nI N), .int fa])), (a1, .inl (k1, 400, .inl (pm_nf9 cn))), (a2, .inl (k2, 8000, .inl fl)), (a3, .inl (k3, 16, .inl rt))]) [4, 5, 6, 7] rfl
  have hDc := hD.sub (ws' := [(h0, .inr (0, [.ref a1, .ref a2, .ref a3, .int (nI N), .int fa])), (a1, .inl (k1, 400, .inl (pm_nf9 cn))), (a2, .inl (k2, 8000, .inl fl)), (a3, .inl (k3, 16, .inl rt))]) [4, 5, 6, 7] (by decide) rfl
  have hKc := hK.sub (tys' := [(k1, .int), (k2, .int), (k3, .int)]) [3, 4, 5] rfl
  have hFc := va_free (wc := [(h0, .inr (0, [.ref a1, .ref a2, .ref a3, .int (nI N), .int fa])), (a1, .inl (k1, 400, .inl (pm_nf9 cn))), (a2, .inl (k2, 8000, .inl fl)), (a3, .inl (k3, 16, .inl rt))]) hD hS hA [4, 5, 6, 7] rfl
  refine va_calli (va_runV (As := [.int p0]) (rest := []) ⟨hx, hb, hml, hown, hts⟩ (c_H_fieldCountOf l dC dI h0 a1 a2 a3 k1 k2 k3 N cn fl rt fa p0 H.size (hN)) (cwV 1 hts (gw_V ml_X1_74 mi_X0_fieldCountOf ms_X0_fieldCountOf mn_X0 mc_X0_fieldCountOf) rfl rfl rfl (by decide +kernel) ⟨Nat.le_of_ble_eq_true rfl, Nat.le_of_ble_eq_true rfl⟩) ⟨fun a U g mk q => by obtain ⟨q0, q1, qP, qK, qD⟩ := q; exact ⟨q0, q1, qP, va_K.moved (u := U) (U := U.calling g mk a) (Vm.Alike.refl U.vm) qK, qD⟩, va_recv hKc hPc (ci := 0) (q0 := 0) rfl rfl, fun U hU hW => ⟨rfl, by rw [hU], by rw [hU]; exact hPc, va_K.moved hW.alike hKc, hDc.weaken (fun _ _ _ _ => trivial)⟩⟩ rfl rfl hl.1 rfl (lv_room (Nat.le_of_ble_eq_true rfl)) dX1_markFieldsOf_5 ⟨Nat.le_of_ble_eq_true rfl, Nat.le_of_ble_eq_true rfl⟩) hS (fun q _ h => hFc q h) hFc (fun r_1 u t H1 locs ht hvm hw hB hz1 hk1 hS => ?_)
  obtain ⟨hP1, hK1, hD1⟩ := hB
  rw [ht] at hP1
  have hK1 := va_K.moved hvm.symm hK1
  obtain ⟨hP, hD⟩ := va_join (wr := [(m0, .inr (1, [.ref h0, .ref b1, .ref b2, .ref b3, .int (nI lim), .int (nI kc), .int (nI nr), .int (nI nf), .int (nI nc)])), (b1, .inl (g1, 400, .inl mr)), (b2, .inl (g2, 400, .inl ch)), (b3, .inl (g3, 64, .inl kp))]) (w1 := [(h0, .inr (0, [.ref a1, .ref a2, .ref a3, .int (nI N), .int fa])), (a1, .inl (k1, 400, .inl (pm_nf9 cn))), (a2, .inl (k2, 8000, .inl fl)), (a3, .inl (k3, 16, .inl rt))]) hP hD [4, 5, 6, 7] [0, 1, 2, 3] rfl rfl (by decide) (by decide) hk1 hFc hP1 hD1
  clear hPc hDc hKc hFc hP1 hK1 hD1
  generalize H1 = H at hP hS ⊢
  have hP : va_P (dC, dI) vwCl [(m0, .inr (1, [.ref h0, .ref b1, .ref b2, .ref b3, .int (nI lim), .int (nI kc), .int (nI nr), .int (nI nf), .int (nI nc)])), (b1, .inl (g1, 400, .inl mr)), (b2, .inl (g2, 400, .inl ch)), (b3, .inl (g3, 64, .inl kp)), (h0, .inr (0, [.ref a1, .ref a2, .ref a3, .int (nI N), .int fa])), (a1, .inl (k1, 400, .inl (pm_nf9 cn))), (a2, .inl (k2, 8000, .inl fl)), (a3, .inl (k3, 16, .inl rt))] H := hP.sub [0, 1, 2, 3, 4, 5, 6, 7] rfl
  have hD : va_D A [(m0, .inr (1, [.ref h0, .ref b1, .ref b2, .ref b3, .int (nI lim), .int (nI kc), .int (nI nr), .int (nI nf), .int (nI nc)])), (b1, .inl (g1, 400, .inl mr)), (b2, .inl (g2, 400, .inl ch)), (b3, .inl (g3, 64, .inl kp)), (h0, .inr (0, [.ref a1, .ref a2, .ref a3, .int (nI N), .int fa])), (a1, .inl (k1, 400, .inl (pm_nf9 cn))), (a2, .inl (k2, 8000, .inl fl)), (a3, .inl (k3, 16, .inl rt))] := hD.sub [0, 1, 2, 3, 4, 5, 6, 7] (by decide) rfl
  rcases pm_tf (pm_has N p0) with hh_5 | hh_5
  · obtain ⟨a, ha, rfl⟩ := pm_has_of (by omega) hh_5
    have hca := hc a ha
    obtain rfl : r_1 = nI (cn a) := hw.trans (by rw [if_pos hh_5, nI_clamp (by omega)])
    refine lv_istore_n (lv' := [(2, .int (nI (cn a))), (0, .ref m0), (1, .int (nI a))]) hx hb dX1_markFieldsOf_8 rfl hl (by decide) rfl (fun ls hl => ?_)
    refine lv_iconst (v := nI 0) hx hb dX1_markFieldsOf_9 (by decide +kernel) ?_
    refine lv_istore_n (lv' := [(3, .int (nI 0)), (2, .int (nI (cn a))), (0, .ref m0), (1, .int (nI a))]) hx hb dX1_markFieldsOf_10 rfl hl (by decide) rfl (fun ls hl => ?_)
    refine lp_loop (σ := Nat × (Nat → Int32) × (Nat → Int32) × Nat × Nat) (head := 11) (fun x H locs ls => match x with | (j, mk1, kp1, kc1, nf1) => j ≤ cn a ∧ (mk1, kp1, kc1, nf1) = pm_mf N lim (fun j => fl (a * 20 + j)) j (mr, kp, kc, nf) ∧ va_P (dC, dI) vwCl [(m0, .inr (1, [.ref h0, .ref b1, .ref b2, .ref b3, .int (nI lim), .int (nI kc1), .int (nI nr), .int (nI nf1), .int (nI nc)])), (b1, .inl (g1, 400, .inl mk1)), (b2, .inl (g2, 400, .inl ch)), (b3, .inl (g3, 64, .inl kp1)), (h0, .inr (0, [.ref a1, .ref a2, .ref a3, .int (nI N), .int fa])), (a1, .inl (k1, 400, .inl (pm_nf9 cn))), (a2, .inl (k2, 8000, .inl fl)), (a3, .inl (k3, 16, .inl rt))] H ∧ va_D A [(m0, .inr (1, [.ref h0, .ref b1, .ref b2, .ref b3, .int (nI lim), .int (nI kc1), .int (nI nr), .int (nI nf1), .int (nI nc)])), (b1, .inl (g1, 400, .inl mk1)), (b2, .inl (g2, 400, .inl ch)), (b3, .inl (g3, 64, .inl kp1)), (h0, .inr (0, [.ref a1, .ref a2, .ref a3, .int (nI N), .int fa])), (a1, .inl (k1, 400, .inl (pm_nf9 cn))), (a2, .inl (k2, 8000, .inl fl)), (a3, .inl (k3, 16, .inl rt))] ∧ va_S A s.heap H locs ∧ lv_has ls 4 [(3, .int (nI j)), (2, .int (nI (cn a))), (1, .int (nI a)), (0, .ref m0)]) (fun x => match x with | (j, mk1, kp1, kc1, nf1) => cn a - j) ?_ (0, mr, kp, kc, nf) _ _ _ ⟨Nat.zero_le _, rfl, hP, hD, hS, lv_sub hl [0, 1, 3, 2] rfl⟩
    intro x H locs ls hI ih
    obtain ⟨j, mk1, kp1, kc1, nf1⟩ := x
    obtain ⟨hj, hE, hP, hD, hS, hl⟩ := hI
    dsimp only at ih
    have hL := pm_mf_le (lim := lim) hN (fun j => fl (a * 20 + j)) j (mr, kp, kc, nf)
    rw [← hE] at hL
    have hk1 : kc1 ≤ 64 := hL.2.2.2.2.2.2.1 hkc
    have hn1 : nf1 ≤ 400 := Nat.le_trans hL.2.2.2.1 hnf
    refine lv_iload_n hx hb dX1_markFieldsOf_11 rfl (lv_at hl 0 rfl) ?_
    refine lv_iload_n hx hb dX1_markFieldsOf_12 rfl (lv_at hl 1 rfl) ?_
    refine lv_icmp_ge (tgt := 35) hx hb dX1_markFieldsOf_13 (by decide) (fun c_13 => ?_) (fun c_13 => ?_)
    · rw [nI_leI (by omega) (by omega)] at c_13
      exact W.vret hx hb hr (fun t ht hW => ⟨⟨(mk1, kp1, kc1, nf1), rfl, by rw [hE, show j = cn a by omega]; exact pm_g2 hh_5 (by omega), by rw [ht]; exact hP, va_K.moved hW.alike hK, hD⟩, hS.F ht⟩) hS.2.2 dX1_markFieldsOf_35
    · rw [nI_leI (by omega) (by omega)] at c_13
      refine lv_aload_n hx hb dX1_markFieldsOf_16 rfl (lv_at hl 3 rfl) ?_
      refine lv_aload_n hx hb dX1_markFieldsOf_17 rfl (lv_at hl 3 rfl) ?_
      refine va_get (D := (dC, dI)) (ci := 1) (v := .ref h0) (C := RX1) (T := TX1) (N := 9) hx hb hts iw_X1 hown hK hP 0 rfl rfl 0 (by decide) (hts _ mf_X1_9) (fun _ h9 => h9) rfl dX1_markFieldsOf_18 ?_
      refine lv_iload_n hx hb dX1_markFieldsOf_21 rfl (lv_at hl 2 rfl) ?_
      refine lv_iload_n hx hb dX1_markFieldsOf_22 rfl (lv_at hl 0 rfl) ?_
      have hPc := hP.sub (ws' := [(h0, .inr (0, [.ref a1, .ref a2, .ref a3, .int (nI N), .int fa])), (a1, .inl (k1, 400, .inl (pm_nf9 cn))), (a2, .inl (k2, 8000, .inl fl)), (a3, .inl (k3, 16, .inl rt))]) [4, 5, 6, 7] rfl
      have hDc := hD.sub (ws' := [(h0, .inr (0, [.ref a1, .ref a2, .ref a3, .int (nI N), .int fa])), (a1, .inl (k1, 400, .inl (pm_nf9 cn))), (a2, .inl (k2, 8000, .inl fl)), (a3, .inl (k3, 16, .inl rt))]) [4, 5, 6, 7] (by decide) rfl
      have hKc := hK.sub (tys' := [(k1, .int), (k2, .int), (k3, .int)]) [3, 4, 5] rfl
      have hFc := va_free (wc := [(h0, .inr (0, [.ref a1, .ref a2, .ref a3, .int (nI N), .int fa])), (a1, .inl (k1, 400, .inl (pm_nf9 cn))), (a2, .inl (k2, 8000, .inl fl)), (a3, .inl (k3, 16, .inl rt))]) hD hS hA [4, 5, 6, 7] rfl
      refine va_calli (va_runV (As := [.int (nI a), .int (nI j)]) (rest := [.ref m0]) ⟨hx, hb, hml, hown, hts⟩ (c_H_fieldOf l dC dI h0 a1 a2 a3 k1 k2 k3 N cn fl rt fa (nI a) (nI j) H.size (hN) (hc)) (cwV 2 hts (gw_V ml_X1_77 mi_X0_fieldOf ms_X0_fieldOf mn_X0 mc_X0_fieldOf) rfl rfl rfl (by decide +kernel) ⟨Nat.le_of_ble_eq_true rfl, Nat.le_of_ble_eq_true rfl⟩) ⟨fun a U g mk q => by obtain ⟨q0, q1, qP, qK, qD⟩ := q; exact ⟨q0, q1, qP, va_K.moved (u := U) (U := U.calling g mk a) (Vm.Alike.refl U.vm) qK, qD⟩, va_recv hKc hPc (ci := 0) (q0 := 0) rfl rfl, fun U hU hW => ⟨rfl, by rw [hU], by rw [hU]; exact hPc, va_K.moved hW.alike hKc, hDc.weaken (fun _ _ _ _ => trivial)⟩⟩ rfl rfl hl.1 rfl (lv_room (Nat.le_of_ble_eq_true rfl)) dX1_markFieldsOf_23 ⟨Nat.le_of_ble_eq_true rfl, Nat.le_of_ble_eq_true rfl⟩) hS (fun q _ h => hFc q h) hFc (fun r_2 u t H1 locs ht hvm hw hB hz1 hk1 hS => ?_)
      obtain ⟨hP1, hK1, hD1⟩ := hB
      rw [ht] at hP1
      have hK1 := va_K.moved hvm.symm hK1
      obtain ⟨hP, hD⟩ := va_join (wr := [(m0, .inr (1, [.ref h0, .ref b1, .ref b2, .ref b3, .int (nI lim), .int (nI kc1), .int (nI nr), .int (nI nf1), .int (nI nc)])), (b1, .inl (g1, 400, .inl mk1)), (b2, .inl (g2, 400, .inl ch)), (b3, .inl (g3, 64, .inl kp1))]) (w1 := [(h0, .inr (0, [.ref a1, .ref a2, .ref a3, .int (nI N), .int fa])), (a1, .inl (k1, 400, .inl (pm_nf9 cn))), (a2, .inl (k2, 8000, .inl fl)), (a3, .inl (k3, 16, .inl rt))]) hP hD [4, 5, 6, 7] [0, 1, 2, 3] rfl rfl (by decide) (by decide) hk1 hFc hP1 hD1
      clear hPc hDc hKc hFc hP1 hK1 hD1
      generalize H1 = H at hP hS ⊢
      have hP : va_P (dC, dI) vwCl [(m0, .inr (1, [.ref h0, .ref b1, .ref b2, .ref b3, .int (nI lim), .int (nI kc1), .int (nI nr), .int (nI nf1), .int (nI nc)])), (b1, .inl (g1, 400, .inl mk1)), (b2, .inl (g2, 400, .inl ch)), (b3, .inl (g3, 64, .inl kp1)), (h0, .inr (0, [.ref a1, .ref a2, .ref a3, .int (nI N), .int fa])), (a1, .inl (k1, 400, .inl (pm_nf9 cn))), (a2, .inl (k2, 8000, .inl fl)), (a3, .inl (k3, 16, .inl rt))] H := hP.sub [0, 1, 2, 3, 4, 5, 6, 7] rfl
      have hD : va_D A [(m0, .inr (1, [.ref h0, .ref b1, .ref b2, .ref b3, .int (nI lim), .int (nI kc1), .int (nI nr), .int (nI nf1), .int (nI nc)])), (b1, .inl (g1, 400, .inl mk1)), (b2, .inl (g2, 400, .inl ch)), (b3, .inl (g3, 64, .inl kp1)), (h0, .inr (0, [.ref a1, .ref a2, .ref a3, .int (nI N), .int fa])), (a1, .inl (k1, 400, .inl (pm_nf9 cn))), (a2, .inl (k2, 8000, .inl fl)), (a3, .inl (k3, 16, .inl rt))] := hD.sub [0, 1, 2, 3, 4, 5, 6, 7] (by decide) rfl
      obtain rfl : r_2 = fl (a * 20 + j) := hw.trans ((pm_fo_t (pm_hf_nI (by omega) (by omega) ha (by omega)) (by omega) (by omega)).symm)
      have hPc := hP.sub (ws' := [(m0, .inr (1, [.ref h0, .ref b1, .ref b2, .ref b3, .int (nI lim), .int (nI kc1), .int (nI nr), .int (nI nf1), .int (nI nc)])), (b1, .inl (g1, 400, .inl mk1)), (b2, .inl (g2, 400, .inl ch)), (b3, .inl (g3, 64, .inl kp1)), (h0, .inr (0, [.ref a1, .ref a2, .ref a3, .int (nI N), .int fa])), (a1, .inl (k1, 400, .inl (pm_nf9 cn))), (a2, .inl (k2, 8000, .inl fl)), (a3, .inl (k3, 16, .inl rt))]) [0, 1, 2, 3, 4, 5, 6, 7] rfl
      have hDc := hD.sub (ws' := [(m0, .inr (1, [.ref h0, .ref b1, .ref b2, .ref b3, .int (nI lim), .int (nI kc1), .int (nI nr), .int (nI nf1), .int (nI nc)])), (b1, .inl (g1, 400, .inl mk1)), (b2, .inl (g2, 400, .inl ch)), (b3, .inl (g3, 64, .inl kp1)), (h0, .inr (0, [.ref a1, .ref a2, .ref a3, .int (nI N), .int fa])), (a1, .inl (k1, 400, .inl (pm_nf9 cn))), (a2, .inl (k2, 8000, .inl fl)), (a3, .inl (k3, 16, .inl rt))]) [0, 1, 2, 3, 4, 5, 6, 7] (by decide) rfl
      have hKc := hK.sub (tys' := [(g1, .boolean), (g2, .boolean), (g3, .int), (k1, .int), (k2, .int), (k3, .int)]) [0, 1, 2, 3, 4, 5] rfl
      have hFc := va_free (wc := [(m0, .inr (1, [.ref h0, .ref b1, .ref b2, .ref b3, .int (nI lim), .int (nI kc1), .int (nI nr), .int (nI nf1), .int (nI nc)])), (b1, .inl (g1, 400, .inl mk1)), (b2, .inl (g2, 400, .inl ch)), (b3, .inl (g3, 64, .inl kp1)), (h0, .inr (0, [.ref a1, .ref a2, .ref a3, .int (nI N), .int fa])), (a1, .inl (k1, 400, .inl (pm_nf9 cn))), (a2, .inl (k2, 8000, .inl fl)), (a3, .inl (k3, 16, .inl rt))]) hD hS hA [0, 1, 2, 3, 4, 5, 6, 7] rfl
      refine va_callv (va_runV (As := [.int (fl (a * 20 + j))]) (rest := []) ⟨hx, hb, hml, hown, hts⟩ (c_M_putMark l dC dI m0 b1 b2 b3 g1 g2 g3 mk1 ch kp1 lim kc1 nr nf1 nc h0 a1 a2 a3 k1 k2 k3 N cn fl rt fa (fl (a * 20 + j)) H.size (hlim) (by omega) (by omega) (hN)) (cwV 1 hts (gw_V ml_X1_60 mi_X1_putMark ms_X1_putMark mn_X1 mc_X1_putMark) rfl rfl rfl (by decide +kernel) ⟨Nat.le_of_ble_eq_true rfl, Nat.le_of_ble_eq_true rfl⟩) ⟨fun a U g mk q => by obtain ⟨q0, q1, qP, qK, qD⟩ := q; exact ⟨q0, q1, qP, va_K.moved (u := U) (U := U.calling g mk a) (Vm.Alike.refl U.vm) qK, qD⟩, va_recv hKc hPc (ci := 1) (q0 := 0) rfl rfl, fun U hU hW => ⟨rfl, by rw [hU], by rw [hU]; exact hPc, va_K.moved hW.alike hKc, hDc.weaken (fun _ _ _ _ => trivial)⟩⟩ rfl rfl hl.1 rfl (lv_room (Nat.le_of_ble_eq_true rfl)) dX1_markFieldsOf_26 ⟨Nat.le_of_ble_eq_true rfl, Nat.le_of_ble_eq_true rfl⟩) hS (fun q _ h => hFc q h) hFc (fun u t H1 locs ht hvm hw hB hz1 hk1 hS => ?_)
      obtain ⟨mk2, kp2, kc2, nf2⟩ := u
      obtain ⟨hP1, hK1, hD1⟩ := hB
      rw [ht] at hP1
      have hK1 := va_K.moved hvm.symm hK1
      obtain ⟨hP, hD⟩ := va_join (wr := []) (w1 := [(m0, .inr (1, [.ref h0, .ref b1, .ref b2, .ref b3, .int (nI lim), .int (nI kc2), .int (nI nr), .int (nI nf2), .int (nI nc)])), (b1, .inl (g1, 400, .inl mk2)), (b2, .inl (g2, 400, .inl ch)), (b3, .inl (g3, 64, .inl kp2)), (h0, .inr (0, [.ref a1, .ref a2, .ref a3, .int (nI N), .int fa])), (a1, .inl (k1, 400, .inl (pm_nf9 cn))), (a2, .inl (k2, 8000, .inl fl)), (a3, .inl (k3, 16, .inl rt))]) hP hD [0, 1, 2, 3, 4, 5, 6, 7] [] rfl rfl (by decide) (by decide) hk1 hFc hP1 hD1
      clear hPc hDc hKc hFc hP1 hK1 hD1
      generalize H1 = H at hP hS ⊢
      have hP : va_P (dC, dI) vwCl [(m0, .inr (1, [.ref h0, .ref b1, .ref b2, .ref b3, .int (nI lim), .int (nI kc2), .int (nI nr), .int (nI nf2), .int (nI nc)])), (b1, .inl (g1, 400, .inl mk2)), (b2, .inl (g2, 400, .inl ch)), (b3, .inl (g3, 64, .inl kp2)), (h0, .inr (0, [.ref a1, .ref a2, .ref a3, .int (nI N), .int fa])), (a1, .inl (k1, 400, .inl (pm_nf9 cn))), (a2, .inl (k2, 8000, .inl fl)), (a3, .inl (k3, 16, .inl rt))] H := hP.sub [0, 1, 2, 3, 4, 5, 6, 7] rfl
      have hD : va_D A [(m0, .inr (1, [.ref h0, .ref b1, .ref b2, .ref b3, .int (nI lim), .int (nI kc2), .int (nI nr), .int (nI nf2), .int (nI nc)])), (b1, .inl (g1, 400, .inl mk2)), (b2, .inl (g2, 400, .inl ch)), (b3, .inl (g3, 64, .inl kp2)), (h0, .inr (0, [.ref a1, .ref a2, .ref a3, .int (nI N), .int fa])), (a1, .inl (k1, 400, .inl (pm_nf9 cn))), (a2, .inl (k2, 8000, .inl fl)), (a3, .inl (k3, 16, .inl rt))] := hD.sub [0, 1, 2, 3, 4, 5, 6, 7] (by decide) rfl
      refine lv_iinc (v := nI (j + 1)) (lv' := [(3, .int (nI (j + 1))), (2, .int (nI (cn a))), (1, .int (nI a)), (0, .ref m0)]) hx hb dX1_markFieldsOf_29 hl (k := 0) rfl (nI_1 _) (by decide) rfl (fun ls hl => ?_)
      refine lv_goto (tgt := 11) hx hb dX1_markFieldsOf_32 (by decide) ?_
      exact ih (j + 1, mk2, kp2, kc2, nf2) _ _ _ ⟨by omega, by rw [hw, hE]; rfl, hP, hD, hS, lv_sub hl [0, 1, 2, 3] rfl⟩ (by omega)
  · obtain rfl : r_1 = nI 0 := hw.trans (by rw [if_neg (by rw [hh_5]; decide)])
    refine lv_istore_n (lv' := [(2, .int (nI 0)), (0, .ref m0), (1, .int p0)]) hx hb dX1_markFieldsOf_8 rfl hl (by decide) rfl (fun ls hl => ?_)
    refine lv_iconst (v := nI 0) hx hb dX1_markFieldsOf_9 (by decide +kernel) ?_
    refine lv_istore_n (lv' := [(3, .int (nI 0)), (2, .int (nI 0)), (0, .ref m0), (1, .int p0)]) hx hb dX1_markFieldsOf_10 rfl hl (by decide) rfl (fun ls hl => ?_)
    refine lv_iload_n hx hb dX1_markFieldsOf_11 rfl (lv_at hl 0 rfl) ?_
    refine lv_iload_n hx hb dX1_markFieldsOf_12 rfl (lv_at hl 1 rfl) ?_
    refine lv_icmp_ge (tgt := 35) hx hb dX1_markFieldsOf_13 (by decide) (fun c_13 => ?_) (fun c_13 => absurd c_13 (by decide +kernel))
    rw [nI_leI (by omega) (by omega)] at c_13
    exact W.vret hx hb hr (fun t ht hW => ⟨⟨(mr, kp, kc, nf), rfl, pm_g1 hh_5, by rw [ht]; exact hP, va_K.moved hW.alike hK, hD⟩, hS.F ht⟩) hS.2.2 dX1_markFieldsOf_35

set_option maxHeartbeats 4000000 in
set_option maxRecDepth 100000 in
/-- Marker.hasMark(k) -/
theorem c_M_hasMark (l : Launch) (dC : Nat → ClassId) (dI : Nat → Nat → Nat) (m0 b1 b2 b3 : Nat) (g1 g2 g3 : ClassId) (mr ch kp : Nat → Int32) (lim kc nr nf nc : Nat) (h0 a1 a2 a3 : Nat) (k1 k2 k3 : ClassId) (N : Nat) (cn : Nat → Nat) (fl rt : Nat → Int32) (fa : Int32) (p0 : Int32) (sz : Nat) (hN : N ≤ 400) : Met l yX1_hasMark wsX1_hasMark ({ frames := 1, cells := 0, slots := 0, locals := 21 }) (va_Pc [.ref m0, .int p0] (fun U => U.heap.size = sz ∧ va_P (dC, dI) vwCl [(m0, .inr (1, [.ref h0, .ref b1, .ref b2, .ref b3, .int (nI lim), .int (nI kc), .int (nI nr), .int (nI nf), .int (nI nc)])), (b1, .inl (g1, 400, .inl mr)), (b2, .inl (g2, 400, .inl ch)), (b3, .inl (g3, 64, .inl kp)), (h0, .inr (0, [.ref a1, .ref a2, .ref a3, .int (nI N), .int fa])), (a1, .inl (k1, 400, .inl (pm_nf9 cn))), (a2, .inl (k2, 8000, .inl fl)), (a3, .inl (k3, 16, .inl rt))] U.heap ∧ va_K (dC, dI) vwCl [(g1, .boolean), (g2, .boolean), (g3, .int), (k1, .int), (k2, .int), (k3, .int)] U ∧ va_D (fun _ => True) [(m0, .inr (1, [.ref h0, .ref b1, .ref b2, .ref b3, .int (nI lim), .int (nI kc), .int (nI nr), .int (nI nf), .int (nI nc)])), (b1, .inl (g1, 400, .inl mr)), (b2, .inl (g2, 400, .inl ch)), (b3, .inl (g3, 64, .inl kp)), (h0, .inr (0, [.ref a1, .ref a2, .ref a3, .int (nI N), .int fa])), (a1, .inl (k1, 400, .inl (pm_nf9 cn))), (a2, .inl (k2, 8000, .inl fl)), (a3, .inl (k3, 16, .inl rt))])) (va_Qi (fun (r : Int32) (_ : Unit) => r = pm_b (pm_hm N mr p0)) (fun (_ : Unit) (t : State) => va_P (dC, dI) vwCl [(m0, .inr (1, [.ref h0, .ref b1, .ref b2, .ref b3, .int (nI lim), .int (nI kc), .int (nI nr), .int (nI nf), .int (nI nc)])), (b1, .inl (g1, 400, .inl mr)), (b2, .inl (g2, 400, .inl ch)), (b3, .inl (g3, 64, .inl kp)), (h0, .inr (0, [.ref a1, .ref a2, .ref a3, .int (nI N), .int fa])), (a1, .inl (k1, 400, .inl (pm_nf9 cn))), (a2, .inl (k2, 8000, .inl fl)), (a3, .inl (k3, 16, .inl rt))] t.heap ∧ va_K (dC, dI) vwCl [(g1, .boolean), (g2, .boolean), (g3, .int), (k1, .int), (k2, .int), (k3, .int)] t ∧ va_D (va_A [(m0, .inr (1, [.ref h0, .ref b1, .ref b2, .ref b3, .int (nI lim), .int (nI kc), .int (nI nr), .int (nI nf), .int (nI nc)])), (b1, .inl (g1, 400, .inl mr)), (b2, .inl (g2, 400, .inl ch)), (b3, .inl (g3, 64, .inl kp)), (h0, .inr (0, [.ref a1, .ref a2, .ref a3, .int (nI N), .int fa])), (a1, .inl (k1, 400, .inl (pm_nf9 cn))), (a2, .inl (k2, 8000, .inl fl)), (a3, .inl (k3, 16, .inl rt))] sz) [(m0, .inr (1, [.ref h0, .ref b1, .ref b2, .ref b3, .int (nI lim), .int (nI kc), .int (nI nr), .int (nI nf), .int (nI nc)])), (b1, .inl (g1, 400, .inl mr)), (b2, .inl (g2, 400, .inl ch)), (b3, .inl (g3, 64, .inl kp)), (h0, .inr (0, [.ref a1, .ref a2, .ref a3, .int (nI N), .int fa])), (a1, .inl (k1, 400, .inl (pm_nf9 cn))), (a2, .inl (k2, 8000, .inl fl)), (a3, .inl (k3, 16, .inl rt))]) (va_A [(m0, .inr (1, [.ref h0, .ref b1, .ref b2, .ref b3, .int (nI lim), .int (nI kc), .int (nI nr), .int (nI nf), .int (nI nc)])), (b1, .inl (g1, 400, .inl mr)), (b2, .inl (g2, 400, .inl ch)), (b3, .inl (g3, 64, .inl kp)), (h0, .inr (0, [.ref a1, .ref a2, .ref a3, .int (nI N), .int fa])), (a1, .inl (k1, 400, .inl (pm_nf9 cn))), (a2, .inl (k2, 8000, .inl fl)), (a3, .inl (k3, 16, .inl rt))] sz)) 0 0 (va_A [(m0, .inr (1, [.ref h0, .ref b1, .ref b2, .ref b3, .int (nI lim), .int (nI kc), .int (nI nr), .int (nI nf), .int (nI nc)])), (b1, .inl (g1, 400, .inl mr)), (b2, .inl (g2, 400, .inl ch)), (b3, .inl (g3, 64, .inl kp)), (h0, .inr (0, [.ref a1, .ref a2, .ref a3, .int (nI N), .int fa])), (a1, .inl (k1, 400, .inl (pm_nf9 cn))), (a2, .inl (k2, 8000, .inl fl)), (a3, .inl (k3, 16, .inl rt))] sz) := by
  refine Met.ofW (cc := cX1_hasMark) (maxL := 2) (ret := (some .boolean)) (by decide) rfl ?_
  intro p e s m args below meth c s₁ B hml hv
  obtain ⟨rfl, hsz, hP, hK, hD0⟩ := hv
  have hx := B.exec
  have hb := B.bytes
  have hr := B.returns
  have hts : ∀ w ∈ gw, w.before _ s = true := fun w h => atoms_spec (ws := wsX1_hasMark) B.pre w (List.mem_cons_of_mem _ h)
  have hown : s.vm.findClass RX1 = some m.cls := findClass_of_methodNamed B.named
  have hlocks := B.notSynchronized
  subst hsz
  have hD := hD0.self (sz := s.heap.size)
  generalize hAe : va_A [(m0, .inr (1, [.ref h0, .ref b1, .ref b2, .ref b3, .int (nI lim), .int (nI kc), .int (nI nr), .int (nI nf), .int (nI nc)])), (b1, .inl (g1, 400, .inl mr)), (b2, .inl (g2, 400, .inl ch)), (b3, .inl (g3, 64, .inl kp)), (h0, .inr (0, [.ref a1, .ref a2, .ref a3, .int (nI N), .int fa])), (a1, .inl (k1, 400, .inl (pm_nf9 cn))), (a2, .inl (k2, 8000, .inl fl)), (a3, .inl (k3, 16, .inl rt))] s.heap.size = A at hD ⊢
  have hA : ∀ q : Nat, s.heap.size ≤ q → A q := fun q h => by rw [← hAe]; exact Or.inr h
  have hP : va_P (dC, dI) vwCl [(m0, .inr (1, [.ref h0, .ref b1, .ref b2, .ref b3, .int (nI lim), .int (nI kc), .int (nI nr), .int (nI nf), .int (nI nc)])), (b1, .inl (g1, 400, .inl mr)), (b2, .inl (g2, 400, .inl ch)), (b3, .inl (g3, 64, .inl kp)), (h0, .inr (0, [.ref a1, .ref a2, .ref a3, .int (nI N), .int fa])), (a1, .inl (k1, 400, .inl (pm_nf9 cn))), (a2, .inl (k2, 8000, .inl fl)), (a3, .inl (k3, 16, .inl rt))] s.heap := hP
  have hl := lv_entry ([.ref m0, .int p0]) (n := 2) (Nat.le_of_ble_eq_true rfl)
  rw [lg_entry_eq]
  generalize (lg_sl ([.ref m0, .int p0]) ++ List.replicate (2 - (lg_sl ([.ref m0, .int p0])).length) Slot.unset).toArray = ls at hl ⊢
  have hl : lv_has ls 2 [(0, .ref m0), (1, .int p0)] := hl
  obtain ⟨H, hH⟩ : ∃ H : Heap, H = s.heap := ⟨_, rfl⟩
  rw [← hH]
  rw [← hH] at hP
  have hS : va_S A s.heap H [] := by rw [hH]; exact va_S.rf
  clear hH
  refine lv_aload_n hx hb dX1_hasMark_0 rfl (lv_at hl 0 rfl) ?_
  refine va_get (D := (dC, dI)) (ci := 1) (v := .ref h0) (C := RX1) (T := TX1) (N := 9) hx hb hts iw_X1 hown hK hP 0 rfl rfl 0 (by decide) (hts _ mf_X1_9) (fun _ h9 => h9) rfl dX1_hasMark_1 ?_
  refine lv_iload_n hx hb dX1_hasMark_4 rfl (lv_at hl 1 rfl) ?_
  have hPc := hP.sub (ws' := [(h0, .inr (0, [.ref a1, .ref a2, .ref a3, .int (nI N), .int fa])), (a1, .inl (k1, 400, .inl (pm_nf9 cn))), (a2, .inl (k2, 8000, .inl fl)), (a3, .inl (k3, 16, .inl rt))]) [4, 5, 6, 7] rfl
  have hDc := hD.sub (ws' := [(h0, .inr (0, [.ref a1, .ref a2, .ref a3, .int (nI N), .int fa])), (a1, .inl (k1, 400, .inl (pm_nf9 cn))), (a2, .inl (k2, 8000, .inl fl)), (a3, .inl (k3, 16, .inl rt))]) [4, 5, 6, 7] (by decide) rfl
  have hKc := hK.sub (tys' := [(k1, .int), (k2, .int), (k3, .int)]) [3, 4, 5] rfl
  have hFc := va_free (wc := [(h0, .inr (0, [.ref a1, .ref a2, .ref a3, .int (nI N), .int fa])), (a1, .inl (k1, 400, .inl (pm_nf9 cn))), (a2, .inl (k2, 8000, .inl fl)), (a3, .inl (k3, 16, .inl rt))]) hD hS hA [4, 5, 6, 7] rfl
  refine va_calli (va_runV (As := [.int p0]) (rest := []) ⟨hx, hb, hml, hown, hts⟩ (c_H_has l dC dI h0 a1 a2 a3 k1 k2 k3 N cn fl rt fa p0 H.size) (cwV 1 hts (gw_V ml_X1_42 mi_X0_has ms_X0_has mn_X0 mc_X0_has) rfl rfl rfl (by decide +kernel) ⟨Nat.le_of_ble_eq_true rfl, Nat.le_of_ble_eq_true rfl⟩) ⟨fun a U g mk q => by obtain ⟨q0, q1, qP, qK, qD⟩ := q; exact ⟨q0, q1, qP, va_K.moved (u := U) (U := U.calling g mk a) (Vm.Alike.refl U.vm) qK, qD⟩, va_recv hKc hPc (ci := 0) (q0 := 0) rfl rfl, fun U hU hW => ⟨rfl, by rw [hU], by rw [hU]; exact hPc, va_K.moved hW.alike hKc, hDc.weaken (fun _ _ _ _ => trivial)⟩⟩ rfl rfl hl.1 rfl (lv_room (Nat.le_of_ble_eq_true rfl)) dX1_hasMark_5 ⟨Nat.le_of_ble_eq_true rfl, Nat.le_of_ble_eq_true rfl⟩) hS (fun q _ h => hFc q h) hFc (fun r_1 u t H1 locs ht hvm hw hB hz1 hk1 hS => ?_)
  obtain ⟨hP1, hK1, hD1⟩ := hB
  rw [ht] at hP1
  have hK1 := va_K.moved hvm.symm hK1
  obtain ⟨hP, hD⟩ := va_join (wr := [(m0, .inr (1, [.ref h0, .ref b1, .ref b2, .ref b3, .int (nI lim), .int (nI kc), .int (nI nr), .int (nI nf), .int (nI nc)])), (b1, .inl (g1, 400, .inl mr)), (b2, .inl (g2, 400, .inl ch)), (b3, .inl (g3, 64, .inl kp))]) (w1 := [(h0, .inr (0, [.ref a1, .ref a2, .ref a3, .int (nI N), .int fa])), (a1, .inl (k1, 400, .inl (pm_nf9 cn))), (a2, .inl (k2, 8000, .inl fl)), (a3, .inl (k3, 16, .inl rt))]) hP hD [4, 5, 6, 7] [0, 1, 2, 3] rfl rfl (by decide) (by decide) hk1 hFc hP1 hD1
  clear hPc hDc hKc hFc hP1 hK1 hD1
  generalize H1 = H at hP hS ⊢
  have hP : va_P (dC, dI) vwCl [(m0, .inr (1, [.ref h0, .ref b1, .ref b2, .ref b3, .int (nI lim), .int (nI kc), .int (nI nr), .int (nI nf), .int (nI nc)])), (b1, .inl (g1, 400, .inl mr)), (b2, .inl (g2, 400, .inl ch)), (b3, .inl (g3, 64, .inl kp)), (h0, .inr (0, [.ref a1, .ref a2, .ref a3, .int (nI N), .int fa])), (a1, .inl (k1, 400, .inl (pm_nf9 cn))), (a2, .inl (k2, 8000, .inl fl)), (a3, .inl (k3, 16, .inl rt))] H := hP.sub [0, 1, 2, 3, 4, 5, 6, 7] rfl
  have hD : va_D A [(m0, .inr (1, [.ref h0, .ref b1, .ref b2, .ref b3, .int (nI lim), .int (nI kc), .int (nI nr), .int (nI nf), .int (nI nc)])), (b1, .inl (g1, 400, .inl mr)), (b2, .inl (g2, 400, .inl ch)), (b3, .inl (g3, 64, .inl kp)), (h0, .inr (0, [.ref a1, .ref a2, .ref a3, .int (nI N), .int fa])), (a1, .inl (k1, 400, .inl (pm_nf9 cn))), (a2, .inl (k2, 8000, .inl fl)), (a3, .inl (k3, 16, .inl rt))] := hD.sub [0, 1, 2, 3, 4, 5, 6, 7] (by decide) rfl
  rcases pm_tf (pm_has N p0) with hh_5 | hh_5
  · obtain rfl : r_1 = nI 1 := hw.trans (by rw [hh_5]; rfl)
    refine lv_if_eq (tgt := 24) hx hb dX1_hasMark_8 (by decide) (fun c_8 => absurd c_8 (by decide +kernel)) (fun c_8 => ?_)
    refine lv_aload_n hx hb dX1_hasMark_11 rfl (lv_at hl 0 rfl) ?_
    refine va_get (D := (dC, dI)) (ci := 1) (v := .ref b1) (C := RX1) (T := TX1) (N := 9) hx hb hts iw_X1 hown hK hP 0 rfl rfl 1 (by decide) (hts _ mf_X1_15) (fun _ h9 => h9) rfl dX1_hasMark_12 ?_
    refine lv_iload_n hx hb dX1_hasMark_15 rfl (lv_at hl 1 rfl) ?_
    refine va_zald hx hb hK hP 1 0 rfl rfl (pm_has_in hN (by omega) hh_5) dX1_hasMark_16 ?_
    refine lv_topi (fun x_2 ex_2 => ?_)
    subst ex_2
    refine lv_if_eq (tgt := 24) hx hb dX1_hasMark_17 (by decide) (fun c_17 => ?_) (fun c_17 => ?_)
    · refine lv_iconst (v := nI 0) hx hb dX1_hasMark_24 (by decide +kernel) ?_
      exact W.zret (v := nI 0) hx hb hr (by decide +kernel) (fun t ht hW => ⟨⟨nI 0, (), rfl, pm_hm2 hh_5 c_17, by rw [ht]; exact hP, va_K.moved hW.alike hK, hD⟩, hS.F ht⟩) hS.2.2 dX1_hasMark_25
    · refine lv_iconst (v := nI 1) hx hb dX1_hasMark_20 (by decide +kernel) ?_
      refine lv_goto (tgt := 25) hx hb dX1_hasMark_21 (by decide) ?_
      exact W.zret (v := nI 1) hx hb hr (by decide +kernel) (fun t ht hW => ⟨⟨nI 1, (), rfl, pm_hm3 hh_5 c_17, by rw [ht]; exact hP, va_K.moved hW.alike hK, hD⟩, hS.F ht⟩) hS.2.2 dX1_hasMark_25
  · obtain rfl : r_1 = nI 0 := hw.trans (by rw [hh_5]; rfl)
    refine lv_if_eq (tgt := 24) hx hb dX1_hasMark_8 (by decide) (fun c_8 => ?_) (fun c_8 => absurd c_8 (by decide +kernel))
    refine lv_iconst (v := nI 0) hx hb dX1_hasMark_24 (by decide +kernel) ?_
    exact W.zret (v := nI 0) hx hb hr (by decide +kernel) (fun t ht hW => ⟨⟨nI 0, (), rfl, pm_hm1 hh_5, by rw [ht]; exact hP, va_K.moved hW.alike hK, hD⟩, hS.F ht⟩) hS.2.2 dX1_hasMark_25
end
section
set_option maxHeartbeats 4000000 in
set_option maxRecDepth 100000 in
/-- Marker.markStep() -/
theorem c_M_markStep (l : Launch) (dC : Nat → ClassId) (dI : Nat → Nat → Nat) (m0 b1 b2 b3 : Nat) (g1 g2 g3 : ClassId) (mr ch kp : Nat → Int32) (lim kc nr nf nc : Nat) (h0 a1 a2 a3 : Nat) (k1 k2 k3 : ClassId) (N : Nat) (cn : Nat → Nat) (fl rt : Nat → Int32) (fa : Int32) (sz : Nat) (hN : N ≤ 400) (hc : ∀ k, k < N → cn k ≤ 20) (hlim : lim ≤ 64) (hkc : kc ≤ 64) (hnr : nr ≤ 16) (hnf : nf ≤ 400) (hnc : nc ≤ 400) : Met l yX1_markStep wsX1_markStep ({ frames := 4, cells := 0, slots := 0, locals := 88 }) (va_Pc [.ref m0] (fun U => U.heap.size = sz ∧ va_P (dC, dI) vwCl [(m0, .inr (1, [.ref h0, .ref b1, .ref b2, .ref b3, .int (nI lim), .int (nI kc), .int (nI nr), .int (nI nf), .int (nI nc)])), (b1, .inl (g1, 400, .inl mr)), (b2, .inl (g2, 400, .inl ch)), (b3, .inl (g3, 64, .inl kp)), (h0, .inr (0, [.ref a1, .ref a2, .ref a3, .int (nI N), .int fa])), (a1, .inl (k1, 400, .inl (pm_nf9 cn))), (a2, .inl (k2, 8000, .inl fl)), (a3, .inl (k3, 16, .inl rt))] U.heap ∧ va_K (dC, dI) vwCl [(g1, .boolean), (g2, .boolean), (g3, .int), (k1, .int), (k2, .int), (k3, .int)] U ∧ va_D (fun _ => True) [(m0, .inr (1, [.ref h0, .ref b1, .ref b2, .ref b3, .int (nI lim), .int (nI kc), .int (nI nr), .int (nI nf), .int (nI nc)])), (b1, .inl (g1, 400, .inl mr)), (b2, .inl (g2, 400, .inl ch)), (b3, .inl (g3, 64, .inl kp)), (h0, .inr (0, [.ref a1, .ref a2, .ref a3, .int (nI N), .int fa])), (a1, .inl (k1, 400, .inl (pm_nf9 cn))), (a2, .inl (k2, 8000, .inl fl)), (a3, .inl (k3, 16, .inl rt))])) (va_Qi (fun (r : Int32) (u : pm_M) => r = pm_b (pm_ms N cn fl rt (mr, ch, kp, lim, kc, nr, nf, nc)).1 ∧ u = (pm_ms N cn fl rt (mr, ch, kp, lim, kc, nr, nf, nc)).2) (fun (u : pm_M) (t : State) => va_P (dC, dI) vwCl [(m0, .inr (1, [.ref h0, .ref b1, .ref b2, .ref b3, .int (nI (u.2.2.2.1)), .int (nI (u.2.2.2.2.1)), .int (nI (u.2.2.2.2.2.1)), .int (nI (u.2.2.2.2.2.2.1)), .int (nI (u.2.2.2.2.2.2.2))])), (b1, .inl (g1, 400, .inl (u.1))), (b2, .inl (g2, 400, .inl (u.2.1))), (b3, .inl (g3, 64, .inl (u.2.2.1))), (h0, .inr (0, [.ref a1, .ref a2, .ref a3, .int (nI N), .int fa])), (a1, .inl (k1, 400, .inl (pm_nf9 cn))), (a2, .inl (k2, 8000, .inl fl)), (a3, .inl (k3, 16, .inl rt))] t.heap ∧ va_K (dC, dI) vwCl [(g1, .boolean), (g2, .boolean), (g3, .int), (k1, .int), (k2, .int), (k3, .int)] t ∧ va_D (va_A [(m0, .inr (1, [.ref h0, .ref b1, .ref b2, .ref b3, .int (nI lim), .int (nI kc), .int (nI nr), .int (nI nf), .int (nI nc)])), (b1, .inl (g1, 400, .inl mr)), (b2, .inl (g2, 400, .inl ch)), (b3, .inl (g3, 64, .inl kp)), (h0, .inr (0, [.ref a1, .ref a2, .ref a3, .int (nI N), .int fa])), (a1, .inl (k1, 400, .inl (pm_nf9 cn))), (a2, .inl (k2, 8000, .inl fl)), (a3, .inl (k3, 16, .inl rt))] sz) [(m0, .inr (1, [.ref h0, .ref b1, .ref b2, .ref b3, .int (nI (u.2.2.2.1)), .int (nI (u.2.2.2.2.1)), .int (nI (u.2.2.2.2.2.1)), .int (nI (u.2.2.2.2.2.2.1)), .int (nI (u.2.2.2.2.2.2.2))])), (b1, .inl (g1, 400, .inl (u.1))), (b2, .inl (g2, 400, .inl (u.2.1))), (b3, .inl (g3, 64, .inl (u.2.2.1))), (h0, .inr (0, [.ref a1, .ref a2, .ref a3, .int (nI N), .int fa])), (a1, .inl (k1, 400, .inl (pm_nf9 cn))), (a2, .inl (k2, 8000, .inl fl)), (a3, .inl (k3, 16, .inl rt))]) (va_A [(m0, .inr (1, [.ref h0, .ref b1, .ref b2, .ref b3, .int (nI lim), .int (nI kc), .int (nI nr), .int (nI nf), .int (nI nc)])), (b1, .inl (g1, 400, .inl mr)), (b2, .inl (g2, 400, .inl ch)), (b3, .inl (g3, 64, .inl kp)), (h0, .inr (0, [.ref a1, .ref a2, .ref a3, .int (nI N), .int fa])), (a1, .inl (k1, 400, .inl (pm_nf9 cn))), (a2, .inl (k2, 8000, .inl fl)), (a3, .inl (k3, 16, .inl rt))] sz)) 0 0 (va_A [(m0, .inr (1, [.ref h0, .ref b1, .ref b2, .ref b3, .int (nI lim), .int (nI kc), .int (nI nr), .int (nI nf), .int (nI nc)])), (b1, .inl (g1, 400, .inl mr)), (b2, .inl (g2, 400, .inl ch)), (b3, .inl (g3, 64, .inl kp)), (h0, .inr (0, [.ref a1, .ref a2, .ref a3, .int (nI N), .int fa])), (a1, .inl (k1, 400, .inl (pm_nf9 cn))), (a2, .inl (k2, 8000, .inl fl)), (a3, .inl (k3, 16, .inl rt))] sz) := by
  refine Met.ofW (cc := cX1_markStep) (maxL := 2) (ret := (some .boolean)) (by decide) rfl ?_
  intro p e s m args below meth c s₁ B hml hv
  obtain ⟨rfl, hsz, hP, hK, hD0⟩ := hv
  have hx := B.exec
  have hb := B.bytes
  have hr := B.returns
  have hts : ∀ w ∈ gw, w.before _ s = true := fun w h => atoms_spec (ws := wsX1_markStep) B.pre w (List.mem_cons_of_mem _ h)
  have hown : s.vm.findClass RX1 = some m.cls := findClass_of_methodNamed B.named
  have hlocks := B.notSynchronized
  subst hsz
  have hD := hD0.self (sz := s.heap.size)
  generalize hAe : va_A [(m0, .inr (1, [.ref h0, .ref b1, .ref b2, .ref b3, .int (nI lim), .int (nI kc), .int (nI nr), .int (nI nf), .int (nI nc)])), (b1, .inl (g1, 400, .inl mr)), (b2, .inl (g2, 400, .inl ch)), (b3, .inl (g3, 64, .inl kp)), (h0, .inr (0, [.ref a1, .ref a2, .ref a3, .int (nI N), .int fa])), (a1, .inl (k1, 400, .inl (pm_nf9 cn))), (a2, .inl (k2, 8000, .inl fl)), (a3, .inl (k3, 16, .inl rt))] s.heap.size = A at hD ⊢
  have hA : ∀ q : Nat, s.heap.size ≤ q → A q := fun q h => by rw [← hAe]; exact Or.inr h
  have hP : va_P (dC, dI) vwCl [(m0, .inr (1, [.ref h0, .ref b1, .ref b2, .ref b3, .int (nI lim), .int (nI kc), .int (nI nr), .int (nI nf), .int (nI nc)])), (b1, .inl (g1, 400, .inl mr)), (b2, .inl (g2, 400, .inl ch)), (b3, .inl (g3, 64, .inl kp)), (h0, .inr (0, [.ref a1, .ref a2, .ref a3, .int (nI N), .int fa])), (a1, .inl (k1, 400, .inl (pm_nf9 cn))), (a2, .inl (k2, 8000, .inl fl)), (a3, .inl (k3, 16, .inl rt))] s.heap := hP
  have hl := lv_entry ([.ref m0]) (n := 2) (Nat.le_of_ble_eq_true rfl)
  rw [lg_entry_eq]
  generalize (lg_sl ([.ref m0]) ++ List.replicate (2 - (lg_sl ([.ref m0])).length) Slot.unset).toArray = ls at hl ⊢
  have hl : lv_has ls 2 [(0, .ref m0)] := hl
  obtain ⟨H, hH⟩ : ∃ H : Heap, H = s.heap := ⟨_, rfl⟩
  rw [← hH]
  rw [← hH] at hP
  have hS : va_S A s.heap H [] := by rw [hH]; exact va_S.rf
  clear hH
  refine lv_aload_n hx hb dX1_markStep_0 rfl (lv_at hl 0 rfl) ?_
  refine va_get (D := (dC, dI)) (ci := 1) (v := .int (nI nr)) (C := RX1) (T := TX1) (N := 9) hx hb hts iw_X1 hown hK hP 0 rfl rfl 6 (by decide) (hts _ mf_X1_33) (fun _ h9 => h9) rfl dX1_markStep_1 ?_
  refine lv_bipush (v := nI 16) hx hb dX1_markStep_4 (by decide +kernel) ?_
  refine lv_icmp_ge (tgt := 36) hx hb dX1_markStep_6 (by decide) (fun c_6 => ?_) (fun c_6 => ?_)
  · rw [nI_leI (by omega) (by omega)] at c_6
    refine lv_aload_n hx hb dX1_markStep_36 rfl (lv_at hl 0 rfl) ?_
    refine va_get (D := (dC, dI)) (ci := 1) (v := .int (nI kc)) (C := RX1) (T := TX1) (N := 9) hx hb hts iw_X1 hown hK hP 0 rfl rfl 5 (by decide) (hts _ mf_X1_30) (fun _ h9 => h9) rfl dX1_markStep_37 ?_
    refine lv_if_le (tgt := 77) hx hb dX1_markStep_40 (by decide) (fun c_40 => ?_) (fun c_40 => ?_)
    · have hk0 : kc = 0 := Classical.byContradiction (fun q => absurd c_40 (nI_nle (by omega) (by omega)))
      refine lv_aload_n hx hb dX1_markStep_77 rfl (lv_at hl 0 rfl) ?_
      refine va_get (D := (dC, dI)) (ci := 1) (v := .int (nI nf)) (C := RX1) (T := TX1) (N := 9) hx hb hts iw_X1 hown hK hP 0 rfl rfl 7 (by decide) (hts _ mf_X1_36) (fun _ h9 => h9) rfl dX1_markStep_78 ?_
      refine lv_aload_n hx hb dX1_markStep_81 rfl (lv_at hl 0 rfl) ?_
      refine va_get (D := (dC, dI)) (ci := 1) (v := .ref h0) (C := RX1) (T := TX1) (N := 9) hx hb hts iw_X1 hown hK hP 0 rfl rfl 0 (by decide) (hts _ mf_X1_9) (fun _ h9 => h9) rfl dX1_markStep_82 ?_
      have hPc := hP.sub (ws' := [(h0, .inr (0, [.ref a1, .ref a2, .ref a3, .int (nI N), .int fa])), (a1, .inl (k1, 400, .inl (pm_nf9 cn))), (a2, .inl (k2, 8000, .inl fl)), (a3, .inl (k3, 16, .inl rt))]) [4, 5, 6, 7] rfl
      have hDc := hD.sub (ws' := [(h0, .inr (0, [.ref a1, .ref a2, .ref a3, .int (nI N), .int fa])), (a1, .inl (k1, 400, .inl (pm_nf9 cn))), (a2, .inl (k2, 8000, .inl fl)), (a3, .inl (k3, 16, .inl rt))]) [4, 5, 6, 7] (by decide) rfl
      have hKc := hK.sub (tys' := [(k1, .int), (k2, .int), (k3, .int)]) [3, 4, 5] rfl
      have hFc := va_free (wc := [(h0, .inr (0, [.ref a1, .ref a2, .ref a3, .int (nI N), .int fa])), (a1, .inl (k1, 400, .inl (pm_nf9 cn))), (a2, .inl (k2, 8000, .inl fl)), (a3, .inl (k3, 16, .inl rt))]) hD hS hA [4, 5, 6, 7] rfl
      refine va_calli (va_runV (As := []) (rest := [.int (nI nf)]) ⟨hx, hb, hml, hown, hts⟩ (c_H_countOfObjects l dC dI h0 a1 a2 a3 k1 k2 k3 N cn fl rt fa H.size) (cwV 0 hts (gw_V ml_X1_67 mi_X0_countOfObjects ms_X0_countOfObjects mn_X0 mc_X0_countOfObjects) rfl rfl rfl (by decide +kernel) ⟨Nat.le_of_ble_eq_true rfl, Nat.le_of_ble_eq_true rfl⟩) ⟨fun a U g mk q => by obtain ⟨q0, q1, qP, qK, qD⟩ := q; exact ⟨q0, q1, qP, va_K.moved (u := U) (U := U.calling g mk a) (Vm.Alike.refl U.vm) qK, qD⟩, va_recv hKc hPc (ci := 0) (q0 := 0) rfl rfl, fun U hU hW => ⟨rfl, by rw [hU], by rw [hU]; exact hPc, va_K.moved hW.alike hKc, hDc.weaken (fun _ _ _ _ => trivial)⟩⟩ rfl rfl hl.1 rfl (lv_room (Nat.le_of_ble_eq_true rfl)) dX1_markStep_85 ⟨Nat.le_of_ble_eq_true rfl, Nat.le_of_ble_eq_true rfl⟩) hS (fun q _ h => hFc q h) hFc (fun r_1 u t H1 locs ht hvm hw hB hz1 hk1 hS => ?_)
      obtain ⟨hP1, hK1, hD1⟩ := hB
      rw [ht] at hP1
      have hK1 := va_K.moved hvm.symm hK1
      obtain ⟨hP, hD⟩ := va_join (wr := [(m0, .inr (1, [.ref h0, .ref b1, .ref b2, .ref b3, .int (nI lim), .int (nI kc), .int (nI nr), .int (nI nf), .int (nI nc)])), (b1, .inl (g1, 400, .inl mr)), (b2, .inl (g2, 400, .inl ch)), (b3, .inl (g3, 64, .inl kp))]) (w1 := [(h0, .inr (0, [.ref a1, .ref a2, .ref a3, .int (nI N), .int fa])), (a1, .inl (k1, 400, .inl (pm_nf9 cn))), (a2, .inl (k2, 8000, .inl fl)), (a3, .inl (k3, 16, .inl rt))]) hP hD [4, 5, 6, 7] [0, 1, 2, 3] rfl rfl (by decide) (by decide) hk1 hFc hP1 hD1
      clear hPc hDc hKc hFc hP1 hK1 hD1
      generalize H1 = H at hP hS ⊢
      have hP : va_P (dC, dI) vwCl [(m0, .inr (1, [.ref h0, .ref b1, .ref b2, .ref b3, .int (nI lim), .int (nI kc), .int (nI nr), .int (nI nf), .int (nI nc)])), (b1, .inl (g1, 400, .inl mr)), (b2, .inl (g2, 400, .inl ch)), (b3, .inl (g3, 64, .inl kp)), (h0, .inr (0, [.ref a1, .ref a2, .ref a3, .int (nI N), .int fa])), (a1, .inl (k1, 400, .inl (pm_nf9 cn))), (a2, .inl (k2, 8000, .inl fl)), (a3, .inl (k3, 16, .inl rt))] H := hP.sub [0, 1, 2, 3, 4, 5, 6, 7] rfl
      have hD : va_D A [(m0, .inr (1, [.ref h0, .ref b1, .ref b2, .ref b3, .int (nI lim), .int (nI kc), .int (nI nr), .int (nI nf), .int (nI nc)])), (b1, .inl (g1, 400, .inl mr)), (b2, .inl (g2, 400, .inl ch)), (b3, .inl (g3, 64, .inl kp)), (h0, .inr (0, [.ref a1, .ref a2, .ref a3, .int (nI N), .int fa])), (a1, .inl (k1, 400, .inl (pm_nf9 cn))), (a2, .inl (k2, 8000, .inl fl)), (a3, .inl (k3, 16, .inl rt))] := hD.sub [0, 1, 2, 3, 4, 5, 6, 7] (by decide) rfl
      obtain rfl : r_1 = nI N := hw.trans (rfl)
      refine lv_icmp_ge (tgt := 121) hx hb dX1_markStep_88 (by decide) (fun c_88 => ?_) (fun c_88 => ?_)
      · rw [nI_leI (by omega) (by omega)] at c_88
        refine lv_iconst (v := nI 0) hx hb dX1_markStep_121 (by decide +kernel) ?_
        exact W.zret (v := nI 0) hx hb hr (by decide +kernel) (fun t ht hW => ⟨⟨nI 0, (mr, ch, kp, lim, kc, nr, nf, nc), rfl, pm_sE (by omega) (by omega) (by omega), by rw [ht]; exact hP, va_K.moved hW.alike hK, hD⟩, hS.F ht⟩) hS.2.2 dX1_markStep_122
      · rw [nI_leI (by omega) (by omega)] at c_88
        refine lv_aload_n hx hb dX1_markStep_91 rfl (lv_at hl 0 rfl) ?_
        refine va_get (D := (dC, dI)) (ci := 1) (v := .int (nI nf)) (C := RX1) (T := TX1) (N := 9) hx hb hts iw_X1 hown hK hP 0 rfl rfl 7 (by decide) (hts _ mf_X1_36) (fun _ h9 => h9) rfl dX1_markStep_92 ?_
        refine lv_istore_n (lv' := [(1, .int (nI nf)), (0, .ref m0)]) hx hb dX1_markStep_95 rfl hl (by decide) rfl (fun ls hl => ?_)
        refine lv_aload_n hx hb dX1_markStep_96 rfl (lv_at hl 1 rfl) ?_
        refine lv_dup hx hb dX1_markStep_97 rfl ?_
        refine va_get (D := (dC, dI)) (ci := 1) (v := .int (nI nf)) (C := RX1) (T := TX1) (N := 9) hx hb hts iw_X1 hown hK hP 0 rfl rfl 7 (by decide) (hts _ mf_X1_36) (fun _ h9 => h9) rfl dX1_markStep_98 ?_
        refine lv_iconst (v := nI 1) hx hb dX1_markStep_101 (by decide +kernel) ?_
        refine lv_iadd hx hb dX1_markStep_102 ?_
        refine lv_topi (fun x_2 ex_2 => ?_)
        obtain rfl : x_2 = nI (nf + 1) := ex_2.trans (nI_add _ _)
        refine va_put (D := (dC, dI)) (ci := 1) (v := .int (nI (nf + 1))) (ty := .int) (C := RX1) (T := TX1) (N := 9) hx hb hts iw_X1 tyX1 tyX1_ok nmX1 hown hK hP hD hS 0 rfl rfl 7 (by decide) (hts _ mf_X1_36) (fun _ h9 => h9) rfl (by decide +kernel) (rfl) (rfl) (Nat.le_of_ble_eq_true rfl) dX1_markStep_103 (fun H locs hP hD hS => ?_)
        have hP : va_P (dC, dI) vwCl [(m0, .inr (1, [.ref h0, .ref b1, .ref b2, .ref b3, .int (nI lim), .int (nI kc), .int (nI nr), .int (nI (nf + 1)), .int (nI nc)])), (b1, .inl (g1, 400, .inl mr)), (b2, .inl (g2, 400, .inl ch)), (b3, .inl (g3, 64, .inl kp)), (h0, .inr (0, [.ref a1, .ref a2, .ref a3, .int (nI N), .int fa])), (a1, .inl (k1, 400, .inl (pm_nf9 cn))), (a2, .inl (k2, 8000, .inl fl)), (a3, .inl (k3, 16, .inl rt))] H := hP
        have hD : va_D A [(m0, .inr (1, [.ref h0, .ref b1, .ref b2, .ref b3, .int (nI lim), .int (nI kc), .int (nI nr), .int (nI (nf + 1)), .int (nI nc)])), (b1, .inl (g1, 400, .inl mr)), (b2, .inl (g2, 400, .inl ch)), (b3, .inl (g3, 64, .inl kp)), (h0, .inr (0, [.ref a1, .ref a2, .ref a3, .int (nI N), .int fa])), (a1, .inl (k1, 400, .inl (pm_nf9 cn))), (a2, .inl (k2, 8000, .inl fl)), (a3, .inl (k3, 16, .inl rt))] := hD
        refine lv_aload_n hx hb dX1_markStep_106 rfl (lv_at hl 1 rfl) ?_
        refine lv_iload_n hx hb dX1_markStep_107 rfl (lv_at hl 0 rfl) ?_
        have hPc := hP.sub (ws' := [(m0, .inr (1, [.ref h0, .ref b1, .ref b2, .ref b3, .int (nI lim), .int (nI kc), .int (nI nr), .int (nI (nf + 1)), .int (nI nc)])), (b1, .inl (g1, 400, .inl mr)), (b2, .inl (g2, 400, .inl ch)), (b3, .inl (g3, 64, .inl kp)), (h0, .inr (0, [.ref a1, .ref a2, .ref a3, .int (nI N), .int fa])), (a1, .inl (k1, 400, .inl (pm_nf9 cn))), (a2, .inl (k2, 8000, .inl fl)), (a3, .inl (k3, 16, .inl rt))]) [0, 1, 2, 3, 4, 5, 6, 7] rfl
        have hDc := hD.sub (ws' := [(m0, .inr (1, [.ref h0, .ref b1, .ref b2, .ref b3, .int (nI lim), .int (nI kc), .int (nI nr), .int (nI (nf + 1)), .int (nI nc)])), (b1, .inl (g1, 400, .inl mr)), (b2, .inl (g2, 400, .inl ch)), (b3, .inl (g3, 64, .inl kp)), (h0, .inr (0, [.ref a1, .ref a2, .ref a3, .int (nI N), .int fa])), (a1, .inl (k1, 400, .inl (pm_nf9 cn))), (a2, .inl (k2, 8000, .inl fl)), (a3, .inl (k3, 16, .inl rt))]) [0, 1, 2, 3, 4, 5, 6, 7] (by decide) rfl
        have hKc := hK.sub (tys' := [(g1, .boolean), (g2, .boolean), (g3, .int), (k1, .int), (k2, .int), (k3, .int)]) [0, 1, 2, 3, 4, 5] rfl
        have hFc := va_free (wc := [(m0, .inr (1, [.ref h0, .ref b1, .ref b2, .ref b3, .int (nI lim), .int (nI kc), .int (nI nr), .int (nI (nf + 1)), .int (nI nc)])), (b1, .inl (g1, 400, .inl mr)), (b2, .inl (g2, 400, .inl ch)), (b3, .inl (g3, 64, .inl kp)), (h0, .inr (0, [.ref a1, .ref a2, .ref a3, .int (nI N), .int fa])), (a1, .inl (k1, 400, .inl (pm_nf9 cn))), (a2, .inl (k2, 8000, .inl fl)), (a3, .inl (k3, 16, .inl rt))]) hD hS hA [0, 1, 2, 3, 4, 5, 6, 7] rfl
        refine va_calli (va_runV (As := [.int (nI nf)]) (rest := []) ⟨hx, hb, hml, hown, hts⟩ (c_M_hasMark l dC dI m0 b1 b2 b3 g1 g2 g3 mr ch kp lim kc nr (nf + 1) nc h0 a1 a2 a3 k1 k2 k3 N cn fl rt fa (nI nf) H.size (hN)) (cwV 1 hts (gw_V ml_X1_71 mi_X1_hasMark ms_X1_hasMark mn_X1 mc_X1_hasMark) rfl rfl rfl (by decide +kernel) ⟨Nat.le_of_ble_eq_true rfl, Nat.le_of_ble_eq_true rfl⟩) ⟨fun a U g mk q => by obtain ⟨q0, q1, qP, qK, qD⟩ := q; exact ⟨q0, q1, qP, va_K.moved (u := U) (U := U.calling g mk a) (Vm.Alike.refl U.vm) qK, qD⟩, va_recv hKc hPc (ci := 1) (q0 := 0) rfl rfl, fun U hU hW => ⟨rfl, by rw [hU], by rw [hU]; exact hPc, va_K.moved hW.alike hKc, hDc.weaken (fun _ _ _ _ => trivial)⟩⟩ rfl rfl hl.1 rfl (lv_room (Nat.le_of_ble_eq_true rfl)) dX1_markStep_108 ⟨Nat.le_of_ble_eq_true rfl, Nat.le_of_ble_eq_true rfl⟩) hS (fun q _ h => hFc q h) hFc (fun r_3 u t H1 locs ht hvm hw hB hz1 hk1 hS => ?_)
        obtain ⟨hP1, hK1, hD1⟩ := hB
        rw [ht] at hP1
        have hK1 := va_K.moved hvm.symm hK1
        obtain ⟨hP, hD⟩ := va_join (wr := []) (w1 := [(m0, .inr (1, [.ref h0, .ref b1, .ref b2, .ref b3, .int (nI lim), .int (nI kc), .int (nI nr), .int (nI (nf + 1)), .int (nI nc)])), (b1, .inl (g1, 400, .inl mr)), (b2, .inl (g2, 400, .inl ch)), (b3, .inl (g3, 64, .inl kp)), (h0, .inr (0, [.ref a1, .ref a2, .ref a3, .int (nI N), .int fa])), (a1, .inl (k1, 400, .inl (pm_nf9 cn))), (a2, .inl (k2, 8000, .inl fl)), (a3, .inl (k3, 16, .inl rt))]) hP hD [0, 1, 2, 3, 4, 5, 6, 7] [] rfl rfl (by decide) (by decide) hk1 hFc hP1 hD1
        clear hPc hDc hKc hFc hP1 hK1 hD1
        generalize H1 = H at hP hS ⊢
        have hP : va_P (dC, dI) vwCl [(m0, .inr (1, [.ref h0, .ref b1, .ref b2, .ref b3, .int (nI lim), .int (nI kc), .int (nI nr), .int (nI (nf + 1)), .int (nI nc)])), (b1, .inl (g1, 400, .inl mr)), (b2, .inl (g2, 400, .inl ch)), (b3, .inl (g3, 64, .inl kp)), (h0, .inr (0, [.ref a1, .ref a2, .ref a3, .int (nI N), .int fa])), (a1, .inl (k1, 400, .inl (pm_nf9 cn))), (a2, .inl (k2, 8000, .inl fl)), (a3, .inl (k3, 16, .inl rt))] H := hP.sub [0, 1, 2, 3, 4, 5, 6, 7] rfl
        have hD : va_D A [(m0, .inr (1, [.ref h0, .ref b1, .ref b2, .ref b3, .int (nI lim), .int (nI kc), .int (nI nr), .int (nI (nf + 1)), .int (nI nc)])), (b1, .inl (g1, 400, .inl mr)), (b2, .inl (g2, 400, .inl ch)), (b3, .inl (g3, 64, .inl kp)), (h0, .inr (0, [.ref a1, .ref a2, .ref a3, .int (nI N), .int fa])), (a1, .inl (k1, 400, .inl (pm_nf9 cn))), (a2, .inl (k2, 8000, .inl fl)), (a3, .inl (k3, 16, .inl rt))] := hD.sub [0, 1, 2, 3, 4, 5, 6, 7] (by decide) rfl
        rw [pm_hm_nI (by omega) (by omega)] at hw
        rcases pm_tf ((!decide (mr nf = 0))) with hh_108 | hh_108
        · obtain rfl : r_3 = nI 1 := hw.trans (by rw [hh_108]; rfl)
          have h4 : ¬ mr nf = 0 := by intro q; rw [q] at hh_108; exact absurd hh_108 (by decide)
          refine lv_if_eq (tgt := 119) hx hb dX1_markStep_111 (by decide) (fun c_111 => absurd c_111 (by decide +kernel)) (fun c_111 => ?_)
          refine lv_aload_n hx hb dX1_markStep_114 rfl (lv_at hl 1 rfl) ?_
          refine lv_iload_n hx hb dX1_markStep_115 rfl (lv_at hl 0 rfl) ?_
          have hPc := hP.sub (ws' := [(m0, .inr (1, [.ref h0, .ref b1, .ref b2, .ref b3, .int (nI lim), .int (nI kc), .int (nI nr), .int (nI (nf + 1)), .int (nI nc)])), (b1, .inl (g1, 400, .inl mr)), (b2, .inl (g2, 400, .inl ch)), (b3, .inl (g3, 64, .inl kp)), (h0, .inr (0, [.ref a1, .ref a2, .ref a3, .int (nI N), .int fa])), (a1, .inl (k1, 400, .inl (pm_nf9 cn))), (a2, .inl (k2, 8000, .inl fl)), (a3, .inl (k3, 16, .inl rt))]) [0, 1, 2, 3, 4, 5, 6, 7] rfl
          have hDc := hD.sub (ws' := [(m0, .inr (1, [.ref h0, .ref b1, .ref b2, .ref b3, .int (nI lim), .int (nI kc), .int (nI nr), .int (nI (nf + 1)), .int (nI nc)])), (b1, .inl (g1, 400, .inl mr)), (b2, .inl (g2, 400, .inl ch)), (b3, .inl (g3, 64, .inl kp)), (h0, .inr (0, [.ref a1, .ref a2, .ref a3, .int (nI N), .int fa])), (a1, .inl (k1, 400, .inl (pm_nf9 cn))), (a2, .inl (k2, 8000, .inl fl)), (a3, .inl (k3, 16, .inl rt))]) [0, 1, 2, 3, 4, 5, 6, 7] (by decide) rfl
          have hKc := hK.sub (tys' := [(g1, .boolean), (g2, .boolean), (g3, .int), (k1, .int), (k2, .int), (k3, .int)]) [0, 1, 2, 3, 4, 5] rfl
          have hFc := va_free (wc := [(m0, .inr (1, [.ref h0, .ref b1, .ref b2, .ref b3, .int (nI lim), .int (nI kc), .int (nI nr), .int (nI (nf + 1)), .int (nI nc)])), (b1, .inl (g1, 400, .inl mr)), (b2, .inl (g2, 400, .inl ch)), (b3, .inl (g3, 64, .inl kp)), (h0, .inr (0, [.ref a1, .ref a2, .ref a3, .int (nI N), .int fa])), (a1, .inl (k1, 400, .inl (pm_nf9 cn))), (a2, .inl (k2, 8000, .inl fl)), (a3, .inl (k3, 16, .inl rt))]) hD hS hA [0, 1, 2, 3, 4, 5, 6, 7] rfl
          refine va_callv (va_runV (As := [.int (nI nf)]) (rest := []) ⟨hx, hb, hml, hown, hts⟩ (c_M_markFieldsOf l dC dI m0 b1 b2 b3 g1 g2 g3 mr ch kp lim kc nr (nf + 1) nc h0 a1 a2 a3 k1 k2 k3 N cn fl rt fa (nI nf) H.size (hlim) (by omega) (by omega) (hN) (hc)) (cwV 1 hts (gw_V ml_X1_64 mi_X1_markFieldsOf ms_X1_markFieldsOf mn_X1 mc_X1_markFieldsOf) rfl rfl rfl (by decide +kernel) ⟨Nat.le_of_ble_eq_true rfl, Nat.le_of_ble_eq_true rfl⟩) ⟨fun a U g mk q => by obtain ⟨q0, q1, qP, qK, qD⟩ := q; exact ⟨q0, q1, qP, va_K.moved (u := U) (U := U.calling g mk a) (Vm.Alike.refl U.vm) qK, qD⟩, va_recv hKc hPc (ci := 1) (q0 := 0) rfl rfl, fun U hU hW => ⟨rfl, by rw [hU], by rw [hU]; exact hPc, va_K.moved hW.alike hKc, hDc.weaken (fun _ _ _ _ => trivial)⟩⟩ rfl rfl hl.1 rfl (lv_room (Nat.le_of_ble_eq_true rfl)) dX1_markStep_116 ⟨Nat.le_of_ble_eq_true rfl, Nat.le_of_ble_eq_true rfl⟩) hS (fun q _ h => hFc q h) hFc (fun u t H1 locs ht hvm hw hB hz1 hk1 hS => ?_)
          obtain ⟨mk9, kp9, kc9, nf9⟩ := u
          obtain ⟨hP1, hK1, hD1⟩ := hB
          rw [ht] at hP1
          have hK1 := va_K.moved hvm.symm hK1
          obtain ⟨hP, hD⟩ := va_join (wr := []) (w1 := [(m0, .inr (1, [.ref h0, .ref b1, .ref b2, .ref b3, .int (nI lim), .int (nI kc9), .int (nI nr), .int (nI nf9), .int (nI nc)])), (b1, .inl (g1, 400, .inl mk9)), (b2, .inl (g2, 400, .inl ch)), (b3, .inl (g3, 64, .inl kp9)), (h0, .inr (0, [.ref a1, .ref a2, .ref a3, .int (nI N), .int fa])), (a1, .inl (k1, 400, .inl (pm_nf9 cn))), (a2, .inl (k2, 8000, .inl fl)), (a3, .inl (k3, 16, .inl rt))]) hP hD [0, 1, 2, 3, 4, 5, 6, 7] [] rfl rfl (by decide) (by decide) hk1 hFc hP1 hD1
          clear hPc hDc hKc hFc hP1 hK1 hD1
          generalize H1 = H at hP hS ⊢
          have hP : va_P (dC, dI) vwCl [(m0, .inr (1, [.ref h0, .ref b1, .ref b2, .ref b3, .int (nI lim), .int (nI kc9), .int (nI nr), .int (nI nf9), .int (nI nc)])), (b1, .inl (g1, 400, .inl mk9)), (b2, .inl (g2, 400, .inl ch)), (b3, .inl (g3, 64, .inl kp9)), (h0, .inr (0, [.ref a1, .ref a2, .ref a3, .int (nI N), .int fa])), (a1, .inl (k1, 400, .inl (pm_nf9 cn))), (a2, .inl (k2, 8000, .inl fl)), (a3, .inl (k3, 16, .inl rt))] H := hP.sub [0, 1, 2, 3, 4, 5, 6, 7] rfl
          have hD : va_D A [(m0, .inr (1, [.ref h0, .ref b1, .ref b2, .ref b3, .int (nI lim), .int (nI kc9), .int (nI nr), .int (nI nf9), .int (nI nc)])), (b1, .inl (g1, 400, .inl mk9)), (b2, .inl (g2, 400, .inl ch)), (b3, .inl (g3, 64, .inl kp9)), (h0, .inr (0, [.ref a1, .ref a2, .ref a3, .int (nI N), .int fa])), (a1, .inl (k1, 400, .inl (pm_nf9 cn))), (a2, .inl (k2, 8000, .inl fl)), (a3, .inl (k3, 16, .inl rt))] := hD.sub [0, 1, 2, 3, 4, 5, 6, 7] (by decide) rfl
          refine lv_iconst (v := nI 1) hx hb dX1_markStep_119 (by decide +kernel) ?_
          exact W.zret (v := nI 1) hx hb hr (by decide +kernel) (fun t ht hW => ⟨⟨nI 1, (mk9, ch, kp9, lim, kc9, nr, nf9, nc), rfl, pm_sD (by omega) (by omega) (by omega) h4 hw, by rw [ht]; exact hP, va_K.moved hW.alike hK, hD⟩, hS.F ht⟩) hS.2.2 dX1_markStep_120
        · obtain rfl : r_3 = nI 0 := hw.trans (by rw [hh_108]; rfl)
          have h4 : mr nf = 0 := by by_cases q : mr nf = 0; exact q; rw [decide_eq_false q] at hh_108; exact absurd hh_108 (by decide)
          refine lv_if_eq (tgt := 119) hx hb dX1_markStep_111 (by decide) (fun c_111 => ?_) (fun c_111 => absurd c_111 (by decide +kernel))
          refine lv_iconst (v := nI 1) hx hb dX1_markStep_119 (by decide +kernel) ?_
          exact W.zret (v := nI 1) hx hb hr (by decide +kernel) (fun t ht hW => ⟨⟨nI 1, (mr, ch, kp, lim, kc, nr, nf + 1, nc), rfl, pm_sC (by omega) (by omega) (by omega) h4, by rw [ht]; exact hP, va_K.moved hW.alike hK, hD⟩, hS.F ht⟩) hS.2.2 dX1_markStep_120
    · have hk0 : 0 < kc := Nat.pos_of_ne_zero (fun q => c_40 (by subst q; decide +kernel))
      refine lv_aload_n hx hb dX1_markStep_43 rfl (lv_at hl 0 rfl) ?_
      refine va_get (D := (dC, dI)) (ci := 1) (v := .int (nI kc)) (C := RX1) (T := TX1) (N := 9) hx hb hts iw_X1 hown hK hP 0 rfl rfl 5 (by decide) (hts _ mf_X1_30) (fun _ h9 => h9) rfl dX1_markStep_44 ?_
      refine lv_bipush (v := nI 64) hx hb dX1_markStep_47 (by decide +kernel) ?_
      refine lv_icmp_gt (tgt := 77) hx hb dX1_markStep_49 (by decide) (fun c_49 => absurd c_49 (nI_nlt (by omega) (by omega))) (fun c_49 => ?_)
      refine lv_aload_n hx hb dX1_markStep_52 rfl (lv_at hl 0 rfl) ?_
      refine lv_dup hx hb dX1_markStep_53 rfl ?_
      refine va_get (D := (dC, dI)) (ci := 1) (v := .int (nI kc)) (C := RX1) (T := TX1) (N := 9) hx hb hts iw_X1 hown hK hP 0 rfl rfl 5 (by decide) (hts _ mf_X1_30) (fun _ h9 => h9) rfl dX1_markStep_54 ?_
      refine lv_iconst (v := nI 1) hx hb dX1_markStep_57 (by decide +kernel) ?_
      refine lv_isub hx hb dX1_markStep_58 ?_
      refine lv_topi (fun x_5 ex_5 => ?_)
      obtain rfl : x_5 = nI (kc - 1) := ex_5.trans (pk_sub (by omega))
      refine va_put (D := (dC, dI)) (ci := 1) (v := .int (nI (kc - 1))) (ty := .int) (C := RX1) (T := TX1) (N := 9) hx hb hts iw_X1 tyX1 tyX1_ok nmX1 hown hK hP hD hS 0 rfl rfl 5 (by decide) (hts _ mf_X1_30) (fun _ h9 => h9) rfl (by decide +kernel) (rfl) (rfl) (Nat.le_of_ble_eq_true rfl) dX1_markStep_59 (fun H locs hP hD hS => ?_)
      have hP : va_P (dC, dI) vwCl [(m0, .inr (1, [.ref h0, .ref b1, .ref b2, .ref b3, .int (nI lim), .int (nI (kc - 1)), .int (nI nr), .int (nI nf), .int (nI nc)])), (b1, .inl (g1, 400, .inl mr)), (b2, .inl (g2, 400, .inl ch)), (b3, .inl (g3, 64, .inl kp)), (h0, .inr (0, [.ref a1, .ref a2, .ref a3, .int (nI N), .int fa])), (a1, .inl (k1, 400, .inl (pm_nf9 cn))), (a2, .inl (k2, 8000, .inl fl)), (a3, .inl (k3, 16, .inl rt))] H := hP
      have hD : va_D A [(m0, .inr (1, [.ref h0, .ref b1, .ref b2, .ref b3, .int (nI lim), .int (nI (kc - 1)), .int (nI nr), .int (nI nf), .int (nI nc)])), (b1, .inl (g1, 400, .inl mr)), (b2, .inl (g2, 400, .inl ch)), (b3, .inl (g3, 64, .inl kp)), (h0, .inr (0, [.ref a1, .ref a2, .ref a3, .int (nI N), .int fa])), (a1, .inl (k1, 400, .inl (pm_nf9 cn))), (a2, .inl (k2, 8000, .inl fl)), (a3, .inl (k3, 16, .inl rt))] := hD
      refine lv_aload_n hx hb dX1_markStep_62 rfl (lv_at hl 0 rfl) ?_
      refine lv_aload_n hx hb dX1_markStep_63 rfl (lv_at hl 0 rfl) ?_
      refine va_get (D := (dC, dI)) (ci := 1) (v := .ref b3) (C := RX1) (T := TX1) (N := 9) hx hb hts iw_X1 hown hK hP 0 rfl rfl 3 (by decide) (hts _ mf_X1_22) (fun _ h9 => h9) rfl dX1_markStep_64 ?_
      refine lv_aload_n hx hb dX1_markStep_67 rfl (lv_at hl 0 rfl) ?_
      refine va_get (D := (dC, dI)) (ci := 1) (v := .int (nI (kc - 1))) (C := RX1) (T := TX1) (N := 9) hx hb hts iw_X1 hown hK hP 0 rfl rfl 5 (by decide) (hts _ mf_X1_30) (fun _ h9 => h9) rfl dX1_markStep_68 ?_
      refine va_iald hx hb hK hP 3 2 rfl rfl (vp_in_nI (by omega) (by omega)) dX1_markStep_71 ?_
      refine lv_topi (fun x_6 ex_6 => ?_)
      rw [nI_clamp (by omega)] at ex_6
      subst ex_6
      have hPc := hP.sub (ws' := [(m0, .inr (1, [.ref h0, .ref b1, .ref b2, .ref b3, .int (nI lim), .int (nI (kc - 1)), .int (nI nr), .int (nI nf), .int (nI nc)])), (b1, .inl (g1, 400, .inl mr)), (b2, .inl (g2, 400, .inl ch)), (b3, .inl (g3, 64, .inl kp)), (h0, .inr (0, [.ref a1, .ref a2, .ref a3, .int (nI N), .int fa])), (a1, .inl (k1, 400, .inl (pm_nf9 cn))), (a2, .inl (k2, 8000, .inl fl)), (a3, .inl (k3, 16, .inl rt))]) [0, 1, 2, 3, 4, 5, 6, 7] rfl
      have hDc := hD.sub (ws' := [(m0, .inr (1, [.ref h0, .ref b1, .ref b2, .ref b3, .int (nI lim), .int (nI (kc - 1)), .int (nI nr), .int (nI nf), .int (nI nc)])), (b1, .inl (g1, 400, .inl mr)), (b2, .inl (g2, 400, .inl ch)), (b3, .inl (g3, 64, .inl kp)), (h0, .inr (0, [.ref a1, .ref a2, .ref a3, .int (nI N), .int fa])), (a1, .inl (k1, 400, .inl (pm_nf9 cn))), (a2, .inl (k2, 8000, .inl fl)), (a3, .inl (k3, 16, .inl rt))]) [0, 1, 2, 3, 4, 5, 6, 7] (by decide) rfl
      have hKc := hK.sub (tys' := [(g1, .boolean), (g2, .boolean), (g3, .int), (k1, .int), (k2, .int), (k3, .int)]) [0, 1, 2, 3, 4, 5] rfl
      have hFc := va_free (wc := [(m0, .inr (1, [.ref h0, .ref b1, .ref b2, .ref b3, .int (nI lim), .int (nI (kc - 1)), .int (nI nr), .int (nI nf), .int (nI nc)])), (b1, .inl (g1, 400, .inl mr)), (b2, .inl (g2, 400, .inl ch)), (b3, .inl (g3, 64, .inl kp)), (h0, .inr (0, [.ref a1, .ref a2, .ref a3, .int (nI N), .int fa])), (a1, .inl (k1, 400, .inl (pm_nf9 cn))), (a2, .inl (k2, 8000, .inl fl)), (a3, .inl (k3, 16, .inl rt))]) hD hS hA [0, 1, 2, 3, 4, 5, 6, 7] rfl
      refine va_callv (va_runV (As := [.int (kp ((kc - 1)))]) (rest := []) ⟨hx, hb, hml, hown, hts⟩ (c_M_markFieldsOf l dC dI m0 b1 b2 b3 g1 g2 g3 mr ch kp lim (kc - 1) nr nf nc h0 a1 a2 a3 k1 k2 k3 N cn fl rt fa (kp ((kc - 1))) H.size (hlim) (by omega) (by omega) (hN) (hc)) (cwV 1 hts (gw_V ml_X1_64 mi_X1_markFieldsOf ms_X1_markFieldsOf mn_X1 mc_X1_markFieldsOf) rfl rfl rfl (by decide +kernel) ⟨Nat.le_of_ble_eq_true rfl, Nat.le_of_ble_eq_true rfl⟩) ⟨fun a U g mk q => by obtain ⟨q0, q1, qP, qK, qD⟩ := q; exact ⟨q0, q1, qP, va_K.moved (u := U) (U := U.calling g mk a) (Vm.Alike.refl U.vm) qK, qD⟩, va_recv hKc hPc (ci := 1) (q0 := 0) rfl rfl, fun U hU hW => ⟨rfl, by rw [hU], by rw [hU]; exact hPc, va_K.moved hW.alike hKc, hDc.weaken (fun _ _ _ _ => trivial)⟩⟩ rfl rfl hl.1 rfl (lv_room (Nat.le_of_ble_eq_true rfl)) dX1_markStep_72 ⟨Nat.le_of_ble_eq_true rfl, Nat.le_of_ble_eq_true rfl⟩) hS (fun q _ h => hFc q h) hFc (fun u t H1 locs ht hvm hw hB hz1 hk1 hS => ?_)
      obtain ⟨mk9, kp9, kc9, nf9⟩ := u
      obtain ⟨hP1, hK1, hD1⟩ := hB
      rw [ht] at hP1
      have hK1 := va_K.moved hvm.symm hK1
      obtain ⟨hP, hD⟩ := va_join (wr := []) (w1 := [(m0, .inr (1, [.ref h0, .ref b1, .ref b2, .ref b3, .int (nI lim), .int (nI kc9), .int (nI nr), .int (nI nf9), .int (nI nc)])), (b1, .inl (g1, 400, .inl mk9)), (b2, .inl (g2, 400, .inl ch)), (b3, .inl (g3, 64, .inl kp9)), (h0, .inr (0, [.ref a1, .ref a2, .ref a3, .int (nI N), .int fa])), (a1, .inl (k1, 400, .inl (pm_nf9 cn))), (a2, .inl (k2, 8000, .inl fl)), (a3, .inl (k3, 16, .inl rt))]) hP hD [0, 1, 2, 3, 4, 5, 6, 7] [] rfl rfl (by decide) (by decide) hk1 hFc hP1 hD1
      clear hPc hDc hKc hFc hP1 hK1 hD1
      generalize H1 = H at hP hS ⊢
      have hP : va_P (dC, dI) vwCl [(m0, .inr (1, [.ref h0, .ref b1, .ref b2, .ref b3, .int (nI lim), .int (nI kc9), .int (nI nr), .int (nI nf9), .int (nI nc)])), (b1, .inl (g1, 400, .inl mk9)), (b2, .inl (g2, 400, .inl ch)), (b3, .inl (g3, 64, .inl kp9)), (h0, .inr (0, [.ref a1, .ref a2, .ref a3, .int (nI N), .int fa])), (a1, .inl (k1, 400, .inl (pm_nf9 cn))), (a2, .inl (k2, 8000, .inl fl)), (a3, .inl (k3, 16, .inl rt))] H := hP.sub [0, 1, 2, 3, 4, 5, 6, 7] rfl
      have hD : va_D A [(m0, .inr (1, [.ref h0, .ref b1, .ref b2, .ref b3, .int (nI lim), .int (nI kc9), .int (nI nr), .int (nI nf9), .int (nI nc)])), (b1, .inl (g1, 400, .inl mk9)), (b2, .inl (g2, 400, .inl ch)), (b3, .inl (g3, 64, .inl kp9)), (h0, .inr (0, [.ref a1, .ref a2, .ref a3, .int (nI N), .int fa])), (a1, .inl (k1, 400, .inl (pm_nf9 cn))), (a2, .inl (k2, 8000, .inl fl)), (a3, .inl (k3, 16, .inl rt))] := hD.sub [0, 1, 2, 3, 4, 5, 6, 7] (by decide) rfl
      refine lv_iconst (v := nI 1) hx hb dX1_markStep_75 (by decide +kernel) ?_
      exact W.zret (v := nI 1) hx hb hr (by decide +kernel) (fun t ht hW => ⟨⟨nI 1, (mk9, ch, kp9, lim, kc9, nr, nf9, nc), rfl, pm_sB (by omega) (by omega) hw, by rw [ht]; exact hP, va_K.moved hW.alike hK, hD⟩, hS.F ht⟩) hS.2.2 dX1_markStep_76
  · rw [nI_leI (by omega) (by omega)] at c_6; replace c_6 : nr < 16 := by omega
    refine lv_aload_n hx hb dX1_markStep_9 rfl (lv_at hl 0 rfl) ?_
    refine lv_aload_n hx hb dX1_markStep_10 rfl (lv_at hl 0 rfl) ?_
    refine va_get (D := (dC, dI)) (ci := 1) (v := .ref h0) (C := RX1) (T := TX1) (N := 9) hx hb hts iw_X1 hown hK hP 0 rfl rfl 0 (by decide) (hts _ mf_X1_9) (fun _ h9 => h9) rfl dX1_markStep_11 ?_
    refine lv_aload_n hx hb dX1_markStep_14 rfl (lv_at hl 0 rfl) ?_
    refine va_get (D := (dC, dI)) (ci := 1) (v := .int (nI nr)) (C := RX1) (T := TX1) (N := 9) hx hb hts iw_X1 hown hK hP 0 rfl rfl 6 (by decide) (hts _ mf_X1_33) (fun _ h9 => h9) rfl dX1_markStep_15 ?_
    have hPc := hP.sub (ws' := [(h0, .inr (0, [.ref a1, .ref a2, .ref a3, .int (nI N), .int fa])), (a1, .inl (k1, 400, .inl (pm_nf9 cn))), (a2, .inl (k2, 8000, .inl fl)), (a3, .inl (k3, 16, .inl rt))]) [4, 5, 6, 7] rfl
    have hDc := hD.sub (ws' := [(h0, .inr (0, [.ref a1, .ref a2, .ref a3, .int (nI N), .int fa])), (a1, .inl (k1, 400, .inl (pm_nf9 cn))), (a2, .inl (k2, 8000, .inl fl)), (a3, .inl (k3, 16, .inl rt))]) [4, 5, 6, 7] (by decide) rfl
    have hKc := hK.sub (tys' := [(k1, .int), (k2, .int), (k3, .int)]) [3, 4, 5] rfl
    have hFc := va_free (wc := [(h0, .inr (0, [.ref a1, .ref a2, .ref a3, .int (nI N), .int fa])), (a1, .inl (k1, 400, .inl (pm_nf9 cn))), (a2, .inl (k2, 8000, .inl fl)), (a3, .inl (k3, 16, .inl rt))]) hD hS hA [4, 5, 6, 7] rfl
    refine va_calli (va_runV (As := [.int (nI nr)]) (rest := [.ref m0]) ⟨hx, hb, hml, hown, hts⟩ (c_H_rootAt l dC dI h0 a1 a2 a3 k1 k2 k3 N cn fl rt fa (nI nr) H.size) (cwV 1 hts (gw_V ml_X1_56 mi_X0_rootAt ms_X0_rootAt mn_X0 mc_X0_rootAt) rfl rfl rfl (by decide +kernel) ⟨Nat.le_of_ble_eq_true rfl, Nat.le_of_ble_eq_true rfl⟩) ⟨fun a U g mk q => by obtain ⟨q0, q1, qP, qK, qD⟩ := q; exact ⟨q0, q1, qP, va_K.moved (u := U) (U := U.calling g mk a) (Vm.Alike.refl U.vm) qK, qD⟩, va_recv hKc hPc (ci := 0) (q0 := 0) rfl rfl, fun U hU hW => ⟨rfl, by rw [hU], by rw [hU]; exact hPc, va_K.moved hW.alike hKc, hDc.weaken (fun _ _ _ _ => trivial)⟩⟩ rfl rfl hl.1 rfl (lv_room (Nat.le_of_ble_eq_true rfl)) dX1_markStep_18 ⟨Nat.le_of_ble_eq_true rfl, Nat.le_of_ble_eq_true rfl⟩) hS (fun q _ h => hFc q h) hFc (fun r_8 u t H1 locs ht hvm hw hB hz1 hk1 hS => ?_)
    obtain ⟨hP1, hK1, hD1⟩ := hB
    rw [ht] at hP1
    have hK1 := va_K.moved hvm.symm hK1
    obtain ⟨hP, hD⟩ := va_join (wr := [(m0, .inr (1, [.ref h0, .ref b1, .ref b2, .ref b3, .int (nI lim), .int (nI kc), .int (nI nr), .int (nI nf), .int (nI nc)])), (b1, .inl (g1, 400, .inl mr)), (b2, .inl (g2, 400, .inl ch)), (b3, .inl (g3, 64, .inl kp))]) (w1 := [(h0, .inr (0, [.ref a1, .ref a2, .ref a3, .int (nI N), .int fa])), (a1, .inl (k1, 400, .inl (pm_nf9 cn))), (a2, .inl (k2, 8000, .inl fl)), (a3, .inl (k3, 16, .inl rt))]) hP hD [4, 5, 6, 7] [0, 1, 2, 3] rfl rfl (by decide) (by decide) hk1 hFc hP1 hD1
    clear hPc hDc hKc hFc hP1 hK1 hD1
    generalize H1 = H at hP hS ⊢
    have hP : va_P (dC, dI) vwCl [(m0, .inr (1, [.ref h0, .ref b1, .ref b2, .ref b3, .int (nI lim), .int (nI kc), .int (nI nr), .int (nI nf), .int (nI nc)])), (b1, .inl (g1, 400, .inl mr)), (b2, .inl (g2, 400, .inl ch)), (b3, .inl (g3, 64, .inl kp)), (h0, .inr (0, [.ref a1, .ref a2, .ref a3, .int (nI N), .int fa])), (a1, .inl (k1, 400, .inl (pm_nf9 cn))), (a2, .inl (k2, 8000, .inl fl)), (a3, .inl (k3, 16, .inl rt))] H := hP.sub [0, 1, 2, 3, 4, 5, 6, 7] rfl
    have hD : va_D A [(m0, .inr (1, [.ref h0, .ref b1, .ref b2, .ref b3, .int (nI lim), .int (nI kc), .int (nI nr), .int (nI nf), .int (nI nc)])), (b1, .inl (g1, 400, .inl mr)), (b2, .inl (g2, 400, .inl ch)), (b3, .inl (g3, 64, .inl kp)), (h0, .inr (0, [.ref a1, .ref a2, .ref a3, .int (nI N), .int fa])), (a1, .inl (k1, 400, .inl (pm_nf9 cn))), (a2, .inl (k2, 8000, .inl fl)), (a3, .inl (k3, 16, .inl rt))] := hD.sub [0, 1, 2, 3, 4, 5, 6, 7] (by decide) rfl
    obtain rfl : r_8 = rt nr := hw.trans (by rw [if_pos (pm_has_nI (by omega) c_6), nI_clamp (by omega)])
    have hPc := hP.sub (ws' := [(m0, .inr (1, [.ref h0, .ref b1, .ref b2, .ref b3, .int (nI lim), .int (nI kc), .int (nI nr), .int (nI nf), .int (nI nc)])), (b1, .inl (g1, 400, .inl mr)), (b2, .inl (g2, 400, .inl ch)), (b3, .inl (g3, 64, .inl kp)), (h0, .inr (0, [.ref a1, .ref a2, .ref a3, .int (nI N), .int fa])), (a1, .inl (k1, 400, .inl (pm_nf9 cn))), (a2, .inl (k2, 8000, .inl fl)), (a3, .inl (k3, 16, .inl rt))]) [0, 1, 2, 3, 4, 5, 6, 7] rfl
    have hDc := hD.sub (ws' := [(m0, .inr (1, [.ref h0, .ref b1, .ref b2, .ref b3, .int (nI lim), .int (nI kc), .int (nI nr), .int (nI nf), .int (nI nc)])), (b1, .inl (g1, 400, .inl mr)), (b2, .inl (g2, 400, .inl ch)), (b3, .inl (g3, 64, .inl kp)), (h0, .inr (0, [.ref a1, .ref a2, .ref a3, .int (nI N), .int fa])), (a1, .inl (k1, 400, .inl (pm_nf9 cn))), (a2, .inl (k2, 8000, .inl fl)), (a3, .inl (k3, 16, .inl rt))]) [0, 1, 2, 3, 4, 5, 6, 7] (by decide) rfl
    have hKc := hK.sub (tys' := [(g1, .boolean), (g2, .boolean), (g3, .int), (k1, .int), (k2, .int), (k3, .int)]) [0, 1, 2, 3, 4, 5] rfl
    have hFc := va_free (wc := [(m0, .inr (1, [.ref h0, .ref b1, .ref b2, .ref b3, .int (nI lim), .int (nI kc), .int (nI nr), .int (nI nf), .int (nI nc)])), (b1, .inl (g1, 400, .inl mr)), (b2, .inl (g2, 400, .inl ch)), (b3, .inl (g3, 64, .inl kp)), (h0, .inr (0, [.ref a1, .ref a2, .ref a3, .int (nI N), .int fa])), (a1, .inl (k1, 400, .inl (pm_nf9 cn))), (a2, .inl (k2, 8000, .inl fl)), (a3, .inl (k3, 16, .inl rt))]) hD hS hA [0, 1, 2, 3, 4, 5, 6, 7] rfl
    refine va_callv (va_runV (As := [.int (rt nr)]) (rest := []) ⟨hx, hb, hml, hown, hts⟩ (c_M_putMark l dC dI m0 b1 b2 b3 g1 g2 g3 mr ch kp lim kc nr nf nc h0 a1 a2 a3 k1 k2 k3 N cn fl rt fa (rt nr) H.size (hlim) (by omega) (by omega) (hN)) (cwV 1 hts (gw_V ml_X1_60 mi_X1_putMark ms_X1_putMark mn_X1 mc_X1_putMark) rfl rfl rfl (by decide +kernel) ⟨Nat.le_of_ble_eq_true rfl, Nat.le_of_ble_eq_true rfl⟩) ⟨fun a U g mk q => by obtain ⟨q0, q1, qP, qK, qD⟩ := q; exact ⟨q0, q1, qP, va_K.moved (u := U) (U := U.calling g mk a) (Vm.Alike.refl U.vm) qK, qD⟩, va_recv hKc hPc (ci := 1) (q0 := 0) rfl rfl, fun U hU hW => ⟨rfl, by rw [hU], by rw [hU]; exact hPc, va_K.moved hW.alike hKc, hDc.weaken (fun _ _ _ _ => trivial)⟩⟩ rfl rfl hl.1 rfl (lv_room (Nat.le_of_ble_eq_true rfl)) dX1_markStep_21 ⟨Nat.le_of_ble_eq_true rfl, Nat.le_of_ble_eq_true rfl⟩) hS (fun q _ h => hFc q h) hFc (fun u t H1 locs ht hvm hw hB hz1 hk1 hS => ?_)
    obtain ⟨mk9, kp9, kc9, nf9⟩ := u
    obtain ⟨hP1, hK1, hD1⟩ := hB
    rw [ht] at hP1
    have hK1 := va_K.moved hvm.symm hK1
    obtain ⟨hP, hD⟩ := va_join (wr := []) (w1 := [(m0, .inr (1, [.ref h0, .ref b1, .ref b2, .ref b3, .int (nI lim), .int (nI kc9), .int (nI nr), .int (nI nf9), .int (nI nc)])), (b1, .inl (g1, 400, .inl mk9)), (b2, .inl (g2, 400, .inl ch)), (b3, .inl (g3, 64, .inl kp9)), (h0, .inr (0, [.ref a1, .ref a2, .ref a3, .int (nI N), .int fa])), (a1, .inl (k1, 400, .inl (pm_nf9 cn))), (a2, .inl (k2, 8000, .inl fl)), (a3, .inl (k3, 16, .inl rt))]) hP hD [0, 1, 2, 3, 4, 5, 6, 7] [] rfl rfl (by decide) (by decide) hk1 hFc hP1 hD1
    clear hPc hDc hKc hFc hP1 hK1 hD1
    generalize H1 = H at hP hS ⊢
    have hP : va_P (dC, dI) vwCl [(m0, .inr (1, [.ref h0, .ref b1, .ref b2, .ref b3, .int (nI lim), .int (nI kc9), .int (nI nr), .int (nI nf9), .int (nI nc)])), (b1, .inl (g1, 400, .inl mk9)), (b2, .inl (g2, 400, .inl ch)), (b3, .inl (g3, 64, .inl kp9)), (h0, .inr (0, [.ref a1, .ref a2, .ref a3, .int (nI N), .int fa])), (a1, .inl (k1, 400, .inl (pm_nf9 cn))), (a2, .inl (k2, 8000, .inl fl)), (a3, .inl (k3, 16, .inl rt))] H := hP.sub [0, 1, 2, 3, 4, 5, 6, 7] rfl
    have hD : va_D A [(m0, .inr (1, [.ref h0, .ref b1, .ref b2, .ref b3, .int (nI lim), .int (nI kc9), .int (nI nr), .int (nI nf9), .int (nI nc)])), (b1, .inl (g1, 400, .inl mk9)), (b2, .inl (g2, 400, .inl ch)), (b3, .inl (g3, 64, .inl kp9)), (h0, .inr (0, [.ref a1, .ref a2, .ref a3, .int (nI N), .int fa])), (a1, .inl (k1, 400, .inl (pm_nf9 cn))), (a2, .inl (k2, 8000, .inl fl)), (a3, .inl (k3, 16, .inl rt))] := hD.sub [0, 1, 2, 3, 4, 5, 6, 7] (by decide) rfl
    refine lv_aload_n hx hb dX1_markStep_24 rfl (lv_at hl 0 rfl) ?_
    refine lv_dup hx hb dX1_markStep_25 rfl ?_
    refine va_get (D := (dC, dI)) (ci := 1) (v := .int (nI nr)) (C := RX1) (T := TX1) (N := 9) hx hb hts iw_X1 hown hK hP 0 rfl rfl 6 (by decide) (hts _ mf_X1_33) (fun _ h9 => h9) rfl dX1_markStep_26 ?_
    refine lv_iconst (v := nI 1) hx hb dX1_markStep_29 (by decide +kernel) ?_
    refine lv_iadd hx hb dX1_markStep_30 ?_
    refine lv_topi (fun x_10 ex_10 => ?_)
    obtain rfl : x_10 = nI (nr + 1) := ex_10.trans (nI_add _ _)
    refine va_put (D := (dC, dI)) (ci := 1) (v := .int (nI (nr + 1))) (ty := .int) (C := RX1) (T := TX1) (N := 9) hx hb hts iw_X1 tyX1 tyX1_ok nmX1 hown hK hP hD hS 0 rfl rfl 6 (by decide) (hts _ mf_X1_33) (fun _ h9 => h9) rfl (by decide +kernel) (rfl) (rfl) (Nat.le_of_ble_eq_true rfl) dX1_markStep_31 (fun H locs hP hD hS => ?_)
    have hP : va_P (dC, dI) vwCl [(m0, .inr (1, [.ref h0, .ref b1, .ref b2, .ref b3, .int (nI lim), .int (nI kc9), .int (nI (nr + 1)), .int (nI nf9), .int (nI nc)])), (b1, .inl (g1, 400, .inl mk9)), (b2, .inl (g2, 400, .inl ch)), (b3, .inl (g3, 64, .inl kp9)), (h0, .inr (0, [.ref a1, .ref a2, .ref a3, .int (nI N), .int fa])), (a1, .inl (k1, 400, .inl (pm_nf9 cn))), (a2, .inl (k2, 8000, .inl fl)), (a3, .inl (k3, 16, .inl rt))] H := hP
    have hD : va_D A [(m0, .inr (1, [.ref h0, .ref b1, .ref b2, .ref b3, .int (nI lim), .int (nI kc9), .int (nI (nr + 1)), .int (nI nf9), .int (nI nc)])), (b1, .inl (g1, 400, .inl mk9)), (b2, .inl (g2, 400, .inl ch)), (b3, .inl (g3, 64, .inl kp9)), (h0, .inr (0, [.ref a1, .ref a2, .ref a3, .int (nI N), .int fa])), (a1, .inl (k1, 400, .inl (pm_nf9 cn))), (a2, .inl (k2, 8000, .inl fl)), (a3, .inl (k3, 16, .inl rt))] := hD
    refine lv_iconst (v := nI 1) hx hb dX1_markStep_34 (by decide +kernel) ?_
    exact W.zret (v := nI 1) hx hb hr (by decide +kernel) (fun t ht hW => ⟨⟨nI 1, (mk9, ch, kp9, lim, kc9, nr + 1, nf9, nc), rfl, pm_sA c_6 hw, by rw [ht]; exact hP, va_K.moved hW.alike hK, hD⟩, hS.F ht⟩) hS.2.2 dX1_markStep_35

set_option maxHeartbeats 4000000 in
set_option maxRecDepth 100000 in
/-- Marker.cleanStep() -/
theorem c_M_cleanStep (l : Launch) (dC : Nat → ClassId) (dI : Nat → Nat → Nat) (m0 b1 b2 b3 : Nat) (g1 g2 g3 : ClassId) (mr ch kp : Nat → Int32) (lim kc nr nf nc : Nat) (h0 a1 a2 a3 : Nat) (k1 k2 k3 : ClassId) (N : Nat) (cn : Nat → Nat) (fl rt : Nat → Int32) (fa : Int32) (sz : Nat) (hN : N ≤ 400) (hc : ∀ k, k < N → cn k ≤ 20) (hlim : lim ≤ 64) (hkc : kc ≤ 64) (hnr : nr ≤ 16) (hnf : nf ≤ 400) (hnc : nc ≤ 400) : Met l yX1_cleanStep wsX1_cleanStep ({ frames := 4, cells := 0, slots := 0, locals := 88 }) (va_Pc [.ref m0] (fun U => U.heap.size = sz ∧ va_P (dC, dI) vwCl [(m0, .inr (1, [.ref h0, .ref b1, .ref b2, .ref b3, .int (nI lim), .int (nI kc), .int (nI nr), .int (nI nf), .int (nI nc)])), (b1, .inl (g1, 400, .inl mr)), (b2, .inl (g2, 400, .inl ch)), (b3, .inl (g3, 64, .inl kp)), (h0, .inr (0, [.ref a1, .ref a2, .ref a3, .int (nI N), .int fa])), (a1, .inl (k1, 400, .inl (pm_nf9 cn))), (a2, .inl (k2, 8000, .inl fl)), (a3, .inl (k3, 16, .inl rt))] U.heap ∧ va_K (dC, dI) vwCl [(g1, .boolean), (g2, .boolean), (g3, .int), (k1, .int), (k2, .int), (k3, .int)] U ∧ va_D (fun _ => True) [(m0, .inr (1, [.ref h0, .ref b1, .ref b2, .ref b3, .int (nI lim), .int (nI kc), .int (nI nr), .int (nI nf), .int (nI nc)])), (b1, .inl (g1, 400, .inl mr)), (b2, .inl (g2, 400, .inl ch)), (b3, .inl (g3, 64, .inl kp)), (h0, .inr (0, [.ref a1, .ref a2, .ref a3, .int (nI N), .int fa])), (a1, .inl (k1, 400, .inl (pm_nf9 cn))), (a2, .inl (k2, 8000, .inl fl)), (a3, .inl (k3, 16, .inl rt))])) (va_Qi (fun (r : Int32) (u : pm_M) => r = pm_b (pm_cs N cn fl (mr, ch, kp, lim, kc, nr, nf, nc)).1 ∧ u = (pm_cs N cn fl (mr, ch, kp, lim, kc, nr, nf, nc)).2) (fun (u : pm_M) (t : State) => va_P (dC, dI) vwCl [(m0, .inr (1, [.ref h0, .ref b1, .ref b2, .ref b3, .int (nI (u.2.2.2.1)), .int (nI (u.2.2.2.2.1)), .int (nI (u.2.2.2.2.2.1)), .int (nI (u.2.2.2.2.2.2.1)), .int (nI (u.2.2.2.2.2.2.2))])), (b1, .inl (g1, 400, .inl (u.1))), (b2, .inl (g2, 400, .inl (u.2.1))), (b3, .inl (g3, 64, .inl (u.2.2.1))), (h0, .inr (0, [.ref a1, .ref a2, .ref a3, .int (nI N), .int fa])), (a1, .inl (k1, 400, .inl (pm_nf9 cn))), (a2, .inl (k2, 8000, .inl fl)), (a3, .inl (k3, 16, .inl rt))] t.heap ∧ va_K (dC, dI) vwCl [(g1, .boolean), (g2, .boolean), (g3, .int), (k1, .int), (k2, .int), (k3, .int)] t ∧ va_D (va_A [(m0, .inr (1, [.ref h0, .ref b1, .ref b2, .ref b3, .int (nI lim), .int (nI kc), .int (nI nr), .int (nI nf), .int (nI nc)])), (b1, .inl (g1, 400, .inl mr)), (b2, .inl (g2, 400, .inl ch)), (b3, .inl (g3, 64, .inl kp)), (h0, .inr (0, [.ref a1, .ref a2, .ref a3, .int (nI N), .int fa])), (a1, .inl (k1, 400, .inl (pm_nf9 cn))), (a2, .inl (k2, 8000, .inl fl)), (a3, .inl (k3, 16, .inl rt))] sz) [(m0, .inr (1, [.ref h0, .ref b1, .ref b2, .ref b3, .int (nI (u.2.2.2.1)), .int (nI (u.2.2.2.2.1)), .int (nI (u.2.2.2.2.2.1)), .int (nI (u.2.2.2.2.2.2.1)), .int (nI (u.2.2.2.2.2.2.2))])), (b1, .inl (g1, 400, .inl (u.1))), (b2, .inl (g2, 400, .inl (u.2.1))), (b3, .inl (g3, 64, .inl (u.2.2.1))), (h0, .inr (0, [.ref a1, .ref a2, .ref a3, .int (nI N), .int fa])), (a1, .inl (k1, 400, .inl (pm_nf9 cn))), (a2, .inl (k2, 8000, .inl fl)), (a3, .inl (k3, 16, .inl rt))]) (va_A [(m0, .inr (1, [.ref h0, .ref b1, .ref b2, .ref b3, .int (nI lim), .int (nI kc), .int (nI nr), .int (nI nf), .int (nI nc)])), (b1, .inl (g1, 400, .inl mr)), (b2, .inl (g2, 400, .inl ch)), (b3, .inl (g3, 64, .inl kp)), (h0, .inr (0, [.ref a1, .ref a2, .ref a3, .int (nI N), .int fa])), (a1, .inl (k1, 400, .inl (pm_nf9 cn))), (a2, .inl (k2, 8000, .inl fl)), (a3, .inl (k3, 16, .inl rt))] sz)) 0 0 (va_A [(m0, .inr (1, [.ref h0, .ref b1, .ref b2, .ref b3, .int (nI lim), .int (nI kc), .int (nI nr), .int (nI nf), .int (nI nc)])), (b1, .inl (g1, 400, .inl mr)), (b2, .inl (g2, 400, .inl ch)), (b3, .inl (g3, 64, .inl kp)), (h0, .inr (0, [.ref a1, .ref a2, .ref a3, .int (nI N), .int fa])), (a1, .inl (k1, 400, .inl (pm_nf9 cn))), (a2, .inl (k2, 8000, .inl fl)), (a3, .inl (k3, 16, .inl rt))] sz) := by
  refine Met.ofW (cc := cX1_cleanStep) (maxL := 2) (ret := (some .boolean)) (by decide) rfl ?_
  intro p e s m args below meth c s₁ B hml hv
  obtain ⟨rfl, hsz, hP, hK, hD0⟩ := hv
  have hx := B.exec
  have hb := B.bytes
  have hr := B.returns
  have hts : ∀ w ∈ gw, w.before _ s = true := fun w h => atoms_spec (ws := wsX1_cleanStep) B.pre w (List.mem_cons_of_mem _ h)
  have hown : s.vm.findClass RX1 = some m.cls := findClass_of_methodNamed B.named
  have hlocks := B.notSynchronized
  subst hsz
  have hD := hD0.self (sz := s.heap.size)
  generalize hAe : va_A [(m0, .inr (1, [.ref h0, .ref b1, .ref b2, .ref b3, .int (nI lim), .int (nI kc), .int (nI nr), .int (nI nf), .int (nI nc)])), (b1, .inl (g1, 400, .inl mr)), (b2, .inl (g2, 400, .inl ch)), (b3, .inl (g3, 64, .inl kp)), (h0, .inr (0, [.ref a1, .ref a2, .ref a3, .int (nI N), .int fa])), (a1, .inl (k1, 400, .inl (pm_nf9 cn))), (a2, .inl (k2, 8000, .inl fl)), (a3, .inl (k3, 16, .inl rt))] s.heap.size = A at hD ⊢
  have hA : ∀ q : Nat, s.heap.size ≤ q → A q := fun q h => by rw [← hAe]; exact Or.inr h
  have hP : va_P (dC, dI) vwCl [(m0, .inr (1, [.ref h0, .ref b1, .ref b2, .ref b3, .int (nI lim), .int (nI kc), .int (nI nr), .int (nI nf), .int (nI nc)])), (b1, .inl (g1, 400, .inl mr)), (b2, .inl (g2, 400, .inl ch)), (b3, .inl (g3, 64, .inl kp)), (h0, .inr (0, [.ref a1, .ref a2, .ref a3, .int (nI N), .int fa])), (a1, .inl (k1, 400, .inl (pm_nf9 cn))), (a2, .inl (k2, 8000, .inl fl)), (a3, .inl (k3, 16, .inl rt))] s.heap := hP
  have hl := lv_entry ([.ref m0]) (n := 2) (Nat.le_of_ble_eq_true rfl)
  rw [lg_entry_eq]
  generalize (lg_sl ([.ref m0]) ++ List.replicate (2 - (lg_sl ([.ref m0])).length) Slot.unset).toArray = ls at hl ⊢
  have hl : lv_has ls 2 [(0, .ref m0)] := hl
  obtain ⟨H, hH⟩ : ∃ H : Heap, H = s.heap := ⟨_, rfl⟩
  rw [← hH]
  rw [← hH] at hP
  have hS : va_S A s.heap H [] := by rw [hH]; exact va_S.rf
  clear hH
  refine lv_aload_n hx hb dX1_cleanStep_0 rfl (lv_at hl 0 rfl) ?_
  refine va_get (D := (dC, dI)) (ci := 1) (v := .int (nI nc)) (C := RX1) (T := TX1) (N := 9) hx hb hts iw_X1 hown hK hP 0 rfl rfl 8 (by decide) (hts _ mf_X1_39) (fun _ h9 => h9) rfl dX1_cleanStep_1 ?_
  refine lv_aload_n hx hb dX1_cleanStep_4 rfl (lv_at hl 0 rfl) ?_
  refine va_get (D := (dC, dI)) (ci := 1) (v := .ref h0) (C := RX1) (T := TX1) (N := 9) hx hb hts iw_X1 hown hK hP 0 rfl rfl 0 (by decide) (hts _ mf_X1_9) (fun _ h9 => h9) rfl dX1_cleanStep_5 ?_
  have hPc := hP.sub (ws' := [(h0, .inr (0, [.ref a1, .ref a2, .ref a3, .int (nI N), .int fa])), (a1, .inl (k1, 400, .inl (pm_nf9 cn))), (a2, .inl (k2, 8000, .inl fl)), (a3, .inl (k3, 16, .inl rt))]) [4, 5, 6, 7] rfl
  have hDc := hD.sub (ws' := [(h0, .inr (0, [.ref a1, .ref a2, .ref a3, .int (nI N), .int fa])), (a1, .inl (k1, 400, .inl (pm_nf9 cn))), (a2, .inl (k2, 8000, .inl fl)), (a3, .inl (k3, 16, .inl rt))]) [4, 5, 6, 7] (by decide) rfl
  have hKc := hK.sub (tys' := [(k1, .int), (k2, .int), (k3, .int)]) [3, 4, 5] rfl
  have hFc := va_free (wc := [(h0, .inr (0, [.ref a1, .ref a2, .ref a3, .int (nI N), .int fa])), (a1, .inl (k1, 400, .inl (pm_nf9 cn))), (a2, .inl (k2, 8000, .inl fl)), (a3, .inl (k3, 16, .inl rt))]) hD hS hA [4, 5, 6, 7] rfl
  refine va_calli (va_runV (As := []) (rest := [.int (nI nc)]) ⟨hx, hb, hml, hown, hts⟩ (c_H_countOfObjects l dC dI h0 a1 a2 a3 k1 k2 k3 N cn fl rt fa H.size) (cwV 0 hts (gw_V ml_X1_67 mi_X0_countOfObjects ms_X0_countOfObjects mn_X0 mc_X0_countOfObjects) rfl rfl rfl (by decide +kernel) ⟨Nat.le_of_ble_eq_true rfl, Nat.le_of_ble_eq_true rfl⟩) ⟨fun a U g mk q => by obtain ⟨q0, q1, qP, qK, qD⟩ := q; exact ⟨q0, q1, qP, va_K.moved (u := U) (U := U.calling g mk a) (Vm.Alike.refl U.vm) qK, qD⟩, va_recv hKc hPc (ci := 0) (q0 := 0) rfl rfl, fun U hU hW => ⟨rfl, by rw [hU], by rw [hU]; exact hPc, va_K.moved hW.alike hKc, hDc.weaken (fun _ _ _ _ => trivial)⟩⟩ rfl rfl hl.1 rfl (lv_room (Nat.le_of_ble_eq_true rfl)) dX1_cleanStep_8 ⟨Nat.le_of_ble_eq_true rfl, Nat.le_of_ble_eq_true rfl⟩) hS (fun q _ h => hFc q h) hFc (fun r_1 u t H1 locs ht hvm hw hB hz1 hk1 hS => ?_)
  obtain ⟨hP1, hK1, hD1⟩ := hB
  rw [ht] at hP1
  have hK1 := va_K.moved hvm.symm hK1
  obtain ⟨hP, hD⟩ := va_join (wr := [(m0, .inr (1, [.ref h0, .ref b1, .ref b2, .ref b3, .int (nI lim), .int (nI kc), .int (nI nr), .int (nI nf), .int (nI nc)])), (b1, .inl (g1, 400, .inl mr)), (b2, .inl (g2, 400, .inl ch)), (b3, .inl (g3, 64, .inl kp))]) (w1 := [(h0, .inr (0, [.ref a1, .ref a2, .ref a3, .int (nI N), .int fa])), (a1, .inl (k1, 400, .inl (pm_nf9 cn))), (a2, .inl (k2, 8000, .inl fl)), (a3, .inl (k3, 16, .inl rt))]) hP hD [4, 5, 6, 7] [0, 1, 2, 3] rfl rfl (by decide) (by decide) hk1 hFc hP1 hD1
  clear hPc hDc hKc hFc hP1 hK1 hD1
  generalize H1 = H at hP hS ⊢
  have hP : va_P (dC, dI) vwCl [(m0, .inr (1, [.ref h0, .ref b1, .ref b2, .ref b3, .int (nI lim), .int (nI kc), .int (nI nr), .int (nI nf), .int (nI nc)])), (b1, .inl (g1, 400, .inl mr)), (b2, .inl (g2, 400, .inl ch)), (b3, .inl (g3, 64, .inl kp)), (h0, .inr (0, [.ref a1, .ref a2, .ref a3, .int (nI N), .int fa])), (a1, .inl (k1, 400, .inl (pm_nf9 cn))), (a2, .inl (k2, 8000, .inl fl)), (a3, .inl (k3, 16, .inl rt))] H := hP.sub [0, 1, 2, 3, 4, 5, 6, 7] rfl
  have hD : va_D A [(m0, .inr (1, [.ref h0, .ref b1, .ref b2, .ref b3, .int (nI lim), .int (nI kc), .int (nI nr), .int (nI nf), .int (nI nc)])), (b1, .inl (g1, 400, .inl mr)), (b2, .inl (g2, 400, .inl ch)), (b3, .inl (g3, 64, .inl kp)), (h0, .inr (0, [.ref a1, .ref a2, .ref a3, .int (nI N), .int fa])), (a1, .inl (k1, 400, .inl (pm_nf9 cn))), (a2, .inl (k2, 8000, .inl fl)), (a3, .inl (k3, 16, .inl rt))] := hD.sub [0, 1, 2, 3, 4, 5, 6, 7] (by decide) rfl
  obtain rfl : r_1 = nI N := hw.trans (rfl)
  refine lv_icmp_lt (tgt := 16) hx hb dX1_cleanStep_11 (by decide) (fun c_11 => ?_) (fun c_11 => ?_)
  · rw [nI_ltI (by omega) (by omega)] at c_11
    refine lv_aload_n hx hb dX1_cleanStep_16 rfl (lv_at hl 0 rfl) ?_
    refine va_get (D := (dC, dI)) (ci := 1) (v := .int (nI nc)) (C := RX1) (T := TX1) (N := 9) hx hb hts iw_X1 hown hK hP 0 rfl rfl 8 (by decide) (hts _ mf_X1_39) (fun _ h9 => h9) rfl dX1_cleanStep_17 ?_
    refine lv_istore_n (lv' := [(1, .int (nI nc)), (0, .ref m0)]) hx hb dX1_cleanStep_20 rfl hl (by decide) rfl (fun ls hl => ?_)
    refine lv_aload_n hx hb dX1_cleanStep_21 rfl (lv_at hl 1 rfl) ?_
    refine lv_dup hx hb dX1_cleanStep_22 rfl ?_
    refine va_get (D := (dC, dI)) (ci := 1) (v := .int (nI nc)) (C := RX1) (T := TX1) (N := 9) hx hb hts iw_X1 hown hK hP 0 rfl rfl 8 (by decide) (hts _ mf_X1_39) (fun _ h9 => h9) rfl dX1_cleanStep_23 ?_
    refine lv_iconst (v := nI 1) hx hb dX1_cleanStep_26 (by decide +kernel) ?_
    refine lv_iadd hx hb dX1_cleanStep_27 ?_
    refine lv_topi (fun x_2 ex_2 => ?_)
    obtain rfl : x_2 = nI (nc + 1) := ex_2.trans (nI_add _ _)
    refine va_put (D := (dC, dI)) (ci := 1) (v := .int (nI (nc + 1))) (ty := .int) (C := RX1) (T := TX1) (N := 9) hx hb hts iw_X1 tyX1 tyX1_ok nmX1 hown hK hP hD hS 0 rfl rfl 8 (by decide) (hts _ mf_X1_39) (fun _ h9 => h9) rfl (by decide +kernel) (rfl) (rfl) (Nat.le_of_ble_eq_true rfl) dX1_cleanStep_28 (fun H locs hP hD hS => ?_)
    have hP : va_P (dC, dI) vwCl [(m0, .inr (1, [.ref h0, .ref b1, .ref b2, .ref b3, .int (nI lim), .int (nI kc), .int (nI nr), .int (nI nf), .int (nI (nc + 1))])), (b1, .inl (g1, 400, .inl mr)), (b2, .inl (g2, 400, .inl ch)), (b3, .inl (g3, 64, .inl kp)), (h0, .inr (0, [.ref a1, .ref a2, .ref a3, .int (nI N), .int fa])), (a1, .inl (k1, 400, .inl (pm_nf9 cn))), (a2, .inl (k2, 8000, .inl fl)), (a3, .inl (k3, 16, .inl rt))] H := hP
    have hD : va_D A [(m0, .inr (1, [.ref h0, .ref b1, .ref b2, .ref b3, .int (nI lim), .int (nI kc), .int (nI nr), .int (nI nf), .int (nI (nc + 1))])), (b1, .inl (g1, 400, .inl mr)), (b2, .inl (g2, 400, .inl ch)), (b3, .inl (g3, 64, .inl kp)), (h0, .inr (0, [.ref a1, .ref a2, .ref a3, .int (nI N), .int fa])), (a1, .inl (k1, 400, .inl (pm_nf9 cn))), (a2, .inl (k2, 8000, .inl fl)), (a3, .inl (k3, 16, .inl rt))] := hD
    refine lv_aload_n hx hb dX1_cleanStep_31 rfl (lv_at hl 1 rfl) ?_
    refine va_get (D := (dC, dI)) (ci := 1) (v := .ref h0) (C := RX1) (T := TX1) (N := 9) hx hb hts iw_X1 hown hK hP 0 rfl rfl 0 (by decide) (hts _ mf_X1_9) (fun _ h9 => h9) rfl dX1_cleanStep_32 ?_
    refine lv_iload_n hx hb dX1_cleanStep_35 rfl (lv_at hl 0 rfl) ?_
    have hPc := hP.sub (ws' := [(h0, .inr (0, [.ref a1, .ref a2, .ref a3, .int (nI N), .int fa])), (a1, .inl (k1, 400, .inl (pm_nf9 cn))), (a2, .inl (k2, 8000, .inl fl)), (a3, .inl (k3, 16, .inl rt))]) [4, 5, 6, 7] rfl
    have hDc := hD.sub (ws' := [(h0, .inr (0, [.ref a1, .ref a2, .ref a3, .int (nI N), .int fa])), (a1, .inl (k1, 400, .inl (pm_nf9 cn))), (a2, .inl (k2, 8000, .inl fl)), (a3, .inl (k3, 16, .inl rt))]) [4, 5, 6, 7] (by decide) rfl
    have hKc := hK.sub (tys' := [(k1, .int), (k2, .int), (k3, .int)]) [3, 4, 5] rfl
    have hFc := va_free (wc := [(h0, .inr (0, [.ref a1, .ref a2, .ref a3, .int (nI N), .int fa])), (a1, .inl (k1, 400, .inl (pm_nf9 cn))), (a2, .inl (k2, 8000, .inl fl)), (a3, .inl (k3, 16, .inl rt))]) hD hS hA [4, 5, 6, 7] rfl
    refine va_calli (va_runV (As := [.int (nI nc)]) (rest := []) ⟨hx, hb, hml, hown, hts⟩ (c_H_has l dC dI h0 a1 a2 a3 k1 k2 k3 N cn fl rt fa (nI nc) H.size) (cwV 1 hts (gw_V ml_X1_42 mi_X0_has ms_X0_has mn_X0 mc_X0_has) rfl rfl rfl (by decide +kernel) ⟨Nat.le_of_ble_eq_true rfl, Nat.le_of_ble_eq_true rfl⟩) ⟨fun a U g mk q => by obtain ⟨q0, q1, qP, qK, qD⟩ := q; exact ⟨q0, q1, qP, va_K.moved (u := U) (U := U.calling g mk a) (Vm.Alike.refl U.vm) qK, qD⟩, va_recv hKc hPc (ci := 0) (q0 := 0) rfl rfl, fun U hU hW => ⟨rfl, by rw [hU], by rw [hU]; exact hPc, va_K.moved hW.alike hKc, hDc.weaken (fun _ _ _ _ => trivial)⟩⟩ rfl rfl hl.1 rfl (lv_room (Nat.le_of_ble_eq_true rfl)) dX1_cleanStep_36 ⟨Nat.le_of_ble_eq_true rfl, Nat.le_of_ble_eq_true rfl⟩) hS (fun q _ h => hFc q h) hFc (fun r_3 u t H1 locs ht hvm hw hB hz1 hk1 hS => ?_)
    obtain ⟨hP1, hK1, hD1⟩ := hB
    rw [ht] at hP1
    have hK1 := va_K.moved hvm.symm hK1
    obtain ⟨hP, hD⟩ := va_join (wr := [(m0, .inr (1, [.ref h0, .ref b1, .ref b2, .ref b3, .int (nI lim), .int (nI kc), .int (nI nr), .int (nI nf), .int (nI (nc + 1))])), (b1, .inl (g1, 400, .inl mr)), (b2, .inl (g2, 400, .inl ch)), (b3, .inl (g3, 64, .inl kp))]) (w1 := [(h0, .inr (0, [.ref a1, .ref a2, .ref a3, .int (nI N), .int fa])), (a1, .inl (k1, 400, .inl (pm_nf9 cn))), (a2, .inl (k2, 8000, .inl fl)), (a3, .inl (k3, 16, .inl rt))]) hP hD [4, 5, 6, 7] [0, 1, 2, 3] rfl rfl (by decide) (by decide) hk1 hFc hP1 hD1
    clear hPc hDc hKc hFc hP1 hK1 hD1
    generalize H1 = H at hP hS ⊢
    have hP : va_P (dC, dI) vwCl [(m0, .inr (1, [.ref h0, .ref b1, .ref b2, .ref b3, .int (nI lim), .int (nI kc), .int (nI nr), .int (nI nf), .int (nI (nc + 1))])), (b1, .inl (g1, 400, .inl mr)), (b2, .inl (g2, 400, .inl ch)), (b3, .inl (g3, 64, .inl kp)), (h0, .inr (0, [.ref a1, .ref a2, .ref a3, .int (nI N), .int fa])), (a1, .inl (k1, 400, .inl (pm_nf9 cn))), (a2, .inl (k2, 8000, .inl fl)), (a3, .inl (k3, 16, .inl rt))] H := hP.sub [0, 1, 2, 3, 4, 5, 6, 7] rfl
    have hD : va_D A [(m0, .inr (1, [.ref h0, .ref b1, .ref b2, .ref b3, .int (nI lim), .int (nI kc), .int (nI nr), .int (nI nf), .int (nI (nc + 1))])), (b1, .inl (g1, 400, .inl mr)), (b2, .inl (g2, 400, .inl ch)), (b3, .inl (g3, 64, .inl kp)), (h0, .inr (0, [.ref a1, .ref a2, .ref a3, .int (nI N), .int fa])), (a1, .inl (k1, 400, .inl (pm_nf9 cn))), (a2, .inl (k2, 8000, .inl fl)), (a3, .inl (k3, 16, .inl rt))] := hD.sub [0, 1, 2, 3, 4, 5, 6, 7] (by decide) rfl
    rcases pm_tf (pm_has N (nI nc)) with hh_36 | hh_36
    · obtain rfl : r_3 = nI 1 := hw.trans (by rw [hh_36]; rfl)
      refine lv_if_eq (tgt := 72) hx hb dX1_cleanStep_39 (by decide) (fun c_39 => absurd c_39 (by decide +kernel)) (fun c_39 => ?_)
      refine lv_aload_n hx hb dX1_cleanStep_42 rfl (lv_at hl 1 rfl) ?_
      refine va_get (D := (dC, dI)) (ci := 1) (v := .ref b2) (C := RX1) (T := TX1) (N := 9) hx hb hts iw_X1 hown hK hP 0 rfl rfl 2 (by decide) (hts _ mf_X1_19) (fun _ h9 => h9) rfl dX1_cleanStep_43 ?_
      refine lv_iload_n hx hb dX1_cleanStep_46 rfl (lv_at hl 0 rfl) ?_
      refine va_zald hx hb hK hP 2 1 rfl rfl (vp_in_nI (by omega) (by omega)) dX1_cleanStep_47 ?_
      refine lv_topi (fun x_4 ex_4 => ?_)
      rw [nI_clamp (by omega)] at ex_4
      subst ex_4
      refine lv_if_eq (tgt := 72) hx hb dX1_cleanStep_48 (by decide) (fun c_48 => ?_) (fun c_48 => ?_)
      · refine lv_iconst (v := nI 1) hx hb dX1_cleanStep_72 (by decide +kernel) ?_
        exact W.zret (v := nI 1) hx hb hr (by decide +kernel) (fun t ht hW => ⟨⟨nI 1, (mr, ch, kp, lim, kc, nr, nf, nc + 1), rfl, pm_cB c_11 c_48, by rw [ht]; exact hP, va_K.moved hW.alike hK, hD⟩, hS.F ht⟩) hS.2.2 dX1_cleanStep_73
      · refine lv_aload_n hx hb dX1_cleanStep_51 rfl (lv_at hl 1 rfl) ?_
        refine va_get (D := (dC, dI)) (ci := 1) (v := .ref b2) (C := RX1) (T := TX1) (N := 9) hx hb hts iw_X1 hown hK hP 0 rfl rfl 2 (by decide) (hts _ mf_X1_19) (fun _ h9 => h9) rfl dX1_cleanStep_52 ?_
        refine lv_iload_n hx hb dX1_cleanStep_55 rfl (lv_at hl 0 rfl) ?_
        refine lv_iconst (v := nI 0) hx hb dX1_cleanStep_56 (by decide +kernel) ?_
        refine va_zast hx hb hK hP hD hS 2 1 rfl rfl (vp_in_nI (by omega) (by omega)) dX1_cleanStep_57 (fun H locs hP hD hS => ?_)
        rw [nI_clamp (by omega)] at hP hD
        rw [pm_z0] at hP hD
        have hP : va_P (dC, dI) vwCl [(m0, .inr (1, [.ref h0, .ref b1, .ref b2, .ref b3, .int (nI lim), .int (nI kc), .int (nI nr), .int (nI nf), .int (nI (nc + 1))])), (b1, .inl (g1, 400, .inl mr)), (b2, .inl (g2, 400, .inl (upd ch nc 0))), (b3, .inl (g3, 64, .inl kp)), (h0, .inr (0, [.ref a1, .ref a2, .ref a3, .int (nI N), .int fa])), (a1, .inl (k1, 400, .inl (pm_nf9 cn))), (a2, .inl (k2, 8000, .inl fl)), (a3, .inl (k3, 16, .inl rt))] H := hP
        have hD : va_D A [(m0, .inr (1, [.ref h0, .ref b1, .ref b2, .ref b3, .int (nI lim), .int (nI kc), .int (nI nr), .int (nI nf), .int (nI (nc + 1))])), (b1, .inl (g1, 400, .inl mr)), (b2, .inl (g2, 400, .inl (upd ch nc 0))), (b3, .inl (g3, 64, .inl kp)), (h0, .inr (0, [.ref a1, .ref a2, .ref a3, .int (nI N), .int fa])), (a1, .inl (k1, 400, .inl (pm_nf9 cn))), (a2, .inl (k2, 8000, .inl fl)), (a3, .inl (k3, 16, .inl rt))] := hD
        refine lv_aload_n hx hb dX1_cleanStep_58 rfl (lv_at hl 1 rfl) ?_
        refine va_get (D := (dC, dI)) (ci := 1) (v := .ref b1) (C := RX1) (T := TX1) (N := 9) hx hb hts iw_X1 hown hK hP 0 rfl rfl 1 (by decide) (hts _ mf_X1_15) (fun _ h9 => h9) rfl dX1_cleanStep_59 ?_
        refine lv_iload_n hx hb dX1_cleanStep_62 rfl (lv_at hl 0 rfl) ?_
        refine va_zald hx hb hK hP 1 0 rfl rfl (vp_in_nI (by omega) (by omega)) dX1_cleanStep_63 ?_
        refine lv_topi (fun x_5 ex_5 => ?_)
        rw [nI_clamp (by omega)] at ex_5
        subst ex_5
        refine lv_if_eq (tgt := 72) hx hb dX1_cleanStep_64 (by decide) (fun c_64 => ?_) (fun c_64 => ?_)
        · refine lv_iconst (v := nI 1) hx hb dX1_cleanStep_72 (by decide +kernel) ?_
          exact W.zret (v := nI 1) hx hb hr (by decide +kernel) (fun t ht hW => ⟨⟨nI 1, (mr, upd ch nc 0, kp, lim, kc, nr, nf, nc + 1), rfl, pm_cC c_11 c_48 c_64, by rw [ht]; exact hP, va_K.moved hW.alike hK, hD⟩, hS.F ht⟩) hS.2.2 dX1_cleanStep_73
        · refine lv_aload_n hx hb dX1_cleanStep_67 rfl (lv_at hl 1 rfl) ?_
          refine lv_iload_n hx hb dX1_cleanStep_68 rfl (lv_at hl 0 rfl) ?_
          have hPc := hP.sub (ws' := [(m0, .inr (1, [.ref h0, .ref b1, .ref b2, .ref b3, .int (nI lim), .int (nI kc), .int (nI nr), .int (nI nf), .int (nI (nc + 1))])), (b1, .inl (g1, 400, .inl mr)), (b2, .inl (g2, 400, .inl (upd ch nc 0))), (b3, .inl (g3, 64, .inl kp)), (h0, .inr (0, [.ref a1, .ref a2, .ref a3, .int (nI N), .int fa])), (a1, .inl (k1, 400, .inl (pm_nf9 cn))), (a2, .inl (k2, 8000, .inl fl)), (a3, .inl (k3, 16, .inl rt))]) [0, 1, 2, 3, 4, 5, 6, 7] rfl
          have hDc := hD.sub (ws' := [(m0, .inr (1, [.ref h0, .ref b1, .ref b2, .ref b3, .int (nI lim), .int (nI kc), .int (nI nr), .int (nI nf), .int (nI (nc + 1))])), (b1, .inl (g1, 400, .inl mr)), (b2, .inl (g2, 400, .inl (upd ch nc 0))), (b3, .inl (g3, 64, .inl kp)), (h0, .inr (0, [.ref a1, .ref a2, .ref a3, .int (nI N), .int fa])), (a1, .inl (k1, 400, .inl (pm_nf9 cn))), (a2, .inl (k2, 8000, .inl fl)), (a3, .inl (k3, 16, .inl rt))]) [0, 1, 2, 3, 4, 5, 6, 7] (by decide) rfl
          have hKc := hK.sub (tys' := [(g1, .boolean), (g2, .boolean), (g3, .int), (k1, .int), (k2, .int), (k3, .int)]) [0, 1, 2, 3, 4, 5] rfl
          have hFc := va_free (wc := [(m0, .inr (1, [.ref h0, .ref b1, .ref b2, .ref b3, .int (nI lim), .int (nI kc), .int (nI nr), .int (nI nf), .int (nI (nc + 1))])), (b1, .inl (g1, 400, .inl mr)), (b2, .inl (g2, 400, .inl (upd ch nc 0))), (b3, .inl (g3, 64, .inl kp)), (h0, .inr (0, [.ref a1, .ref a2, .ref a3, .int (nI N), .int fa])), (a1, .inl (k1, 400, .inl (pm_nf9 cn))), (a2, .inl (k2, 8000, .inl fl)), (a3, .inl (k3, 16, .inl rt))]) hD hS hA [0, 1, 2, 3, 4, 5, 6, 7] rfl
          refine va_callv (va_runV (As := [.int (nI nc)]) (rest := []) ⟨hx, hb, hml, hown, hts⟩ (c_M_markFieldsOf l dC dI m0 b1 b2 b3 g1 g2 g3 mr (upd ch nc 0) kp lim kc nr nf (nc + 1) h0 a1 a2 a3 k1 k2 k3 N cn fl rt fa (nI nc) H.size (hlim) (by omega) (by omega) (hN) (hc)) (cwV 1 hts (gw_V ml_X1_64 mi_X1_markFieldsOf ms_X1_markFieldsOf mn_X1 mc_X1_markFieldsOf) rfl rfl rfl (by decide +kernel) ⟨Nat.le_of_ble_eq_true rfl, Nat.le_of_ble_eq_true rfl⟩) ⟨fun a U g mk q => by obtain ⟨q0, q1, qP, qK, qD⟩ := q; exact ⟨q0, q1, qP, va_K.moved (u := U) (U := U.calling g mk a) (Vm.Alike.refl U.vm) qK, qD⟩, va_recv hKc hPc (ci := 1) (q0 := 0) rfl rfl, fun U hU hW => ⟨rfl, by rw [hU], by rw [hU]; exact hPc, va_K.moved hW.alike hKc, hDc.weaken (fun _ _ _ _ => trivial)⟩⟩ rfl rfl hl.1 rfl (lv_room (Nat.le_of_ble_eq_true rfl)) dX1_cleanStep_69 ⟨Nat.le_of_ble_eq_true rfl, Nat.le_of_ble_eq_true rfl⟩) hS (fun q _ h => hFc q h) hFc (fun u t H1 locs ht hvm hw hB hz1 hk1 hS => ?_)
          obtain ⟨mk9, kp9, kc9, nf9⟩ := u
          obtain ⟨hP1, hK1, hD1⟩ := hB
          rw [ht] at hP1
          have hK1 := va_K.moved hvm.symm hK1
          obtain ⟨hP, hD⟩ := va_join (wr := []) (w1 := [(m0, .inr (1, [.ref h0, .ref b1, .ref b2, .ref b3, .int (nI lim), .int (nI kc9), .int (nI nr), .int (nI nf9), .int (nI (nc + 1))])), (b1, .inl (g1, 400, .inl mk9)), (b2, .inl (g2, 400, .inl (upd ch nc 0))), (b3, .inl (g3, 64, .inl kp9)), (h0, .inr (0, [.ref a1, .ref a2, .ref a3, .int (nI N), .int fa])), (a1, .inl (k1, 400, .inl (pm_nf9 cn))), (a2, .inl (k2, 8000, .inl fl)), (a3, .inl (k3, 16, .inl rt))]) hP hD [0, 1, 2, 3, 4, 5, 6, 7] [] rfl rfl (by decide) (by decide) hk1 hFc hP1 hD1
          clear hPc hDc hKc hFc hP1 hK1 hD1
          generalize H1 = H at hP hS ⊢
          have hP : va_P (dC, dI) vwCl [(m0, .inr (1, [.ref h0, .ref b1, .ref b2, .ref b3, .int (nI lim), .int (nI kc9), .int (nI nr), .int (nI nf9), .int (nI (nc + 1))])), (b1, .inl (g1, 400, .inl mk9)), (b2, .inl (g2, 400, .inl (upd ch nc 0))), (b3, .inl (g3, 64, .inl kp9)), (h0, .inr (0, [.ref a1, .ref a2, .ref a3, .int (nI N), .int fa])), (a1, .inl (k1, 400, .inl (pm_nf9 cn))), (a2, .inl (k2, 8000, .inl fl)), (a3, .inl (k3, 16, .inl rt))] H := hP.sub [0, 1, 2, 3, 4, 5, 6, 7] rfl
          have hD : va_D A [(m0, .inr (1, [.ref h0, .ref b1, .ref b2, .ref b3, .int (nI lim), .int (nI kc9), .int (nI nr), .int (nI nf9), .int (nI (nc + 1))])), (b1, .inl (g1, 400, .inl mk9)), (b2, .inl (g2, 400, .inl (upd ch nc 0))), (b3, .inl (g3, 64, .inl kp9)), (h0, .inr (0, [.ref a1, .ref a2, .ref a3, .int (nI N), .int fa])), (a1, .inl (k1, 400, .inl (pm_nf9 cn))), (a2, .inl (k2, 8000, .inl fl)), (a3, .inl (k3, 16, .inl rt))] := hD.sub [0, 1, 2, 3, 4, 5, 6, 7] (by decide) rfl
          refine lv_iconst (v := nI 1) hx hb dX1_cleanStep_72 (by decide +kernel) ?_
          exact W.zret (v := nI 1) hx hb hr (by decide +kernel) (fun t ht hW => ⟨⟨nI 1, (mk9, upd ch nc 0, kp9, lim, kc9, nr, nf9, nc + 1), rfl, pm_cD c_11 c_48 c_64 hw, by rw [ht]; exact hP, va_K.moved hW.alike hK, hD⟩, hS.F ht⟩) hS.2.2 dX1_cleanStep_73
    · exact absurd (pm_has_nI (by omega) c_11) (by rw [hh_36]; decide)
  · rw [nI_ltI (by omega) (by omega)] at c_11
    refine lv_iconst (v := nI 0) hx hb dX1_cleanStep_14 (by decide +kernel) ?_
    exact W.zret (v := nI 0) hx hb hr (by decide +kernel) (fun t ht hW => ⟨⟨nI 0, (mr, ch, kp, lim, kc, nr, nf, nc), rfl, pm_cA c_11, by rw [ht]; exact hP, va_K.moved hW.alike hK, hD⟩, hS.F ht⟩) hS.2.2 dX1_cleanStep_15
end
section
set_option maxHeartbeats 4000000 in
set_option maxRecDepth 100000 in
/-- Marker.doMarkSteps(n) -/
theorem c_M_doMarkSteps (l : Launch) (dC : Nat → ClassId) (dI : Nat → Nat → Nat) (m0 b1 b2 b3 : Nat) (g1 g2 g3 : ClassId) (mr ch kp : Nat → Int32) (lim kc nr nf nc : Nat) (h0 a1 a2 a3 : Nat) (k1 k2 k3 : ClassId) (N : Nat) (cn : Nat → Nat) (fl rt : Nat → Int32) (fa : Int32) (n : Nat) (sz : Nat) (hN : N ≤ 400) (hc : ∀ k, k < N → cn k ≤ 20) (hI : pm_Inv N cn fl (mr, ch, kp, lim, kc, nr, nf, nc)) (hn : n ≤ 5000) : Met l yX1_doMarkSteps wsX1_doMarkSteps ({ frames := 5, cells := 0, slots := 0, locals := 109 }) (va_Pc [.ref m0, .int (nI n)] (fun U => U.heap.size = sz ∧ va_P (dC, dI) vwCl [(m0, .inr (1, [.ref h0, .ref b1, .ref b2, .ref b3, .int (nI lim), .int (nI kc), .int (nI nr), .int (nI nf), .int (nI nc)])), (b1, .inl (g1, 400, .inl mr)), (b2, .inl (g2, 400, .inl ch)), (b3, .inl (g3, 64, .inl kp)), (h0, .inr (0, [.ref a1, .ref a2, .ref a3, .int (nI N), .int fa])), (a1, .inl (k1, 400, .inl (pm_nf9 cn))), (a2, .inl (k2, 8000, .inl fl)), (a3, .inl (k3, 16, .inl rt))] U.heap ∧ va_K (dC, dI) vwCl [(g1, .boolean), (g2, .boolean), (g3, .int), (k1, .int), (k2, .int), (k3, .int)] U ∧ va_D (fun _ => True) [(m0, .inr (1, [.ref h0, .ref b1, .ref b2, .ref b3, .int (nI lim), .int (nI kc), .int (nI nr), .int (nI nf), .int (nI nc)])), (b1, .inl (g1, 400, .inl mr)), (b2, .inl (g2, 400, .inl ch)), (b3, .inl (g3, 64, .inl kp)), (h0, .inr (0, [.ref a1, .ref a2, .ref a3, .int (nI N), .int fa])), (a1, .inl (k1, 400, .inl (pm_nf9 cn))), (a2, .inl (k2, 8000, .inl fl)), (a3, .inl (k3, 16, .inl rt))])) (va_Qv (fun (u : pm_M) => u = pm_run (pm_ms N cn fl rt) n (mr, ch, kp, lim, kc, nr, nf, nc)) (fun (u : pm_M) (t : State) => va_P (dC, dI) vwCl [(m0, .inr (1, [.ref h0, .ref b1, .ref b2, .ref b3, .int (nI (u.2.2.2.1)), .int (nI (u.2.2.2.2.1)), .int (nI (u.2.2.2.2.2.1)), .int (nI (u.2.2.2.2.2.2.1)), .int (nI (u.2.2.2.2.2.2.2))])), (b1, .inl (g1, 400, .inl (u.1))), (b2, .inl (g2, 400, .inl (u.2.1))), (b3, .inl (g3, 64, .inl (u.2.2.1))), (h0, .inr (0, [.ref a1, .ref a2, .ref a3, .int (nI N), .int fa])), (a1, .inl (k1, 400, .inl (pm_nf9 cn))), (a2, .inl (k2, 8000, .inl fl)), (a3, .inl (k3, 16, .inl rt))] t.heap ∧ va_K (dC, dI) vwCl [(g1, .boolean), (g2, .boolean), (g3, .int), (k1, .int), (k2, .int), (k3, .int)] t ∧ va_D (va_A [(m0, .inr (1, [.ref h0, .ref b1, .ref b2, .ref b3, .int (nI lim), .int (nI kc), .int (nI nr), .int (nI nf), .int (nI nc)])), (b1, .inl (g1, 400, .inl mr)), (b2, .inl (g2, 400, .inl ch)), (b3, .inl (g3, 64, .inl kp)), (h0, .inr (0, [.ref a1, .ref a2, .ref a3, .int (nI N), .int fa])), (a1, .inl (k1, 400, .inl (pm_nf9 cn))), (a2, .inl (k2, 8000, .inl fl)), (a3, .inl (k3, 16, .inl rt))] sz) [(m0, .inr (1, [.ref h0, .ref b1, .ref b2, .ref b3, .int (nI (u.2.2.2.1)), .int (nI (u.2.2.2.2.1)), .int (nI (u.2.2.2.2.2.1)), .int (nI (u.2.2.2.2.2.2.1)), .int (nI (u.2.2.2.2.2.2.2))])), (b1, .inl (g1, 400, .inl (u.1))), (b2, .inl (g2, 400, .inl (u.2.1))), (b3, .inl (g3, 64, .inl (u.2.2.1))), (h0, .inr (0, [.ref a1, .ref a2, .ref a3, .int (nI N), .int fa])), (a1, .inl (k1, 400, .inl (pm_nf9 cn))), (a2, .inl (k2, 8000, .inl fl)), (a3, .inl (k3, 16, .inl rt))]) (va_A [(m0, .inr (1, [.ref h0, .ref b1, .ref b2, .ref b3, .int (nI lim), .int (nI kc), .int (nI nr), .int (nI nf), .int (nI nc)])), (b1, .inl (g1, 400, .inl mr)), (b2, .inl (g2, 400, .inl ch)), (b3, .inl (g3, 64, .inl kp)), (h0, .inr (0, [.ref a1, .ref a2, .ref a3, .int (nI N), .int fa])), (a1, .inl (k1, 400, .inl (pm_nf9 cn))), (a2, .inl (k2, 8000, .inl fl)), (a3, .inl (k3, 16, .inl rt))] sz)) 0 0 (va_A [(m0, .inr (1, [.ref h0, .ref b1, .ref b2, .ref b3, .int (nI lim), .int (nI kc), .int (nI nr), .int (nI nf), .int (nI nc)])), (b1, .inl (g1, 400, .inl mr)), (b2, .inl (g2, 400, .inl ch)), (b3, .inl (g3, 64, .inl kp)), (h0, .inr (0, [.ref a1, .ref a2, .ref a3, .int (nI N), .int fa])), (a1, .inl (k1, 400, .inl (pm_nf9 cn))), (a2, .inl (k2, 8000, .inl fl)), (a3, .inl (k3, 16, .inl rt))] sz) := by
  refine Met.ofW (cc := cX1_doMarkSteps) (maxL := 4) (ret := (none)) (by decide) rfl ?_
  intro p e s m args below meth c s₁ B hml hv
  obtain ⟨rfl, hsz, hP, hK, hD0⟩ := hv
  have hx := B.exec
  have hb := B.bytes
  have hr := B.returns
  have hts : ∀ w ∈ gw, w.before _ s = true := fun w h => atoms_spec (ws := wsX1_doMarkSteps) B.pre w (List.mem_cons_of_mem _ h)
  have hown : s.vm.findClass RX1 = some m.cls := findClass_of_methodNamed B.named
  have hlocks := B.notSynchronized
  subst hsz
  have hD := hD0.self (sz := s.heap.size)
  generalize hAe : va_A [(m0, .inr (1, [.ref h0, .ref b1, .ref b2, .ref b3, .int (nI lim), .int (nI kc), .int (nI nr), .int (nI nf), .int (nI nc)])), (b1, .inl (g1, 400, .inl mr)), (b2, .inl (g2, 400, .inl ch)), (b3, .inl (g3, 64, .inl kp)), (h0, .inr (0, [.ref a1, .ref a2, .ref a3, .int (nI N), .int fa])), (a1, .inl (k1, 400, .inl (pm_nf9 cn))), (a2, .inl (k2, 8000, .inl fl)), (a3, .inl (k3, 16, .inl rt))] s.heap.size = A at hD ⊢
  have hA : ∀ q : Nat, s.heap.size ≤ q → A q := fun q h => by rw [← hAe]; exact Or.inr h
  have hP : va_P (dC, dI) vwCl [(m0, .inr (1, [.ref h0, .ref b1, .ref b2, .ref b3, .int (nI lim), .int (nI kc), .int (nI nr), .int (nI nf), .int (nI nc)])), (b1, .inl (g1, 400, .inl mr)), (b2, .inl (g2, 400, .inl ch)), (b3, .inl (g3, 64, .inl kp)), (h0, .inr (0, [.ref a1, .ref a2, .ref a3, .int (nI N), .int fa])), (a1, .inl (k1, 400, .inl (pm_nf9 cn))), (a2, .inl (k2, 8000, .inl fl)), (a3, .inl (k3, 16, .inl rt))] s.heap := hP
  have hl := lv_entry ([.ref m0, .int (nI n)]) (n := 4) (Nat.le_of_ble_eq_true rfl)
  rw [lg_entry_eq]
  generalize (lg_sl ([.ref m0, .int (nI n)]) ++ List.replicate (4 - (lg_sl ([.ref m0, .int (nI n)])).length) Slot.unset).toArray = ls at hl ⊢
  have hl : lv_has ls 4 [(0, .ref m0), (1, .int (nI n))] := hl
  obtain ⟨H, hH⟩ : ∃ H : Heap, H = s.heap := ⟨_, rfl⟩
  rw [← hH]
  rw [← hH] at hP
  have hS : va_S A s.heap H [] := by rw [hH]; exact va_S.rf
  clear hH
  refine lv_iconst (v := nI 1) hx hb dX1_doMarkSteps_0 (by decide +kernel) ?_
  refine lv_istore_n (lv' := [(2, .int (nI 1)), (0, .ref m0), (1, .int (nI n))]) hx hb dX1_doMarkSteps_1 rfl hl (by decide) rfl (fun ls hl => ?_)
  refine lv_iconst (v := nI 0) hx hb dX1_doMarkSteps_2 (by decide +kernel) ?_
  refine lv_istore_n (lv' := [(3, .int (nI 0)), (2, .int (nI 1)), (0, .ref m0), (1, .int (nI n))]) hx hb dX1_doMarkSteps_3 rfl hl (by decide) rfl (fun ls hl => ?_)
  have hl : lv_has ls 4 [(3, .int (nI 0)), (2, .int (pm_b true)), (0, .ref m0), (1, .int (nI n))] := hl
  refine lp_loop (σ := Nat × Bool × (Nat → Int32) × (Nat → Int32) × (Nat → Int32) × Nat × Nat × Nat × Nat × Nat) (head := 4) (fun x H locs ls => match x with | (i, b, mk1, ch1, kp1, lim1, kc1, nr1, nf1, nc1) => i ≤ n ∧ pm_Inv N cn fl (mk1, ch1, kp1, lim1, kc1, nr1, nf1, nc1) ∧ pm_tg (pm_ms N cn fl rt) b (n - i) (mk1, ch1, kp1, lim1, kc1, nr1, nf1, nc1) = pm_run (pm_ms N cn fl rt) n (mr, ch, kp, lim, kc, nr, nf, nc) ∧ va_P (dC, dI) vwCl [(m0, .inr (1, [.ref h0, .ref b1, .ref b2, .ref b3, .int (nI lim1), .int (nI kc1), .int (nI nr1), .int (nI nf1), .int (nI nc1)])), (b1, .inl (g1, 400, .inl mk1)), (b2, .inl (g2, 400, .inl ch1)), (b3, .inl (g3, 64, .inl kp1)), (h0, .inr (0, [.ref a1, .ref a2, .ref a3, .int (nI N), .int fa])), (a1, .inl (k1, 400, .inl (pm_nf9 cn))), (a2, .inl (k2, 8000, .inl fl)), (a3, .inl (k3, 16, .inl rt))] H ∧ va_D A [(m0, .inr (1, [.ref h0, .ref b1, .ref b2, .ref b3, .int (nI lim1), .int (nI kc1), .int (nI nr1), .int (nI nf1), .int (nI nc1)])), (b1, .inl (g1, 400, .inl mk1)), (b2, .inl (g2, 400, .inl ch1)), (b3, .inl (g3, 64, .inl kp1)), (h0, .inr (0, [.ref a1, .ref a2, .ref a3, .int (nI N), .int fa])), (a1, .inl (k1, 400, .inl (pm_nf9 cn))), (a2, .inl (k2, 8000, .inl fl)), (a3, .inl (k3, 16, .inl rt))] ∧ va_S A s.heap H locs ∧ lv_has ls 4 [(3, .int (nI i)), (2, .int (pm_b b)), (1, .int (nI n)), (0, .ref m0)]) (fun x => match x with | (i, b, mk1, ch1, kp1, lim1, kc1, nr1, nf1, nc1) => n - i) ?_ (0, true, mr, ch, kp, lim, kc, nr, nf, nc) _ _ _ ⟨Nat.zero_le _, hI, rfl, hP, hD, hS, lv_sub hl [0, 1, 3, 2] rfl⟩
  intro x H locs ls hI ih
  obtain ⟨i, b, mk1, ch1, kp1, lim1, kc1, nr1, nf1, nc1⟩ := x
  obtain ⟨hi, hI1, hT, hP, hD, hS, hl⟩ := hI
  dsimp only at ih
  refine lv_iload_n hx hb dX1_doMarkSteps_4 rfl (lv_at hl 0 rfl) ?_
  refine lv_iload_n hx hb dX1_doMarkSteps_5 rfl (lv_at hl 2 rfl) ?_
  refine lv_icmp_ge (tgt := 24) hx hb dX1_doMarkSteps_6 (by decide) (fun c_6 => ?_) (fun c_6 => ?_)
  · rw [nI_leI (by omega) (by omega)] at c_6
    exact W.vret hx hb hr (fun t ht hW => ⟨⟨(mk1, ch1, kp1, lim1, kc1, nr1, nf1, nc1), rfl, pm_tg0 hT (by omega), by rw [ht]; exact hP, va_K.moved hW.alike hK, hD⟩, hS.F ht⟩) hS.2.2 dX1_doMarkSteps_24
  · rw [nI_leI (by omega) (by omega)] at c_6
    cases b with
    | true =>
      have hl : lv_has ls 4 [(3, .int (nI i)), (2, .int (nI 1)), (1, .int (nI n)), (0, .ref m0)] := hl
      refine lv_iload_n hx hb dX1_doMarkSteps_9 rfl (lv_at hl 1 rfl) ?_
      refine lv_if_eq (tgt := 24) hx hb dX1_doMarkSteps_10 (by decide) (fun c_10 => absurd c_10 (by decide +kernel)) (fun c_10 => ?_)
      refine lv_aload_n hx hb dX1_doMarkSteps_13 rfl (lv_at hl 3 rfl) ?_
      have hPc := hP.sub (ws' := [(m0, .inr (1, [.ref h0, .ref b1, .ref b2, .ref b3, .int (nI lim1), .int (nI kc1), .int (nI nr1), .int (nI nf1), .int (nI nc1)])), (b1, .inl (g1, 400, .inl mk1)), (b2, .inl (g2, 400, .inl ch1)), (b3, .inl (g3, 64, .inl kp1)), (h0, .inr (0, [.ref a1, .ref a2, .ref a3, .int (nI N), .int fa])), (a1, .inl (k1, 400, .inl (pm_nf9 cn))), (a2, .inl (k2, 8000, .inl fl)), (a3, .inl (k3, 16, .inl rt))]) [0, 1, 2, 3, 4, 5, 6, 7] rfl
      have hDc := hD.sub (ws' := [(m0, .inr (1, [.ref h0, .ref b1, .ref b2, .ref b3, .int (nI lim1), .int (nI kc1), .int (nI nr1), .int (nI nf1), .int (nI nc1)])), (b1, .inl (g1, 400, .inl mk1)), (b2, .inl (g2, 400, .inl ch1)), (b3, .inl (g3, 64, .inl kp1)), (h0, .inr (0, [.ref a1, .ref a2, .ref a3, .int (nI N), .int fa])), (a1, .inl (k1, 400, .inl (pm_nf9 cn))), (a2, .inl (k2, 8000, .inl fl)), (a3, .inl (k3, 16, .inl rt))]) [0, 1, 2, 3, 4, 5, 6, 7] (by decide) rfl
      have hKc := hK.sub (tys' := [(g1, .boolean), (g2, .boolean), (g3, .int), (k1, .int), (k2, .int), (k3, .int)]) [0, 1, 2, 3, 4, 5] rfl
      have hFc := va_free (wc := [(m0, .inr (1, [.ref h0, .ref b1, .ref b2, .ref b3, .int (nI lim1), .int (nI kc1), .int (nI nr1), .int (nI nf1), .int (nI nc1)])), (b1, .inl (g1, 400, .inl mk1)), (b2, .inl (g2, 400, .inl ch1)), (b3, .inl (g3, 64, .inl kp1)), (h0, .inr (0, [.ref a1, .ref a2, .ref a3, .int (nI N), .int fa])), (a1, .inl (k1, 400, .inl (pm_nf9 cn))), (a2, .inl (k2, 8000, .inl fl)), (a3, .inl (k3, 16, .inl rt))]) hD hS hA [0, 1, 2, 3, 4, 5, 6, 7] rfl
      refine va_calli (va_runV (As := []) (rest := []) ⟨hx, hb, hml, hown, hts⟩ (c_M_markStep l dC dI m0 b1 b2 b3 g1 g2 g3 mk1 ch1 kp1 lim1 kc1 nr1 nf1 nc1 h0 a1 a2 a3 k1 k2 k3 N cn fl rt fa H.size (hN) (hc) (hI1.1.1) (hI1.1.2.1) (hI1.1.2.2.1) (hI1.1.2.2.2.1) (hI1.1.2.2.2.2)) (cwV 0 hts (gw_V ml_X1_48 mi_X1_markStep ms_X1_markStep mn_X1 mc_X1_markStep) rfl rfl rfl (by decide +kernel) ⟨Nat.le_of_ble_eq_true rfl, Nat.le_of_ble_eq_true rfl⟩) ⟨fun a U g mk q => by obtain ⟨q0, q1, qP, qK, qD⟩ := q; exact ⟨q0, q1, qP, va_K.moved (u := U) (U := U.calling g mk a) (Vm.Alike.refl U.vm) qK, qD⟩, va_recv hKc hPc (ci := 1) (q0 := 0) rfl rfl, fun U hU hW => ⟨rfl, by rw [hU], by rw [hU]; exact hPc, va_K.moved hW.alike hKc, hDc.weaken (fun _ _ _ _ => trivial)⟩⟩ rfl rfl hl.1 rfl (lv_room (Nat.le_of_ble_eq_true rfl)) dX1_doMarkSteps_14 ⟨Nat.le_of_ble_eq_true rfl, Nat.le_of_ble_eq_true rfl⟩) hS (fun q _ h => hFc q h) hFc (fun r_1 u t H1 locs ht hvm hw hB hz1 hk1 hS => ?_)
      obtain ⟨mk2, ch2, kp2, lim2, kc2, nr2, nf2, nc2⟩ := u
      obtain ⟨hP1, hK1, hD1⟩ := hB
      rw [ht] at hP1
      have hK1 := va_K.moved hvm.symm hK1
      obtain ⟨hP, hD⟩ := va_join (wr := []) (w1 := [(m0, .inr (1, [.ref h0, .ref b1, .ref b2, .ref b3, .int (nI lim2), .int (nI kc2), .int (nI nr2), .int (nI nf2), .int (nI nc2)])), (b1, .inl (g1, 400, .inl mk2)), (b2, .inl (g2, 400, .inl ch2)), (b3, .inl (g3, 64, .inl kp2)), (h0, .inr (0, [.ref a1, .ref a2, .ref a3, .int (nI N), .int fa])), (a1, .inl (k1, 400, .inl (pm_nf9 cn))), (a2, .inl (k2, 8000, .inl fl)), (a3, .inl (k3, 16, .inl rt))]) hP hD [0, 1, 2, 3, 4, 5, 6, 7] [] rfl rfl (by decide) (by decide) hk1 hFc hP1 hD1
      clear hPc hDc hKc hFc hP1 hK1 hD1
      generalize H1 = H at hP hS ⊢
      have hP : va_P (dC, dI) vwCl [(m0, .inr (1, [.ref h0, .ref b1, .ref b2, .ref b3, .int (nI lim2), .int (nI kc2), .int (nI nr2), .int (nI nf2), .int (nI nc2)])), (b1, .inl (g1, 400, .inl mk2)), (b2, .inl (g2, 400, .inl ch2)), (b3, .inl (g3, 64, .inl kp2)), (h0, .inr (0, [.ref a1, .ref a2, .ref a3, .int (nI N), .int fa])), (a1, .inl (k1, 400, .inl (pm_nf9 cn))), (a2, .inl (k2, 8000, .inl fl)), (a3, .inl (k3, 16, .inl rt))] H := hP.sub [0, 1, 2, 3, 4, 5, 6, 7] rfl
      have hD : va_D A [(m0, .inr (1, [.ref h0, .ref b1, .ref b2, .ref b3, .int (nI lim2), .int (nI kc2), .int (nI nr2), .int (nI nf2), .int (nI nc2)])), (b1, .inl (g1, 400, .inl mk2)), (b2, .inl (g2, 400, .inl ch2)), (b3, .inl (g3, 64, .inl kp2)), (h0, .inr (0, [.ref a1, .ref a2, .ref a3, .int (nI N), .int fa])), (a1, .inl (k1, 400, .inl (pm_nf9 cn))), (a2, .inl (k2, 8000, .inl fl)), (a3, .inl (k3, 16, .inl rt))] := hD.sub [0, 1, 2, 3, 4, 5, 6, 7] (by decide) rfl
      obtain ⟨rfl, hw2⟩ := hw
      refine lv_istore_n (lv' := [(2, .int (pm_b (pm_ms N cn fl rt (mk1, ch1, kp1, lim1, kc1, nr1, nf1, nc1)).1)), (3, .int (nI i)), (1, .int (nI n)), (0, .ref m0)]) hx hb dX1_doMarkSteps_17 rfl hl (by decide) rfl (fun ls hl => ?_)
      refine lv_iinc (v := nI (i + 1)) (lv' := [(3, .int (nI (i + 1))), (2, .int (pm_b (pm_ms N cn fl rt (mk1, ch1, kp1, lim1, kc1, nr1, nf1, nc1)).1)), (1, .int (nI n)), (0, .ref m0)]) hx hb dX1_doMarkSteps_18 hl (k := 1) rfl (nI_1 _) (by decide) rfl (fun ls hl => ?_)
      refine lv_goto (tgt := 4) hx hb dX1_doMarkSteps_21 (by decide) ?_
      exact ih (i + 1, (pm_ms N cn fl rt (mk1, ch1, kp1, lim1, kc1, nr1, nf1, nc1)).1, mk2, ch2, kp2, lim2, kc2, nr2, nf2, nc2) _ _ _ ⟨by omega, by rw [hw2]; exact (pm_ms_ok (rt := rt) hN hI1).1, by rw [hw2]; exact (pm_run_s (by omega)).trans hT, hP, hD, hS, lv_sub hl [0, 1, 2, 3] rfl⟩ (by omega)
    | false =>
      have hl : lv_has ls 4 [(3, .int (nI i)), (2, .int (nI 0)), (1, .int (nI n)), (0, .ref m0)] := hl
      refine lv_iload_n hx hb dX1_doMarkSteps_9 rfl (lv_at hl 1 rfl) ?_
      refine lv_if_eq (tgt := 24) hx hb dX1_doMarkSteps_10 (by decide) (fun c_10 => ?_) (fun c_10 => absurd c_10 (by decide +kernel))
      exact W.vret hx hb hr (fun t ht hW => ⟨⟨(mk1, ch1, kp1, lim1, kc1, nr1, nf1, nc1), rfl, hT, by rw [ht]; exact hP, va_K.moved hW.alike hK, hD⟩, hS.F ht⟩) hS.2.2 dX1_doMarkSteps_24

set_option maxHeartbeats 4000000 in
set_option maxRecDepth 100000 in
/-- Marker.doCleanSteps(n) -/
theorem c_M_doCleanSteps (l : Launch) (dC : Nat → ClassId) (dI : Nat → Nat → Nat) (m0 b1 b2 b3 : Nat) (g1 g2 g3 : ClassId) (mr ch kp : Nat → Int32) (lim kc nr nf nc : Nat) (h0 a1 a2 a3 : Nat) (k1 k2 k3 : ClassId) (N : Nat) (cn : Nat → Nat) (fl rt : Nat → Int32) (fa : Int32) (n : Nat) (sz : Nat) (hN : N ≤ 400) (hc : ∀ k, k < N → cn k ≤ 20) (hI : pm_Inv N cn fl (mr, ch, kp, lim, kc, nr, nf, nc)) (hn : n ≤ 5000) : Met l yX1_doCleanSteps wsX1_doCleanSteps ({ frames := 5, cells := 0, slots := 0, locals := 109 }) (va_Pc [.ref m0, .int (nI n)] (fun U => U.heap.size = sz ∧ va_P (dC, dI) vwCl [(m0, .inr (1, [.ref h0, .ref b1, .ref b2, .ref b3, .int (nI lim), .int (nI kc), .int (nI nr), .int (nI nf), .int (nI nc)])), (b1, .inl (g1, 400, .inl mr)), (b2, .inl (g2, 400, .inl ch)), (b3, .inl (g3, 64, .inl kp)), (h0, .inr (0, [.ref a1, .ref a2, .ref a3, .int (nI N), .int fa])), (a1, .inl (k1, 400, .inl (pm_nf9 cn))), (a2, .inl (k2, 8000, .inl fl)), (a3, .inl (k3, 16, .inl rt))] U.heap ∧ va_K (dC, dI) vwCl [(g1, .boolean), (g2, .boolean), (g3, .int), (k1, .int), (k2, .int), (k3, .int)] U ∧ va_D (fun _ => True) [(m0, .inr (1, [.ref h0, .ref b1, .ref b2, .ref b3, .int (nI lim), .int (nI kc), .int (nI nr), .int (nI nf), .int (nI nc)])), (b1, .inl (g1, 400, .inl mr)), (b2, .inl (g2, 400, .inl ch)), (b3, .inl (g3, 64, .inl kp)), (h0, .inr (0, [.ref a1, .ref a2, .ref a3, .int (nI N), .int fa])), (a1, .inl (k1, 400, .inl (pm_nf9 cn))), (a2, .inl (k2, 8000, .inl fl)), (a3, .inl (k3, 16, .inl rt))])) (va_Qv (fun (u : pm_M) => u = pm_run (pm_cs N cn fl) n (mr, ch, kp, lim, kc, nr, nf, nc)) (fun (u : pm_M) (t : State) => va_P (dC, dI) vwCl [(m0, .inr (1, [.ref h0, .ref b1, .ref b2, .ref b3, .int (nI (u.2.2.2.1)), .int (nI (u.2.2.2.2.1)), .int (nI (u.2.2.2.2.2.1)), .int (nI (u.2.2.2.2.2.2.1)), .int (nI (u.2.2.2.2.2.2.2))])), (b1, .inl (g1, 400, .inl (u.1))), (b2, .inl (g2, 400, .inl (u.2.1))), (b3, .inl (g3, 64, .inl (u.2.2.1))), (h0, .inr (0, [.ref a1, .ref a2, .ref a3, .int (nI N), .int fa])), (a1, .inl (k1, 400, .inl (pm_nf9 cn))), (a2, .inl (k2, 8000, .inl fl)), (a3, .inl (k3, 16, .inl rt))] t.heap ∧ va_K (dC, dI) vwCl [(g1, .boolean), (g2, .boolean), (g3, .int), (k1, .int), (k2, .int), (k3, .int)] t ∧ va_D (va_A [(m0, .inr (1, [.ref h0, .ref b1, .ref b2, .ref b3, .int (nI lim), .int (nI kc), .int (nI nr), .int (nI nf), .int (nI nc)])), (b1, .inl (g1, 400, .inl mr)), (b2, .inl (g2, 400, .inl ch)), (b3, .inl (g3, 64, .inl kp)), (h0, .inr (0, [.ref a1, .ref a2, .ref a3, .int (nI N), .int fa])), (a1, .inl (k1, 400, .inl (pm_nf9 cn))), (a2, .inl (k2, 8000, .inl fl)), (a3, .inl (k3, 16, .inl rt))] sz) [(m0, .inr (1, [.ref h0, .ref b1, .ref b2, .ref b3, .int (nI (u.2.2.2.1)), .int (nI (u.2.2.2.2.1)), .int (nI (u.2.2.2.2.2.1)), .int (nI (u.2.2.2.2.2.2.1)), .int (nI (u.2.2.2.2.2.2.2))])), (b1, .inl (g1, 400, .inl (u.1))), (b2, .inl (g2, 400, .inl (u.2.1))), (b3, .inl (g3, 64, .inl (u.2.2.1))), (h0, .inr (0, [.ref a1, .ref a2, .ref a3, .int (nI N), .int fa])), (a1, .inl (k1, 400, .inl (pm_nf9 cn))), (a2, .inl (k2, 8000, .inl fl)), (a3, .inl (k3, 16, .inl rt))]) (va_A [(m0, .inr (1, [.ref h0, .ref b1, .ref b2, .ref b3, .int (nI lim), .int (nI kc), .int (nI nr), .int (nI nf), .int (nI nc)])), (b1, .inl (g1, 400, .inl mr)), (b2, .inl (g2, 400, .inl ch)), (b3, .inl (g3, 64, .inl kp)), (h0, .inr (0, [.ref a1, .ref a2, .ref a3, .int (nI N), .int fa])), (a1, .inl (k1, 400, .inl (pm_nf9 cn))), (a2, .inl (k2, 8000, .inl fl)), (a3, .inl (k3, 16, .inl rt))] sz)) 0 0 (va_A [(m0, .inr (1, [.ref h0, .ref b1, .ref b2, .ref b3, .int (nI lim), .int (nI kc), .int (nI nr), .int (nI nf), .int (nI nc)])), (b1, .inl (g1, 400, .inl mr)), (b2, .inl (g2, 400, .inl ch)), (b3, .inl (g3, 64, .inl kp)), (h0, .inr (0, [.ref a1, .ref a2, .ref a3, .int (nI N), .int fa])), (a1, .inl (k1, 400, .inl (pm_nf9 cn))), (a2, .inl (k2, 8000, .inl fl)), (a3, .inl (k3, 16, .inl rt))] sz) := by
  refine Met.ofW (cc := cX1_doCleanSteps) (maxL := 4) (ret := (none)) (by decide) rfl ?_
  intro p e s m args below meth c s₁ B hml hv
  obtain ⟨rfl, hsz, hP, hK, hD0⟩ := hv
  have hx := B.exec
  have hb := B.bytes
  have hr := B.returns
  have hts : ∀ w ∈ gw, w.before _ s = true := fun w h => atoms_spec (ws := wsX1_doCleanSteps) B.pre w (List.mem_cons_of_mem _ h)
  have hown : s.vm.findClass RX1 = some m.cls := findClass_of_methodNamed B.named
  have hlocks := B.notSynchronized
  subst hsz
  have hD := hD0.self (sz := s.heap.size)
  generalize hAe : va_A [(m0, .inr (1, [.ref h0, .ref b1, .ref b2, .ref b3, .int (nI lim), .int (nI kc), .int (nI nr), .int (nI nf), .int (nI nc)])), (b1, .inl (g1, 400, .inl mr)), (b2, .inl (g2, 400, .inl ch)), (b3, .inl (g3, 64, .inl kp)), (h0, .inr (0, [.ref a1, .ref a2, .ref a3, .int (nI N), .int fa])), (a1, .inl (k1, 400, .inl (pm_nf9 cn))), (a2, .inl (k2, 8000, .inl fl)), (a3, .inl (k3, 16, .inl rt))] s.heap.size = A at hD ⊢
  have hA : ∀ q : Nat, s.heap.size ≤ q → A q := fun q h => by rw [← hAe]; exact Or.inr h
  have hP : va_P (dC, dI) vwCl [(m0, .inr (1, [.ref h0, .ref b1, .ref b2, .ref b3, .int (nI lim), .int (nI kc), .int (nI nr), .int (nI nf), .int (nI nc)])), (b1, .inl (g1, 400, .inl mr)), (b2, .inl (g2, 400, .inl ch)), (b3, .inl (g3, 64, .inl kp)), (h0, .inr (0, [.ref a1, .ref a2, .ref a3, .int (nI N), .int fa])), (a1, .inl (k1, 400, .inl (pm_nf9 cn))), (a2, .inl (k2, 8000, .inl fl)), (a3, .inl (k3, 16, .inl rt))] s.heap := hP
  have hl := lv_entry ([.ref m0, .int (nI n)]) (n := 4) (Nat.le_of_ble_eq_true rfl)
  rw [lg_entry_eq]
  generalize (lg_sl ([.ref m0, .int (nI n)]) ++ List.replicate (4 - (lg_sl ([.ref m0, .int (nI n)])).length) Slot.unset).toArray = ls at hl ⊢
  have hl : lv_has ls 4 [(0, .ref m0), (1, .int (nI n))] := hl
  obtain ⟨H, hH⟩ : ∃ H : Heap, H = s.heap := ⟨_, rfl⟩
  rw [← hH]
  rw [← hH] at hP
  have hS : va_S A s.heap H [] := by rw [hH]; exact va_S.rf
  clear hH
  refine lv_iconst (v := nI 1) hx hb dX1_doCleanSteps_0 (by decide +kernel) ?_
  refine lv_istore_n (lv' := [(2, .int (nI 1)), (0, .ref m0), (1, .int (nI n))]) hx hb dX1_doCleanSteps_1 rfl hl (by decide) rfl (fun ls hl => ?_)
  refine lv_iconst (v := nI 0) hx hb dX1_doCleanSteps_2 (by decide +kernel) ?_
  refine lv_istore_n (lv' := [(3, .int (nI 0)), (2, .int (nI 1)), (0, .ref m0), (1, .int (nI n))]) hx hb dX1_doCleanSteps_3 rfl hl (by decide) rfl (fun ls hl => ?_)
  have hl : lv_has ls 4 [(3, .int (nI 0)), (2, .int (pm_b true)), (0, .ref m0), (1, .int (nI n))] := hl
  refine lp_loop (σ := Nat × Bool × (Nat → Int32) × (Nat → Int32) × (Nat → Int32) × Nat × Nat × Nat × Nat × Nat) (head := 4) (fun x H locs ls => match x with | (i, b, mk1, ch1, kp1, lim1, kc1, nr1, nf1, nc1) => i ≤ n ∧ pm_Inv N cn fl (mk1, ch1, kp1, lim1, kc1, nr1, nf1, nc1) ∧ pm_tg (pm_cs N cn fl) b (n - i) (mk1, ch1, kp1, lim1, kc1, nr1, nf1, nc1) = pm_run (pm_cs N cn fl) n (mr, ch, kp, lim, kc, nr, nf, nc) ∧ va_P (dC, dI) vwCl [(m0, .inr (1, [.ref h0, .ref b1, .ref b2, .ref b3, .int (nI lim1), .int (nI kc1), .int (nI nr1), .int (nI nf1), .int (nI nc1)])), (b1, .inl (g1, 400, .inl mk1)), (b2, .inl (g2, 400, .inl ch1)), (b3, .inl (g3, 64, .inl kp1)), (h0, .inr (0, [.ref a1, .ref a2, .ref a3, .int (nI N), .int fa])), (a1, .inl (k1, 400, .inl (pm_nf9 cn))), (a2, .inl (k2, 8000, .inl fl)), (a3, .inl (k3, 16, .inl rt))] H ∧ va_D A [(m0, .inr (1, [.ref h0, .ref b1, .ref b2, .ref b3, .int (nI lim1), .int (nI kc1), .int (nI nr1), .int (nI nf1), .int (nI nc1)])), (b1, .inl (g1, 400, .inl mk1)), (b2, .inl (g2, 400, .inl ch1)), (b3, .inl (g3, 64, .inl kp1)), (h0, .inr (0, [.ref a1, .ref a2, .ref a3, .int (nI N), .int fa])), (a1, .inl (k1, 400, .inl (pm_nf9 cn))), (a2, .inl (k2, 8000, .inl fl)), (a3, .inl (k3, 16, .inl rt))] ∧ va_S A s.heap H locs ∧ lv_has ls 4 [(3, .int (nI i)), (2, .int (pm_b b)), (1, .int (nI n)), (0, .ref m0)]) (fun x => match x with | (i, b, mk1, ch1, kp1, lim1, kc1, nr1, nf1, nc1) => n - i) ?_ (0, true, mr, ch, kp, lim, kc, nr, nf, nc) _ _ _ ⟨Nat.zero_le _, hI, rfl, hP, hD, hS, lv_sub hl [0, 1, 3, 2] rfl⟩
  intro x H locs ls hI ih
  obtain ⟨i, b, mk1, ch1, kp1, lim1, kc1, nr1, nf1, nc1⟩ := x
  obtain ⟨hi, hI1, hT, hP, hD, hS, hl⟩ := hI
  dsimp only at ih
  refine lv_iload_n hx hb dX1_doCleanSteps_4 rfl (lv_at hl 0 rfl) ?_
  refine lv_iload_n hx hb dX1_doCleanSteps_5 rfl (lv_at hl 2 rfl) ?_
  refine lv_icmp_ge (tgt := 24) hx hb dX1_doCleanSteps_6 (by decide) (fun c_6 => ?_) (fun c_6 => ?_)
  · rw [nI_leI (by omega) (by omega)] at c_6
    exact W.vret hx hb hr (fun t ht hW => ⟨⟨(mk1, ch1, kp1, lim1, kc1, nr1, nf1, nc1), rfl, pm_tg0 hT (by omega), by rw [ht]; exact hP, va_K.moved hW.alike hK, hD⟩, hS.F ht⟩) hS.2.2 dX1_doCleanSteps_24
  · rw [nI_leI (by omega) (by omega)] at c_6
    cases b with
    | true =>
      have hl : lv_has ls 4 [(3, .int (nI i)), (2, .int (nI 1)), (1, .int (nI n)), (0, .ref m0)] := hl
      refine lv_iload_n hx hb dX1_doCleanSteps_9 rfl (lv_at hl 1 rfl) ?_
      refine lv_if_eq (tgt := 24) hx hb dX1_doCleanSteps_10 (by decide) (fun c_10 => absurd c_10 (by decide +kernel)) (fun c_10 => ?_)
      refine lv_aload_n hx hb dX1_doCleanSteps_13 rfl (lv_at hl 3 rfl) ?_
      have hPc := hP.sub (ws' := [(m0, .inr (1, [.ref h0, .ref b1, .ref b2, .ref b3, .int (nI lim1), .int (nI kc1), .int (nI nr1), .int (nI nf1), .int (nI nc1)])), (b1, .inl (g1, 400, .inl mk1)), (b2, .inl (g2, 400, .inl ch1)), (b3, .inl (g3, 64, .inl kp1)), (h0, .inr (0, [.ref a1, .ref a2, .ref a3, .int (nI N), .int fa])), (a1, .inl (k1, 400, .inl (pm_nf9 cn))), (a2, .inl (k2, 8000, .inl fl)), (a3, .inl (k3, 16, .inl rt))]) [0, 1, 2, 3, 4, 5, 6, 7] rfl
      have hDc := hD.sub (ws' := [(m0, .inr (1, [.ref h0, .ref b1, .ref b2, .ref b3, .int (nI lim1), .int (nI kc1), .int (nI nr1), .int (nI nf1), .int (nI nc1)])), (b1, .inl (g1, 400, .inl mk1)), (b2, .inl (g2, 400, .inl ch1)), (b3, .inl (g3, 64, .inl kp1)), (h0, .inr (0, [.ref a1, .ref a2, .ref a3, .int (nI N), .int fa])), (a1, .inl (k1, 400, .inl (pm_nf9 cn))), (a2, .inl (k2, 8000, .inl fl)), (a3, .inl (k3, 16, .inl rt))]) [0, 1, 2, 3, 4, 5, 6, 7] (by decide) rfl
      have hKc := hK.sub (tys' := [(g1, .boolean), (g2, .boolean), (g3, .int), (k1, .int), (k2, .int), (k3, .int)]) [0, 1, 2, 3, 4, 5] rfl
      have hFc := va_free (wc := [(m0, .inr (1, [.ref h0, .ref b1, .ref b2, .ref b3, .int (nI lim1), .int (nI kc1), .int (nI nr1), .int (nI nf1), .int (nI nc1)])), (b1, .inl (g1, 400, .inl mk1)), (b2, .inl (g2, 400, .inl ch1)), (b3, .inl (g3, 64, .inl kp1)), (h0, .inr (0, [.ref a1, .ref a2, .ref a3, .int (nI N), .int fa])), (a1, .inl (k1, 400, .inl (pm_nf9 cn))), (a2, .inl (k2, 8000, .inl fl)), (a3, .inl (k3, 16, .inl rt))]) hD hS hA [0, 1, 2, 3, 4, 5, 6, 7] rfl
      refine va_calli (va_runV (As := []) (rest := []) ⟨hx, hb, hml, hown, hts⟩ (c_M_cleanStep l dC dI m0 b1 b2 b3 g1 g2 g3 mk1 ch1 kp1 lim1 kc1 nr1 nf1 nc1 h0 a1 a2 a3 k1 k2 k3 N cn fl rt fa H.size (hN) (hc) (hI1.1.1) (hI1.1.2.1) (hI1.1.2.2.1) (hI1.1.2.2.2.1) (hI1.1.2.2.2.2)) (cwV 0 hts (gw_V ml_X1_52 mi_X1_cleanStep ms_X1_cleanStep mn_X1 mc_X1_cleanStep) rfl rfl rfl (by decide +kernel) ⟨Nat.le_of_ble_eq_true rfl, Nat.le_of_ble_eq_true rfl⟩) ⟨fun a U g mk q => by obtain ⟨q0, q1, qP, qK, qD⟩ := q; exact ⟨q0, q1, qP, va_K.moved (u := U) (U := U.calling g mk a) (Vm.Alike.refl U.vm) qK, qD⟩, va_recv hKc hPc (ci := 1) (q0 := 0) rfl rfl, fun U hU hW => ⟨rfl, by rw [hU], by rw [hU]; exact hPc, va_K.moved hW.alike hKc, hDc.weaken (fun _ _ _ _ => trivial)⟩⟩ rfl rfl hl.1 rfl (lv_room (Nat.le_of_ble_eq_true rfl)) dX1_doCleanSteps_14 ⟨Nat.le_of_ble_eq_true rfl, Nat.le_of_ble_eq_true rfl⟩) hS (fun q _ h => hFc q h) hFc (fun r_1 u t H1 locs ht hvm hw hB hz1 hk1 hS => ?_)
      obtain ⟨mk2, ch2, kp2, lim2, kc2, nr2, nf2, nc2⟩ := u
      obtain ⟨hP1, hK1, hD1⟩ := hB
      rw [ht] at hP1
      have hK1 := va_K.moved hvm.symm hK1
      obtain ⟨hP, hD⟩ := va_join (wr := []) (w1 := [(m0, .inr (1, [.ref h0, .ref b1, .ref b2, .ref b3, .int (nI lim2), .int (nI kc2), .int (nI nr2), .int (nI nf2), .int (nI nc2)])), (b1, .inl (g1, 400, .inl mk2)), (b2, .inl (g2, 400, .inl ch2)), (b3, .inl (g3, 64, .inl kp2)), (h0, .inr (0, [.ref a1, .ref a2, .ref a3, .int (nI N), .int fa])), (a1, .inl (k1, 400, .inl (pm_nf9 cn))), (a2, .inl (k2, 8000, .inl fl)), (a3, .inl (k3, 16, .inl rt))]) hP hD [0, 1, 2, 3, 4, 5, 6, 7] [] rfl rfl (by decide) (by decide) hk1 hFc hP1 hD1
      clear hPc hDc hKc hFc hP1 hK1 hD1
      generalize H1 = H at hP hS ⊢
      have hP : va_P (dC, dI) vwCl [(m0, .inr (1, [.ref h0, .ref b1, .ref b2, .ref b3, .int (nI lim2), .int (nI kc2), .int (nI nr2), .int (nI nf2), .int (nI nc2)])), (b1, .inl (g1, 400, .inl mk2)), (b2, .inl (g2, 400, .inl ch2)), (b3, .inl (g3, 64, .inl kp2)), (h0, .inr (0, [.ref a1, .ref a2, .ref a3, .int (nI N), .int fa])), (a1, .inl (k1, 400, .inl (pm_nf9 cn))), (a2, .inl (k2, 8000, .inl fl)), (a3, .inl (k3, 16, .inl rt))] H := hP.sub [0, 1, 2, 3, 4, 5, 6, 7] rfl
      have hD : va_D A [(m0, .inr (1, [.ref h0, .ref b1, .ref b2, .ref b3, .int (nI lim2), .int (nI kc2), .int (nI nr2), .int (nI nf2), .int (nI nc2)])), (b1, .inl (g1, 400, .inl mk2)), (b2, .inl (g2, 400, .inl ch2)), (b3, .inl (g3, 64, .inl kp2)), (h0, .inr (0, [.ref a1, .ref a2, .ref a3, .int (nI N), .int fa])), (a1, .inl (k1, 400, .inl (pm_nf9 cn))), (a2, .inl (k2, 8000, .inl fl)), (a3, .inl (k3, 16, .inl rt))] := hD.sub [0, 1, 2, 3, 4, 5, 6, 7] (by decide) rfl
      obtain ⟨rfl, hw2⟩ := hw
      refine lv_istore_n (lv' := [(2, .int (pm_b (pm_cs N cn fl (mk1, ch1, kp1, lim1, kc1, nr1, nf1, nc1)).1)), (3, .int (nI i)), (1, .int (nI n)), (0, .ref m0)]) hx hb dX1_doCleanSteps_17 rfl hl (by decide) rfl (fun ls hl => ?_)
      refine lv_iinc (v := nI (i + 1)) (lv' := [(3, .int (nI (i + 1))), (2, .int (pm_b (pm_cs N cn fl (mk1, ch1, kp1, lim1, kc1, nr1, nf1, nc1)).1)), (1, .int (nI n)), (0, .ref m0)]) hx hb dX1_doCleanSteps_18 hl (k := 1) rfl (nI_1 _) (by decide) rfl (fun ls hl => ?_)
      refine lv_goto (tgt := 4) hx hb dX1_doCleanSteps_21 (by decide) ?_
      exact ih (i + 1, (pm_cs N cn fl (mk1, ch1, kp1, lim1, kc1, nr1, nf1, nc1)).1, mk2, ch2, kp2, lim2, kc2, nr2, nf2, nc2) _ _ _ ⟨by omega, by rw [hw2]; exact (pm_cs_ok (rt := rt) hN hI1).1, by rw [hw2]; exact (pm_run_s (by omega)).trans hT, hP, hD, hS, lv_sub hl [0, 1, 2, 3] rfl⟩ (by omega)
    | false =>
      have hl : lv_has ls 4 [(3, .int (nI i)), (2, .int (nI 0)), (1, .int (nI n)), (0, .ref m0)] := hl
      refine lv_iload_n hx hb dX1_doCleanSteps_9 rfl (lv_at hl 1 rfl) ?_
      refine lv_if_eq (tgt := 24) hx hb dX1_doCleanSteps_10 (by decide) (fun c_10 => ?_) (fun c_10 => absurd c_10 (by decide +kernel))
      exact W.vret hx hb hr (fun t ht hW => ⟨⟨(mk1, ch1, kp1, lim1, kc1, nr1, nf1, nc1), rfl, hT, by rw [ht]; exact hP, va_K.moved hW.alike hK, hD⟩, hS.F ht⟩) hS.2.2 dX1_doCleanSteps_24

set_option maxHeartbeats 4000000 in
set_option maxRecDepth 100000 in
/-- Marker.changeLimit(n) -/
theorem c_M_changeLimit (l : Launch) (dC : Nat → ClassId) (dI : Nat → Nat → Nat) (m0 b1 b2 b3 : Nat) (g1 g2 g3 : ClassId) (mr ch kp : Nat → Int32) (lim kc nr nf nc : Nat) (h0 a1 a2 a3 : Nat) (k1 k2 k3 : ClassId) (N : Nat) (cn : Nat → Nat) (fl rt : Nat → Int32) (fa : Int32) (n : Nat) (sz : Nat)  : Met l yX1_changeLimit wsX1_changeLimit ({ frames := 0, cells := 0, slots := 0, locals := 0 }) (va_Pc [.ref m0, .int (nI n)] (fun U => U.heap.size = sz ∧ va_P (dC, dI) vwCl [(m0, .inr (1, [.ref h0, .ref b1, .ref b2, .ref b3, .int (nI lim), .int (nI kc), .int (nI nr), .int (nI nf), .int (nI nc)])), (b1, .inl (g1, 400, .inl mr)), (b2, .inl (g2, 400, .inl ch)), (b3, .inl (g3, 64, .inl kp)), (h0, .inr (0, [.ref a1, .ref a2, .ref a3, .int (nI N), .int fa])), (a1, .inl (k1, 400, .inl (pm_nf9 cn))), (a2, .inl (k2, 8000, .inl fl)), (a3, .inl (k3, 16, .inl rt))] U.heap ∧ va_K (dC, dI) vwCl [(g1, .boolean), (g2, .boolean), (g3, .int), (k1, .int), (k2, .int), (k3, .int)] U ∧ va_D (fun _ => True) [(m0, .inr (1, [.ref h0, .ref b1, .ref b2, .ref b3, .int (nI lim), .int (nI kc), .int (nI nr), .int (nI nf), .int (nI nc)])), (b1, .inl (g1, 400, .inl mr)), (b2, .inl (g2, 400, .inl ch)), (b3, .inl (g3, 64, .inl kp)), (h0, .inr (0, [.ref a1, .ref a2, .ref a3, .int (nI N), .int fa])), (a1, .inl (k1, 400, .inl (pm_nf9 cn))), (a2, .inl (k2, 8000, .inl fl)), (a3, .inl (k3, 16, .inl rt))])) (va_Qi (fun (r : Int32) (_ : Unit) => r = nI lim) (fun (_ : Unit) (t : State) => va_P (dC, dI) vwCl [(m0, .inr (1, [.ref h0, .ref b1, .ref b2, .ref b3, .int (nI n), .int (nI kc), .int (nI nr), .int (nI nf), .int (nI nc)])), (b1, .inl (g1, 400, .inl mr)), (b2, .inl (g2, 400, .inl ch)), (b3, .inl (g3, 64, .inl kp)), (h0, .inr (0, [.ref a1, .ref a2, .ref a3, .int (nI N), .int fa])), (a1, .inl (k1, 400, .inl (pm_nf9 cn))), (a2, .inl (k2, 8000, .inl fl)), (a3, .inl (k3, 16, .inl rt))] t.heap ∧ va_K (dC, dI) vwCl [(g1, .boolean), (g2, .boolean), (g3, .int), (k1, .int), (k2, .int), (k3, .int)] t ∧ va_D (va_A [(m0, .inr (1, [.ref h0, .ref b1, .ref b2, .ref b3, .int (nI lim), .int (nI kc), .int (nI nr), .int (nI nf), .int (nI nc)])), (b1, .inl (g1, 400, .inl mr)), (b2, .inl (g2, 400, .inl ch)), (b3, .inl (g3, 64, .inl kp)), (h0, .inr (0, [.ref a1, .ref a2, .ref a3, .int (nI N), .int fa])), (a1, .inl (k1, 400, .inl (pm_nf9 cn))), (a2, .inl (k2, 8000, .inl fl)), (a3, .inl (k3, 16, .inl rt))] sz) [(m0, .inr (1, [.ref h0, .ref b1, .ref b2, .ref b3, .int (nI n), .int (nI kc), .int (nI nr), .int (nI nf), .int (nI nc)])), (b1, .inl (g1, 400, .inl mr)), (b2, .inl (g2, 400, .inl ch)), (b3, .inl (g3, 64, .inl kp)), (h0, .inr (0, [.ref a1, .ref a2, .ref a3, .int (nI N), .int fa])), (a1, .inl (k1, 400, .inl (pm_nf9 cn))), (a2, .inl (k2, 8000, .inl fl)), (a3, .inl (k3, 16, .inl rt))]) (va_A [(m0, .inr (1, [.ref h0, .ref b1, .ref b2, .ref b3, .int (nI lim), .int (nI kc), .int (nI nr), .int (nI nf), .int (nI nc)])), (b1, .inl (g1, 400, .inl mr)), (b2, .inl (g2, 400, .inl ch)), (b3, .inl (g3, 64, .inl kp)), (h0, .inr (0, [.ref a1, .ref a2, .ref a3, .int (nI N), .int fa])), (a1, .inl (k1, 400, .inl (pm_nf9 cn))), (a2, .inl (k2, 8000, .inl fl)), (a3, .inl (k3, 16, .inl rt))] sz)) 0 0 (va_A [(m0, .inr (1, [.ref h0, .ref b1, .ref b2, .ref b3, .int (nI lim), .int (nI kc), .int (nI nr), .int (nI nf), .int (nI nc)])), (b1, .inl (g1, 400, .inl mr)), (b2, .inl (g2, 400, .inl ch)), (b3, .inl (g3, 64, .inl kp)), (h0, .inr (0, [.ref a1, .ref a2, .ref a3, .int (nI N), .int fa])), (a1, .inl (k1, 400, .inl (pm_nf9 cn))), (a2, .inl (k2, 8000, .inl fl)), (a3, .inl (k3, 16, .inl rt))] sz) := by
  refine Met.ofW (cc := cX1_changeLimit) (maxL := 3) (ret := (some .int)) (by decide) rfl ?_
  intro p e s m args below meth c s₁ B hml hv
  obtain ⟨rfl, hsz, hP, hK, hD0⟩ := hv
  have hx := B.exec
  have hb := B.bytes
  have hr := B.returns
  have hts : ∀ w ∈ gw, w.before _ s = true := fun w h => atoms_spec (ws := wsX1_changeLimit) B.pre w (List.mem_cons_of_mem _ h)
  have hown : s.vm.findClass RX1 = some m.cls := findClass_of_methodNamed B.named
  have hlocks := B.notSynchronized
  subst hsz
  have hD := hD0.self (sz := s.heap.size)
  generalize hAe : va_A [(m0, .inr (1, [.ref h0, .ref b1, .ref b2, .ref b3, .int (nI lim), .int (nI kc), .int (nI nr), .int (nI nf), .int (nI nc)])), (b1, .inl (g1, 400, .inl mr)), (b2, .inl (g2, 400, .inl ch)), (b3, .inl (g3, 64, .inl kp)), (h0, .inr (0, [.ref a1, .ref a2, .ref a3, .int (nI N), .int fa])), (a1, .inl (k1, 400, .inl (pm_nf9 cn))), (a2, .inl (k2, 8000, .inl fl)), (a3, .inl (k3, 16, .inl rt))] s.heap.size = A at hD ⊢
  have hA : ∀ q : Nat, s.heap.size ≤ q → A q := fun q h => by rw [← hAe]; exact Or.inr h
  have hP : va_P (dC, dI) vwCl [(m0, .inr (1, [.ref h0, .ref b1, .ref b2, .ref b3, .int (nI lim), .int (nI kc), .int (nI nr), .int (nI nf), .int (nI nc)])), (b1, .inl (g1, 400, .inl mr)), (b2, .inl (g2, 400, .inl ch)), (b3, .inl (g3, 64, .inl kp)), (h0, .inr (0, [.ref a1, .ref a2, .ref a3, .int (nI N), .int fa])), (a1, .inl (k1, 400, .inl (pm_nf9 cn))), (a2, .inl (k2, 8000, .inl fl)), (a3, .inl (k3, 16, .inl rt))] s.heap := hP
  have hl := lv_entry ([.ref m0, .int (nI n)]) (n := 3) (Nat.le_of_ble_eq_true rfl)
  rw [lg_entry_eq]
  generalize (lg_sl ([.ref m0, .int (nI n)]) ++ List.replicate (3 - (lg_sl ([.ref m0, .int (nI n)])).length) Slot.unset).toArray = ls at hl ⊢
  have hl : lv_has ls 3 [(0, .ref m0), (1, .int (nI n))] := hl
  obtain ⟨H, hH⟩ : ∃ H : Heap, H = s.heap := ⟨_, rfl⟩
  rw [← hH]
  rw [← hH] at hP
  have hS : va_S A s.heap H [] := by rw [hH]; exact va_S.rf
  clear hH
  refine lv_aload_n hx hb dX1_changeLimit_0 rfl (lv_at hl 0 rfl) ?_
  refine va_get (D := (dC, dI)) (ci := 1) (v := .int (nI lim)) (C := RX1) (T := TX1) (N := 9) hx hb hts iw_X1 hown hK hP 0 rfl rfl 4 (by decide) (hts _ mf_X1_26) (fun _ h9 => h9) rfl dX1_changeLimit_1 ?_
  refine lv_istore_n (lv' := [(2, .int (nI lim)), (0, .ref m0), (1, .int (nI n))]) hx hb dX1_changeLimit_4 rfl hl (by decide) rfl (fun ls hl => ?_)
  refine lv_aload_n hx hb dX1_changeLimit_5 rfl (lv_at hl 1 rfl) ?_
  refine lv_iload_n hx hb dX1_changeLimit_6 rfl (lv_at hl 2 rfl) ?_
  refine va_put (D := (dC, dI)) (ci := 1) (v := .int (nI n)) (ty := .int) (C := RX1) (T := TX1) (N := 9) hx hb hts iw_X1 tyX1 tyX1_ok nmX1 hown hK hP hD hS 0 rfl rfl 4 (by decide) (hts _ mf_X1_26) (fun _ h9 => h9) rfl (by decide +kernel) (rfl) (rfl) (Nat.le_of_ble_eq_true rfl) dX1_changeLimit_7 (fun H locs hP hD hS => ?_)
  have hP : va_P (dC, dI) vwCl [(m0, .inr (1, [.ref h0, .ref b1, .ref b2, .ref b3, .int (nI n), .int (nI kc), .int (nI nr), .int (nI nf), .int (nI nc)])), (b1, .inl (g1, 400, .inl mr)), (b2, .inl (g2, 400, .inl ch)), (b3, .inl (g3, 64, .inl kp)), (h0, .inr (0, [.ref a1, .ref a2, .ref a3, .int (nI N), .int fa])), (a1, .inl (k1, 400, .inl (pm_nf9 cn))), (a2, .inl (k2, 8000, .inl fl)), (a3, .inl (k3, 16, .inl rt))] H := hP
  have hD : va_D A [(m0, .inr (1, [.ref h0, .ref b1, .ref b2, .ref b3, .int (nI n), .int (nI kc), .int (nI nr), .int (nI nf), .int (nI nc)])), (b1, .inl (g1, 400, .inl mr)), (b2, .inl (g2, 400, .inl ch)), (b3, .inl (g3, 64, .inl kp)), (h0, .inr (0, [.ref a1, .ref a2, .ref a3, .int (nI N), .int fa])), (a1, .inl (k1, 400, .inl (pm_nf9 cn))), (a2, .inl (k2, 8000, .inl fl)), (a3, .inl (k3, 16, .inl rt))] := hD
  refine lv_iload_n hx hb dX1_changeLimit_10 rfl (lv_at hl 0 rfl) ?_
  exact W.iret (v := nI lim) hx hb hr (fun t ht hW => ⟨⟨nI lim, (), rfl, rfl, by rw [ht]; exact hP, va_K.moved hW.alike hK, hD⟩, hS.F ht⟩) hS.2.2 dX1_changeLimit_11

set_option maxHeartbeats 4000000 in
set_option maxRecDepth 100000 in
/-- Marker.countOfMarks() -/
theorem c_M_countOfMarks (l : Launch) (dC : Nat → ClassId) (dI : Nat → Nat → Nat) (m0 b1 b2 b3 : Nat) (g1 g2 g3 : ClassId) (mr ch kp : Nat → Int32) (lim kc nr nf nc : Nat) (h0 a1 a2 a3 : Nat) (k1 k2 k3 : ClassId) (N : Nat) (cn : Nat → Nat) (fl rt : Nat → Int32) (fa : Int32) (sz : Nat)  : Met l yX1_countOfMarks wsX1_countOfMarks ({ frames := 0, cells := 0, slots := 0, locals := 0 }) (va_Pc [.ref m0] (fun U => U.heap.size = sz ∧ va_P (dC, dI) vwCl [(m0, .inr (1, [.ref h0, .ref b1, .ref b2, .ref b3, .int (nI lim), .int (nI kc), .int (nI nr), .int (nI nf), .int (nI nc)])), (b1, .inl (g1, 400, .inl mr)), (b2, .inl (g2, 400, .inl ch)), (b3, .inl (g3, 64, .inl kp)), (h0, .inr (0, [.ref a1, .ref a2, .ref a3, .int (nI N), .int fa])), (a1, .inl (k1, 400, .inl (pm_nf9 cn))), (a2, .inl (k2, 8000, .inl fl)), (a3, .inl (k3, 16, .inl rt))] U.heap ∧ va_K (dC, dI) vwCl [(g1, .boolean), (g2, .boolean), (g3, .int), (k1, .int), (k2, .int), (k3, .int)] U ∧ va_D (fun _ => True) [(m0, .inr (1, [.ref h0, .ref b1, .ref b2, .ref b3, .int (nI lim), .int (nI kc), .int (nI nr), .int (nI nf), .int (nI nc)])), (b1, .inl (g1, 400, .inl mr)), (b2, .inl (g2, 400, .inl ch)), (b3, .inl (g3, 64, .inl kp)), (h0, .inr (0, [.ref a1, .ref a2, .ref a3, .int (nI N), .int fa])), (a1, .inl (k1, 400, .inl (pm_nf9 cn))), (a2, .inl (k2, 8000, .inl fl)), (a3, .inl (k3, 16, .inl rt))])) (va_Qi (fun (r : Int32) (_ : Unit) => r = nI (pm_cnt mr 400)) (fun (_ : Unit) (t : State) => va_P (dC, dI) vwCl [(m0, .inr (1, [.ref h0, .ref b1, .ref b2, .ref b3, .int (nI lim), .int (nI kc), .int (nI nr), .int (nI nf), .int (nI nc)])), (b1, .inl (g1, 400, .inl mr)), (b2, .inl (g2, 400, .inl ch)), (b3, .inl (g3, 64, .inl kp)), (h0, .inr (0, [.ref a1, .ref a2, .ref a3, .int (nI N), .int fa])), (a1, .inl (k1, 400, .inl (pm_nf9 cn))), (a2, .inl (k2, 8000, .inl fl)), (a3, .inl (k3, 16, .inl rt))] t.heap ∧ va_K (dC, dI) vwCl [(g1, .boolean), (g2, .boolean), (g3, .int), (k1, .int), (k2, .int), (k3, .int)] t ∧ va_D (va_A [(m0, .inr (1, [.ref h0, .ref b1, .ref b2, .ref b3, .int (nI lim), .int (nI kc), .int (nI nr), .int (nI nf), .int (nI nc)])), (b1, .inl (g1, 400, .inl mr)), (b2, .inl (g2, 400, .inl ch)), (b3, .inl (g3, 64, .inl kp)), (h0, .inr (0, [.ref a1, .ref a2, .ref a3, .int (nI N), .int fa])), (a1, .inl (k1, 400, .inl (pm_nf9 cn))), (a2, .inl (k2, 8000, .inl fl)), (a3, .inl (k3, 16, .inl rt))] sz) [(m0, .inr (1, [.ref h0, .ref b1, .ref b2, .ref b3, .int (nI lim), .int (nI kc), .int (nI nr), .int (nI nf), .int (nI nc)])), (b1, .inl (g1, 400, .inl mr)), (b2, .inl (g2, 400, .inl ch)), (b3, .inl (g3, 64, .inl kp)), (h0, .inr (0, [.ref a1, .ref a2, .ref a3, .int (nI N), .int fa])), (a1, .inl (k1, 400, .inl (pm_nf9 cn))), (a2, .inl (k2, 8000, .inl fl)), (a3, .inl (k3, 16, .inl rt))]) (va_A [(m0, .inr (1, [.ref h0, .ref b1, .ref b2, .ref b3, .int (nI lim), .int (nI kc), .int (nI nr), .int (nI nf), .int (nI nc)])), (b1, .inl (g1, 400, .inl mr)), (b2, .inl (g2, 400, .inl ch)), (b3, .inl (g3, 64, .inl kp)), (h0, .inr (0, [.ref a1, .ref a2, .ref a3, .int (nI N), .int fa])), (a1, .inl (k1, 400, .inl (pm_nf9 cn))), (a2, .inl (k2, 8000, .inl fl)), (a3, .inl (k3, 16, .inl rt))] sz)) 0 0 (va_A [(m0, .inr (1, [.ref h0, .ref b1, .ref b2, .ref b3, .int (nI lim), .int (nI kc), .int (nI nr), .int (nI nf), .int (nI nc)])), (b1, .inl (g1, 400, .inl mr)), (b2, .inl (g2, 400, .inl ch)), (b3, .inl (g3, 64, .inl kp)), (h0, .inr (0, [.ref a1, .ref a2, .ref a3, .int (nI N), .int fa])), (a1, .inl (k1, 400, .inl (pm_nf9 cn))), (a2, .inl (k2, 8000, .inl fl)), (a3, .inl (k3, 16, .inl rt))] sz) := by
  refine Met.ofW (cc := cX1_countOfMarks) (maxL := 3) (ret := (some .int)) (by decide) rfl ?_
  intro p e s m args below meth c s₁ B hml hv
  obtain ⟨rfl, hsz, hP, hK, hD0⟩ := hv
  have hx := B.exec
  have hb := B.bytes
  have hr := B.returns
  have hts : ∀ w ∈ gw, w.before _ s = true := fun w h => atoms_spec (ws := wsX1_countOfMarks) B.pre w (List.mem_cons_of_mem _ h)
  have hown : s.vm.findClass RX1 = some m.cls := findClass_of_methodNamed B.named
  have hlocks := B.notSynchronized
  subst hsz
  have hD := hD0.self (sz := s.heap.size)
  generalize hAe : va_A [(m0, .inr (1, [.ref h0, .ref b1, .ref b2, .ref b3, .int (nI lim), .int (nI kc), .int (nI nr), .int (nI nf), .int (nI nc)])), (b1, .inl (g1, 400, .inl mr)), (b2, .inl (g2, 400, .inl ch)), (b3, .inl (g3, 64, .inl kp)), (h0, .inr (0, [.ref a1, .ref a2, .ref a3, .int (nI N), .int fa])), (a1, .inl (k1, 400, .inl (pm_nf9 cn))), (a2, .inl (k2, 8000, .inl fl)), (a3, .inl (k3, 16, .inl rt))] s.heap.size = A at hD ⊢
  have hA : ∀ q : Nat, s.heap.size ≤ q → A q := fun q h => by rw [← hAe]; exact Or.inr h
  have hP : va_P (dC, dI) vwCl [(m0, .inr (1, [.ref h0, .ref b1, .ref b2, .ref b3, .int (nI lim), .int (nI kc), .int (nI nr), .int (nI nf), .int (nI nc)])), (b1, .inl (g1, 400, .inl mr)), (b2, .inl (g2, 400, .inl ch)), (b3, .inl (g3, 64, .inl kp)), (h0, .inr (0, [.ref a1, .ref a2, .ref a3, .int (nI N), .int fa])), (a1, .inl (k1, 400, .inl (pm_nf9 cn))), (a2, .inl (k2, 8000, .inl fl)), (a3, .inl (k3, 16, .inl rt))] s.heap := hP
  have hl := lv_entry ([.ref m0]) (n := 3) (Nat.le_of_ble_eq_true rfl)
  rw [lg_entry_eq]
  generalize (lg_sl ([.ref m0]) ++ List.replicate (3 - (lg_sl ([.ref m0])).length) Slot.unset).toArray = ls at hl ⊢
  have hl : lv_has ls 3 [(0, .ref m0)] := hl
  obtain ⟨H, hH⟩ : ∃ H : Heap, H = s.heap := ⟨_, rfl⟩
  rw [← hH]
  rw [← hH] at hP
  have hS : va_S A s.heap H [] := by rw [hH]; exact va_S.rf
  clear hH
  refine lv_iconst (v := nI 0) hx hb dX1_countOfMarks_0 (by decide +kernel) ?_
  refine lv_istore_n (lv' := [(1, .int (nI 0)), (0, .ref m0)]) hx hb dX1_countOfMarks_1 rfl hl (by decide) rfl (fun ls hl => ?_)
  refine lv_iconst (v := nI 0) hx hb dX1_countOfMarks_2 (by decide +kernel) ?_
  refine lv_istore_n (lv' := [(2, .int (nI 0)), (1, .int (nI 0)), (0, .ref m0)]) hx hb dX1_countOfMarks_3 rfl hl (by decide) rfl (fun ls hl => ?_)
  have hl : lv_has ls 3 [(2, .int (nI 0)), (1, .int (nI (pm_cnt mr 0))), (0, .ref m0)] := hl
  refine lp_loop (σ := Nat) (head := 4) (fun k H locs ls => k ≤ 400 ∧ va_P (dC, dI) vwCl [(m0, .inr (1, [.ref h0, .ref b1, .ref b2, .ref b3, .int (nI lim), .int (nI kc), .int (nI nr), .int (nI nf), .int (nI nc)])), (b1, .inl (g1, 400, .inl mr)), (b2, .inl (g2, 400, .inl ch)), (b3, .inl (g3, 64, .inl kp)), (h0, .inr (0, [.ref a1, .ref a2, .ref a3, .int (nI N), .int fa])), (a1, .inl (k1, 400, .inl (pm_nf9 cn))), (a2, .inl (k2, 8000, .inl fl)), (a3, .inl (k3, 16, .inl rt))] H ∧ va_D A [(m0, .inr (1, [.ref h0, .ref b1, .ref b2, .ref b3, .int (nI lim), .int (nI kc), .int (nI nr), .int (nI nf), .int (nI nc)])), (b1, .inl (g1, 400, .inl mr)), (b2, .inl (g2, 400, .inl ch)), (b3, .inl (g3, 64, .inl kp)), (h0, .inr (0, [.ref a1, .ref a2, .ref a3, .int (nI N), .int fa])), (a1, .inl (k1, 400, .inl (pm_nf9 cn))), (a2, .inl (k2, 8000, .inl fl)), (a3, .inl (k3, 16, .inl rt))] ∧ va_S A s.heap H locs ∧ lv_has ls 3 [(2, .int (nI k)), (1, .int (nI (pm_cnt mr k))), (0, .ref m0)]) (fun k => 400 - k) ?_ 0 _ _ _ ⟨Nat.zero_le _, hP, hD, hS, lv_sub hl [0, 1, 2] rfl⟩
  intro x H locs ls hI ih
  obtain ⟨k, rfl⟩ : ∃ y, y = x := ⟨x, rfl⟩
  obtain ⟨hk, hP, hD, hS, hl⟩ := hI
  refine lv_iload_n hx hb dX1_countOfMarks_4 rfl (lv_at hl 0 rfl) ?_
  refine lv_sipush (v := nI 400) hx hb dX1_countOfMarks_5 (by decide +kernel) ?_
  refine lv_icmp_ge (tgt := 29) hx hb dX1_countOfMarks_8 (by decide) (fun c_8 => ?_) (fun c_8 => ?_)
  · rw [nI_leI (by omega) (by omega)] at c_8
    refine lv_iload_n hx hb dX1_countOfMarks_29 rfl (lv_at hl 1 rfl) ?_
    exact W.iret (v := nI (pm_cnt mr k)) hx hb hr (fun t ht hW => ⟨⟨nI (pm_cnt mr k), (), rfl, by rw [show k = 400 by omega], by rw [ht]; exact hP, va_K.moved hW.alike hK, hD⟩, hS.F ht⟩) hS.2.2 dX1_countOfMarks_30
  · rw [nI_leI (by omega) (by omega)] at c_8
    refine lv_aload_n hx hb dX1_countOfMarks_11 rfl (lv_at hl 2 rfl) ?_
    refine va_get (D := (dC, dI)) (ci := 1) (v := .ref b1) (C := RX1) (T := TX1) (N := 9) hx hb hts iw_X1 hown hK hP 0 rfl rfl 1 (by decide) (hts _ mf_X1_15) (fun _ h9 => h9) rfl dX1_countOfMarks_12 ?_
    refine lv_iload_n hx hb dX1_countOfMarks_15 rfl (lv_at hl 0 rfl) ?_
    refine va_zald hx hb hK hP 1 0 rfl rfl (vp_in_nI (by omega) (by omega)) dX1_countOfMarks_16 ?_
    refine lv_topi (fun x_1 ex_1 => ?_)
    rw [nI_clamp (by omega)] at ex_1
    subst ex_1
    refine lv_if_eq (tgt := 23) hx hb dX1_countOfMarks_17 (by decide) (fun c_17 => ?_) (fun c_17 => ?_)
    · have e9 : pm_cnt mr (k + 1) = pm_cnt mr k := by simp only [pm_cnt]; rw [if_pos c_17, Nat.add_zero]
      rw [← e9] at hl
      refine lv_iinc (v := nI (k + 1)) (lv' := [(2, .int (nI (k + 1))), (1, .int (nI (pm_cnt mr (k + 1)))), (0, .ref m0)]) hx hb dX1_countOfMarks_23 hl (k := 0) rfl (nI_1 _) (by decide) rfl (fun ls hl => ?_)
      refine lv_goto (tgt := 4) hx hb dX1_countOfMarks_26 (by decide) ?_
      have hl : lv_has ls 3 [(2, .int (nI (k + 1))), (1, .int (nI (pm_cnt mr (k + 1)))), (0, .ref m0)] := hl
      exact ih (k + 1) _ _ _ ⟨by omega, hP, hD, hS, lv_sub hl [0, 1, 2] rfl⟩ (by omega)
    · refine lv_iinc (v := nI ((pm_cnt mr k) + 1)) (lv' := [(1, .int (nI ((pm_cnt mr k) + 1))), (2, .int (nI k)), (0, .ref m0)]) hx hb dX1_countOfMarks_20 hl (k := 1) rfl (nI_1 _) (by decide) rfl (fun ls hl => ?_)
      have e9 : pm_cnt mr (k + 1) = pm_cnt mr k + 1 := by simp only [pm_cnt]; rw [if_neg c_17]
      rw [← e9] at hl
      refine lv_iinc (v := nI (k + 1)) (lv' := [(2, .int (nI (k + 1))), (1, .int (nI (pm_cnt mr (k + 1)))), (0, .ref m0)]) hx hb dX1_countOfMarks_23 hl (k := 1) rfl (nI_1 _) (by decide) rfl (fun ls hl => ?_)
      refine lv_goto (tgt := 4) hx hb dX1_countOfMarks_26 (by decide) ?_
      have hl : lv_has ls 3 [(2, .int (nI (k + 1))), (1, .int (nI (pm_cnt mr (k + 1)))), (0, .ref m0)] := hl
      exact ih (k + 1) _ _ _ ⟨by omega, hP, hD, hS, lv_sub hl [0, 1, 2] rfl⟩ (by omega)

set_option maxHeartbeats 4000000 in
set_option maxRecDepth 100000 in
/-- Marker.forgetAll() -/
theorem c_M_forgetAll (l : Launch) (dC : Nat → ClassId) (dI : Nat → Nat → Nat) (m0 b1 b2 b3 : Nat) (g1 g2 g3 : ClassId) (mr ch kp : Nat → Int32) (lim kc nr nf nc : Nat) (h0 a1 a2 a3 : Nat) (k1 k2 k3 : ClassId) (N : Nat) (cn : Nat → Nat) (fl rt : Nat → Int32) (fa : Int32) (sz : Nat)  : Met l yX1_forgetAll wsX1_forgetAll ({ frames := 0, cells := 0, slots := 0, locals := 0 }) (va_Pc [.ref m0] (fun U => U.heap.size = sz ∧ va_P (dC, dI) vwCl [(m0, .inr (1, [.ref h0, .ref b1, .ref b2, .ref b3, .int (nI lim), .int (nI kc), .int (nI nr), .int (nI nf), .int (nI nc)])), (b1, .inl (g1, 400, .inl mr)), (b2, .inl (g2, 400, .inl ch)), (b3, .inl (g3, 64, .inl kp)), (h0, .inr (0, [.ref a1, .ref a2, .ref a3, .int (nI N), .int fa])), (a1, .inl (k1, 400, .inl (pm_nf9 cn))), (a2, .inl (k2, 8000, .inl fl)), (a3, .inl (k3, 16, .inl rt))] U.heap ∧ va_K (dC, dI) vwCl [(g1, .boolean), (g2, .boolean), (g3, .int), (k1, .int), (k2, .int), (k3, .int)] U ∧ va_D (fun _ => True) [(m0, .inr (1, [.ref h0, .ref b1, .ref b2, .ref b3, .int (nI lim), .int (nI kc), .int (nI nr), .int (nI nf), .int (nI nc)])), (b1, .inl (g1, 400, .inl mr)), (b2, .inl (g2, 400, .inl ch)), (b3, .inl (g3, 64, .inl kp)), (h0, .inr (0, [.ref a1, .ref a2, .ref a3, .int (nI N), .int fa])), (a1, .inl (k1, 400, .inl (pm_nf9 cn))), (a2, .inl (k2, 8000, .inl fl)), (a3, .inl (k3, 16, .inl rt))])) (va_Qv (fun (_ : Unit) => True) (fun (_ : Unit) (t : State) => va_P (dC, dI) vwCl [(m0, .inr (1, [.ref h0, .ref b1, .ref b2, .ref b3, .int (nI lim), .int (nI 0), .int (nI 0), .int (nI 400), .int (nI 400)])), (b1, .inl (g1, 400, .inl (pm_clr 400 mr))), (b2, .inl (g2, 400, .inl (pm_clr 400 ch))), (b3, .inl (g3, 64, .inl kp)), (h0, .inr (0, [.ref a1, .ref a2, .ref a3, .int (nI N), .int fa])), (a1, .inl (k1, 400, .inl (pm_nf9 cn))), (a2, .inl (k2, 8000, .inl fl)), (a3, .inl (k3, 16, .inl rt))] t.heap ∧ va_K (dC, dI) vwCl [(g1, .boolean), (g2, .boolean), (g3, .int), (k1, .int), (k2, .int), (k3, .int)] t ∧ va_D (va_A [(m0, .inr (1, [.ref h0, .ref b1, .ref b2, .ref b3, .int (nI lim), .int (nI kc), .int (nI nr), .int (nI nf), .int (nI nc)])), (b1, .inl (g1, 400, .inl mr)), (b2, .inl (g2, 400, .inl ch)), (b3, .inl (g3, 64, .inl kp)), (h0, .inr (0, [.ref a1, .ref a2, .ref a3, .int (nI N), .int fa])), (a1, .inl (k1, 400, .inl (pm_nf9 cn))), (a2, .inl (k2, 8000, .inl fl)), (a3, .inl (k3, 16, .inl rt))] sz) [(m0, .inr (1, [.ref h0, .ref b1, .ref b2, .ref b3, .int (nI lim), .int (nI 0), .int (nI 0), .int (nI 400), .int (nI 400)])), (b1, .inl (g1, 400, .inl (pm_clr 400 mr))), (b2, .inl (g2, 400, .inl (pm_clr 400 ch))), (b3, .inl (g3, 64, .inl kp)), (h0, .inr (0, [.ref a1, .ref a2, .ref a3, .int (nI N), .int fa])), (a1, .inl (k1, 400, .inl (pm_nf9 cn))), (a2, .inl (k2, 8000, .inl fl)), (a3, .inl (k3, 16, .inl rt))]) (va_A [(m0, .inr (1, [.ref h0, .ref b1, .ref b2, .ref b3, .int (nI lim), .int (nI kc), .int (nI nr), .int (nI nf), .int (nI nc)])), (b1, .inl (g1, 400, .inl mr)), (b2, .inl (g2, 400, .inl ch)), (b3, .inl (g3, 64, .inl kp)), (h0, .inr (0, [.ref a1, .ref a2, .ref a3, .int (nI N), .int fa])), (a1, .inl (k1, 400, .inl (pm_nf9 cn))), (a2, .inl (k2, 8000, .inl fl)), (a3, .inl (k3, 16, .inl rt))] sz)) 0 0 (va_A [(m0, .inr (1, [.ref h0, .ref b1, .ref b2, .ref b3, .int (nI lim), .int (nI kc), .int (nI nr), .int (nI nf), .int (nI nc)])), (b1, .inl (g1, 400, .inl mr)), (b2, .inl (g2, 400, .inl ch)), (b3, .inl (g3, 64, .inl kp)), (h0, .inr (0, [.ref a1, .ref a2, .ref a3, .int (nI N), .int fa])), (a1, .inl (k1, 400, .inl (pm_nf9 cn))), (a2, .inl (k2, 8000, .inl fl)), (a3, .inl (k3, 16, .inl rt))] sz) := by
  refine Met.ofW (cc := cX1_forgetAll) (maxL := 2) (ret := (none)) (by decide) rfl ?_
  intro p e s m args below meth c s₁ B hml hv
  obtain ⟨rfl, hsz, hP, hK, hD0⟩ := hv
  have hx := B.exec
  have hb := B.bytes
  have hr := B.returns
  have hts : ∀ w ∈ gw, w.before _ s = true := fun w h => atoms_spec (ws := wsX1_forgetAll) B.pre w (List.mem_cons_of_mem _ h)
  have hown : s.vm.findClass RX1 = some m.cls := findClass_of_methodNamed B.named
  have hlocks := B.notSynchronized
  subst hsz
  have hD := hD0.self (sz := s.heap.size)
  generalize hAe : va_A [(m0, .inr (1, [.ref h0, .ref b1, .ref b2, .ref b3, .int (nI lim), .int (nI kc), .int (nI nr), .int (nI nf), .int (nI nc)])), (b1, .inl (g1, 400, .inl mr)), (b2, .inl (g2, 400, .inl ch)), (b3, .inl (g3, 64, .inl kp)), (h0, .inr (0, [.ref a1, .ref a2, .ref a3, .int (nI N), .int fa])), (a1, .inl (k1, 400, .inl (pm_nf9 cn))), (a2, .inl (k2, 8000, .inl fl)), (a3, .inl (k3, 16, .inl rt))] s.heap.size = A at hD ⊢
  have hA : ∀ q : Nat, s.heap.size ≤ q → A q := fun q h => by rw [← hAe]; exact Or.inr h
  have hP : va_P (dC, dI) vwCl [(m0, .inr (1, [.ref h0, .ref b1, .ref b2, .ref b3, .int (nI lim), .int (nI kc), .int (nI nr), .int (nI nf), .int (nI nc)])), (b1, .inl (g1, 400, .inl mr)), (b2, .inl (g2, 400, .inl ch)), (b3, .inl (g3, 64, .inl kp)), (h0, .inr (0, [.ref a1, .ref a2, .ref a3, .int (nI N), .int fa])), (a1, .inl (k1, 400, .inl (pm_nf9 cn))), (a2, .inl (k2, 8000, .inl fl)), (a3, .inl (k3, 16, .inl rt))] s.heap := hP
  have hl := lv_entry ([.ref m0]) (n := 2) (Nat.le_of_ble_eq_true rfl)
  rw [lg_entry_eq]
  generalize (lg_sl ([.ref m0]) ++ List.replicate (2 - (lg_sl ([.ref m0])).length) Slot.unset).toArray = ls at hl ⊢
  have hl : lv_has ls 2 [(0, .ref m0)] := hl
  obtain ⟨H, hH⟩ : ∃ H : Heap, H = s.heap := ⟨_, rfl⟩
  rw [← hH]
  rw [← hH] at hP
  have hS : va_S A s.heap H [] := by rw [hH]; exact va_S.rf
  clear hH
  refine lv_iconst (v := nI 0) hx hb dX1_forgetAll_0 (by decide +kernel) ?_
  refine lv_istore_n (lv' := [(1, .int (nI 0)), (0, .ref m0)]) hx hb dX1_forgetAll_1 rfl hl (by decide) rfl (fun ls hl => ?_)
  have hP : va_P (dC, dI) vwCl [(m0, .inr (1, [.ref h0, .ref b1, .ref b2, .ref b3, .int (nI lim), .int (nI kc), .int (nI nr), .int (nI nf), .int (nI nc)])), (b1, .inl (g1, 400, .inl (pm_clr 0 mr))), (b2, .inl (g2, 400, .inl (pm_clr 0 ch))), (b3, .inl (g3, 64, .inl kp)), (h0, .inr (0, [.ref a1, .ref a2, .ref a3, .int (nI N), .int fa])), (a1, .inl (k1, 400, .inl (pm_nf9 cn))), (a2, .inl (k2, 8000, .inl fl)), (a3, .inl (k3, 16, .inl rt))] H := by rw [pm_clr_0, pm_clr_0]; exact hP
  have hD : va_D A [(m0, .inr (1, [.ref h0, .ref b1, .ref b2, .ref b3, .int (nI lim), .int (nI kc), .int (nI nr), .int (nI nf), .int (nI nc)])), (b1, .inl (g1, 400, .inl (pm_clr 0 mr))), (b2, .inl (g2, 400, .inl (pm_clr 0 ch))), (b3, .inl (g3, 64, .inl kp)), (h0, .inr (0, [.ref a1, .ref a2, .ref a3, .int (nI N), .int fa])), (a1, .inl (k1, 400, .inl (pm_nf9 cn))), (a2, .inl (k2, 8000, .inl fl)), (a3, .inl (k3, 16, .inl rt))] := by rw [pm_clr_0, pm_clr_0]; exact hD
  refine lp_loop (σ := Nat) (head := 2) (fun k H locs ls => k ≤ 400 ∧ va_P (dC, dI) vwCl [(m0, .inr (1, [.ref h0, .ref b1, .ref b2, .ref b3, .int (nI lim), .int (nI kc), .int (nI nr), .int (nI nf), .int (nI nc)])), (b1, .inl (g1, 400, .inl (pm_clr k mr))), (b2, .inl (g2, 400, .inl (pm_clr k ch))), (b3, .inl (g3, 64, .inl kp)), (h0, .inr (0, [.ref a1, .ref a2, .ref a3, .int (nI N), .int fa])), (a1, .inl (k1, 400, .inl (pm_nf9 cn))), (a2, .inl (k2, 8000, .inl fl)), (a3, .inl (k3, 16, .inl rt))] H ∧ va_D A [(m0, .inr (1, [.ref h0, .ref b1, .ref b2, .ref b3, .int (nI lim), .int (nI kc), .int (nI nr), .int (nI nf), .int (nI nc)])), (b1, .inl (g1, 400, .inl (pm_clr k mr))), (b2, .inl (g2, 400, .inl (pm_clr k ch))), (b3, .inl (g3, 64, .inl kp)), (h0, .inr (0, [.ref a1, .ref a2, .ref a3, .int (nI N), .int fa])), (a1, .inl (k1, 400, .inl (pm_nf9 cn))), (a2, .inl (k2, 8000, .inl fl)), (a3, .inl (k3, 16, .inl rt))] ∧ va_S A s.heap H locs ∧ lv_has ls 2 [(1, .int (nI k)), (0, .ref m0)]) (fun k => 400 - k) ?_ 0 _ _ _ ⟨Nat.zero_le _, hP, hD, hS, lv_sub hl [0, 1] rfl⟩
  intro x H locs ls hI ih
  obtain ⟨k, rfl⟩ : ∃ y, y = x := ⟨x, rfl⟩
  obtain ⟨hk, hP, hD, hS, hl⟩ := hI
  refine lv_iload_n hx hb dX1_forgetAll_2 rfl (lv_at hl 0 rfl) ?_
  refine lv_sipush (v := nI 400) hx hb dX1_forgetAll_3 (by decide +kernel) ?_
  refine lv_icmp_ge (tgt := 29) hx hb dX1_forgetAll_6 (by decide) (fun c_6 => ?_) (fun c_6 => ?_)
  · rw [nI_leI (by omega) (by omega)] at c_6
    obtain rfl : k = 400 := by omega
    refine lv_aload_n hx hb dX1_forgetAll_29 rfl (lv_at hl 1 rfl) ?_
    refine lv_iconst (v := nI 0) hx hb dX1_forgetAll_30 (by decide +kernel) ?_
    refine va_put (D := (dC, dI)) (ci := 1) (v := .int (nI 0)) (ty := .int) (C := RX1) (T := TX1) (N := 9) hx hb hts iw_X1 tyX1 tyX1_ok nmX1 hown hK hP hD hS 0 rfl rfl 5 (by decide) (hts _ mf_X1_30) (fun _ h9 => h9) rfl (by decide +kernel) (rfl) (rfl) (Nat.le_of_ble_eq_true rfl) dX1_forgetAll_31 (fun H locs hP hD hS => ?_)
    have hP : va_P (dC, dI) vwCl [(m0, .inr (1, [.ref h0, .ref b1, .ref b2, .ref b3, .int (nI lim), .int (nI 0), .int (nI nr), .int (nI nf), .int (nI nc)])), (b1, .inl (g1, 400, .inl (pm_clr 400 mr))), (b2, .inl (g2, 400, .inl (pm_clr 400 ch))), (b3, .inl (g3, 64, .inl kp)), (h0, .inr (0, [.ref a1, .ref a2, .ref a3, .int (nI N), .int fa])), (a1, .inl (k1, 400, .inl (pm_nf9 cn))), (a2, .inl (k2, 8000, .inl fl)), (a3, .inl (k3, 16, .inl rt))] H := hP
    have hD : va_D A [(m0, .inr (1, [.ref h0, .ref b1, .ref b2, .ref b3, .int (nI lim), .int (nI 0), .int (nI nr), .int (nI nf), .int (nI nc)])), (b1, .inl (g1, 400, .inl (pm_clr 400 mr))), (b2, .inl (g2, 400, .inl (pm_clr 400 ch))), (b3, .inl (g3, 64, .inl kp)), (h0, .inr (0, [.ref a1, .ref a2, .ref a3, .int (nI N), .int fa])), (a1, .inl (k1, 400, .inl (pm_nf9 cn))), (a2, .inl (k2, 8000, .inl fl)), (a3, .inl (k3, 16, .inl rt))] := hD
    refine lv_aload_n hx hb dX1_forgetAll_34 rfl (lv_at hl 1 rfl) ?_
    refine lv_iconst (v := nI 0) hx hb dX1_forgetAll_35 (by decide +kernel) ?_
    refine va_put (D := (dC, dI)) (ci := 1) (v := .int (nI 0)) (ty := .int) (C := RX1) (T := TX1) (N := 9) hx hb hts iw_X1 tyX1 tyX1_ok nmX1 hown hK hP hD hS 0 rfl rfl 6 (by decide) (hts _ mf_X1_33) (fun _ h9 => h9) rfl (by decide +kernel) (rfl) (rfl) (Nat.le_of_ble_eq_true rfl) dX1_forgetAll_36 (fun H locs hP hD hS => ?_)
    have hP : va_P (dC, dI) vwCl [(m0, .inr (1, [.ref h0, .ref b1, .ref b2, .ref b3, .int (nI lim), .int (nI 0), .int (nI 0), .int (nI nf), .int (nI nc)])), (b1, .inl (g1, 400, .inl (pm_clr 400 mr))), (b2, .inl (g2, 400, .inl (pm_clr 400 ch))), (b3, .inl (g3, 64, .inl kp)), (h0, .inr (0, [.ref a1, .ref a2, .ref a3, .int (nI N), .int fa])), (a1, .inl (k1, 400, .inl (pm_nf9 cn))), (a2, .inl (k2, 8000, .inl fl)), (a3, .inl (k3, 16, .inl rt))] H := hP
    have hD : va_D A [(m0, .inr (1, [.ref h0, .ref b1, .ref b2, .ref b3, .int (nI lim), .int (nI 0), .int (nI 0), .int (nI nf), .int (nI nc)])), (b1, .inl (g1, 400, .inl (pm_clr 400 mr))), (b2, .inl (g2, 400, .inl (pm_clr 400 ch))), (b3, .inl (g3, 64, .inl kp)), (h0, .inr (0, [.ref a1, .ref a2, .ref a3, .int (nI N), .int fa])), (a1, .inl (k1, 400, .inl (pm_nf9 cn))), (a2, .inl (k2, 8000, .inl fl)), (a3, .inl (k3, 16, .inl rt))] := hD
    refine lv_aload_n hx hb dX1_forgetAll_39 rfl (lv_at hl 1 rfl) ?_
    refine lv_sipush (v := nI 400) hx hb dX1_forgetAll_40 (by decide +kernel) ?_
    refine va_put (D := (dC, dI)) (ci := 1) (v := .int (nI 400)) (ty := .int) (C := RX1) (T := TX1) (N := 9) hx hb hts iw_X1 tyX1 tyX1_ok nmX1 hown hK hP hD hS 0 rfl rfl 7 (by decide) (hts _ mf_X1_36) (fun _ h9 => h9) rfl (by decide +kernel) (rfl) (rfl) (Nat.le_of_ble_eq_true rfl) dX1_forgetAll_43 (fun H locs hP hD hS => ?_)
    have hP : va_P (dC, dI) vwCl [(m0, .inr (1, [.ref h0, .ref b1, .ref b2, .ref b3, .int (nI lim), .int (nI 0), .int (nI 0), .int (nI 400), .int (nI nc)])), (b1, .inl (g1, 400, .inl (pm_clr 400 mr))), (b2, .inl (g2, 400, .inl (pm_clr 400 ch))), (b3, .inl (g3, 64, .inl kp)), (h0, .inr (0, [.ref a1, .ref a2, .ref a3, .int (nI N), .int fa])), (a1, .inl (k1, 400, .inl (pm_nf9 cn))), (a2, .inl (k2, 8000, .inl fl)), (a3, .inl (k3, 16, .inl rt))] H := hP
    have hD : va_D A [(m0, .inr (1, [.ref h0, .ref b1, .ref b2, .ref b3, .int (nI lim), .int (nI 0), .int (nI 0), .int (nI 400), .int (nI nc)])), (b1, .inl (g1, 400, .inl (pm_clr 400 mr))), (b2, .inl (g2, 400, .inl (pm_clr 400 ch))), (b3, .inl (g3, 64, .inl kp)), (h0, .inr (0, [.ref a1, .ref a2, .ref a3, .int (nI N), .int fa])), (a1, .inl (k1, 400, .inl (pm_nf9 cn))), (a2, .inl (k2, 8000, .inl fl)), (a3, .inl (k3, 16, .inl rt))] := hD
    refine lv_aload_n hx hb dX1_forgetAll_46 rfl (lv_at hl 1 rfl) ?_
    refine lv_sipush (v := nI 400) hx hb dX1_forgetAll_47 (by decide +kernel) ?_
    refine va_put (D := (dC, dI)) (ci := 1) (v := .int (nI 400)) (ty := .int) (C := RX1) (T := TX1) (N := 9) hx hb hts iw_X1 tyX1 tyX1_ok nmX1 hown hK hP hD hS 0 rfl rfl 8 (by decide) (hts _ mf_X1_39) (fun _ h9 => h9) rfl (by decide +kernel) (rfl) (rfl) (Nat.le_of_ble_eq_true rfl) dX1_forgetAll_50 (fun H locs hP hD hS => ?_)
    have hP : va_P (dC, dI) vwCl [(m0, .inr (1, [.ref h0, .ref b1, .ref b2, .ref b3, .int (nI lim), .int (nI 0), .int (nI 0), .int (nI 400), .int (nI 400)])), (b1, .inl (g1, 400, .inl (pm_clr 400 mr))), (b2, .inl (g2, 400, .inl (pm_clr 400 ch))), (b3, .inl (g3, 64, .inl kp)), (h0, .inr (0, [.ref a1, .ref a2, .ref a3, .int (nI N), .int fa])), (a1, .inl (k1, 400, .inl (pm_nf9 cn))), (a2, .inl (k2, 8000, .inl fl)), (a3, .inl (k3, 16, .inl rt))] H := hP
    have hD : va_D A [(m0, .inr (1, [.ref h0, .ref b1, .ref b2, .ref b3, .int (nI lim), .int (nI 0), .int (nI 0), .int (nI 400), .int (nI 400)])), (b1, .inl (g1, 400, .inl (pm_clr 400 mr))), (b2, .inl (g2, 400, .inl (pm_clr 400 ch))), (b3, .inl (g3, 64, .inl kp)), (h0, .inr (0, [.ref a1, .ref a2, .ref a3, .int (nI N), .int fa])), (a1, .inl (k1, 400, .inl (pm_nf9 cn))), (a2, .inl (k2, 8000, .inl fl)), (a3, .inl (k3, 16, .inl rt))] := hD
    exact W.vret hx hb hr (fun t ht hW => ⟨⟨(), rfl, trivial, by rw [ht]; exact hP, va_K.moved hW.alike hK, hD⟩, hS.F ht⟩) hS.2.2 dX1_forgetAll_53
  · rw [nI_leI (by omega) (by omega)] at c_6
    refine lv_aload_n hx hb dX1_forgetAll_9 rfl (lv_at hl 1 rfl) ?_
    refine va_get (D := (dC, dI)) (ci := 1) (v := .ref b1) (C := RX1) (T := TX1) (N := 9) hx hb hts iw_X1 hown hK hP 0 rfl rfl 1 (by decide) (hts _ mf_X1_15) (fun _ h9 => h9) rfl dX1_forgetAll_10 ?_
    refine lv_iload_n hx hb dX1_forgetAll_13 rfl (lv_at hl 0 rfl) ?_
    refine lv_iconst (v := nI 0) hx hb dX1_forgetAll_14 (by decide +kernel) ?_
    refine va_zast hx hb hK hP hD hS 1 0 rfl rfl (vp_in_nI (by omega) (by omega)) dX1_forgetAll_15 (fun H locs hP hD hS => ?_)
    rw [nI_clamp (by omega)] at hP hD
    rw [pm_z0] at hP hD
    have hP : va_P (dC, dI) vwCl [(m0, .inr (1, [.ref h0, .ref b1, .ref b2, .ref b3, .int (nI lim), .int (nI kc), .int (nI nr), .int (nI nf), .int (nI nc)])), (b1, .inl (g1, 400, .inl (upd (pm_clr k mr) k 0))), (b2, .inl (g2, 400, .inl (pm_clr k ch))), (b3, .inl (g3, 64, .inl kp)), (h0, .inr (0, [.ref a1, .ref a2, .ref a3, .int (nI N), .int fa])), (a1, .inl (k1, 400, .inl (pm_nf9 cn))), (a2, .inl (k2, 8000, .inl fl)), (a3, .inl (k3, 16, .inl rt))] H := hP
    have hD : va_D A [(m0, .inr (1, [.ref h0, .ref b1, .ref b2, .ref b3, .int (nI lim), .int (nI kc), .int (nI nr), .int (nI nf), .int (nI nc)])), (b1, .inl (g1, 400, .inl (upd (pm_clr k mr) k 0))), (b2, .inl (g2, 400, .inl (pm_clr k ch))), (b3, .inl (g3, 64, .inl kp)), (h0, .inr (0, [.ref a1, .ref a2, .ref a3, .int (nI N), .int fa])), (a1, .inl (k1, 400, .inl (pm_nf9 cn))), (a2, .inl (k2, 8000, .inl fl)), (a3, .inl (k3, 16, .inl rt))] := hD
    rw [show upd (pm_clr k mr) k 0 = pm_clr (k + 1) mr from pm_clr_s k mr] at hP hD
    refine lv_aload_n hx hb dX1_forgetAll_16 rfl (lv_at hl 1 rfl) ?_
    refine va_get (D := (dC, dI)) (ci := 1) (v := .ref b2) (C := RX1) (T := TX1) (N := 9) hx hb hts iw_X1 hown hK hP 0 rfl rfl 2 (by decide) (hts _ mf_X1_19) (fun _ h9 => h9) rfl dX1_forgetAll_17 ?_
    refine lv_iload_n hx hb dX1_forgetAll_20 rfl (lv_at hl 0 rfl) ?_
    refine lv_iconst (v := nI 0) hx hb dX1_forgetAll_21 (by decide +kernel) ?_
    refine va_zast hx hb hK hP hD hS 2 1 rfl rfl (vp_in_nI (by omega) (by omega)) dX1_forgetAll_22 (fun H locs hP hD hS => ?_)
    rw [nI_clamp (by omega)] at hP hD
    rw [pm_z0] at hP hD
    have hP : va_P (dC, dI) vwCl [(m0, .inr (1, [.ref h0, .ref b1, .ref b2, .ref b3, .int (nI lim), .int (nI kc), .int (nI nr), .int (nI nf), .int (nI nc)])), (b1, .inl (g1, 400, .inl (pm_clr (k + 1) mr))), (b2, .inl (g2, 400, .inl (upd (pm_clr k ch) k 0))), (b3, .inl (g3, 64, .inl kp)), (h0, .inr (0, [.ref a1, .ref a2, .ref a3, .int (nI N), .int fa])), (a1, .inl (k1, 400, .inl (pm_nf9 cn))), (a2, .inl (k2, 8000, .inl fl)), (a3, .inl (k3, 16, .inl rt))] H := hP
    have hD : va_D A [(m0, .inr (1, [.ref h0, .ref b1, .ref b2, .ref b3, .int (nI lim), .int (nI kc), .int (nI nr), .int (nI nf), .int (nI nc)])), (b1, .inl (g1, 400, .inl (pm_clr (k + 1) mr))), (b2, .inl (g2, 400, .inl (upd (pm_clr k ch) k 0))), (b3, .inl (g3, 64, .inl kp)), (h0, .inr (0, [.ref a1, .ref a2, .ref a3, .int (nI N), .int fa])), (a1, .inl (k1, 400, .inl (pm_nf9 cn))), (a2, .inl (k2, 8000, .inl fl)), (a3, .inl (k3, 16, .inl rt))] := hD
    rw [show upd (pm_clr k ch) k 0 = pm_clr (k + 1) ch from pm_clr_s k ch] at hP hD
    refine lv_iinc (v := nI (k + 1)) (lv' := [(1, .int (nI (k + 1))), (0, .ref m0)]) hx hb dX1_forgetAll_23 hl (k := 0) rfl (nI_1 _) (by decide) rfl (fun ls hl => ?_)
    refine lv_goto (tgt := 2) hx hb dX1_forgetAll_26 (by decide) ?_
    exact ih (k + 1) _ _ _ ⟨by omega, hP, hD, hS, lv_sub hl [0, 1] rfl⟩ (by omega)

set_option maxHeartbeats 4000000 in
set_option maxRecDepth 100000 in
/-- Marker.noteChange(k) -/
theorem c_M_noteChange (l : Launch) (dC : Nat → ClassId) (dI : Nat → Nat → Nat) (m0 b1 b2 b3 : Nat) (g1 g2 g3 : ClassId) (mr ch kp : Nat → Int32) (lim kc nr nf nc : Nat) (h0 a1 a2 a3 : Nat) (k1 k2 k3 : ClassId) (N : Nat) (cn : Nat → Nat) (fl rt : Nat → Int32) (fa : Int32) (k : Nat) (sz : Nat) (hN : N ≤ 400) (hk : k < N) (hnc : nc ≤ 400) : Met l yX1_noteChange wsX1_noteChange ({ frames := 1, cells := 0, slots := 0, locals := 21 }) (va_Pc [.ref m0, .int (nI k)] (fun U => U.heap.size = sz ∧ va_P (dC, dI) vwCl [(m0, .inr (1, [.ref h0, .ref b1, .ref b2, .ref b3, .int (nI lim), .int (nI kc), .int (nI nr), .int (nI nf), .int (nI nc)])), (b1, .inl (g1, 400, .inl mr)), (b2, .inl (g2, 400, .inl ch)), (b3, .inl (g3, 64, .inl kp)), (h0, .inr (0, [.ref a1, .ref a2, .ref a3, .int (nI N), .int fa])), (a1, .inl (k1, 400, .inl (pm_nf9 cn))), (a2, .inl (k2, 8000, .inl fl)), (a3, .inl (k3, 16, .inl rt))] U.heap ∧ va_K (dC, dI) vwCl [(g1, .boolean), (g2, .boolean), (g3, .int), (k1, .int), (k2, .int), (k3, .int)] U ∧ va_D (fun _ => True) [(m0, .inr (1, [.ref h0, .ref b1, .ref b2, .ref b3, .int (nI lim), .int (nI kc), .int (nI nr), .int (nI nf), .int (nI nc)])), (b1, .inl (g1, 400, .inl mr)), (b2, .inl (g2, 400, .inl ch)), (b3, .inl (g3, 64, .inl kp)), (h0, .inr (0, [.ref a1, .ref a2, .ref a3, .int (nI N), .int fa])), (a1, .inl (k1, 400, .inl (pm_nf9 cn))), (a2, .inl (k2, 8000, .inl fl)), (a3, .inl (k3, 16, .inl rt))])) (va_Qv (fun (_ : Unit) => True) (fun (_ : Unit) (t : State) => va_P (dC, dI) vwCl [(m0, .inr (1, [.ref h0, .ref b1, .ref b2, .ref b3, .int (nI lim), .int (nI kc), .int (nI nr), .int (nI nf), .int (nI ((if k < nc then k else nc)))])), (b1, .inl (g1, 400, .inl mr)), (b2, .inl (g2, 400, .inl (upd ch k 1))), (b3, .inl (g3, 64, .inl kp)), (h0, .inr (0, [.ref a1, .ref a2, .ref a3, .int (nI N), .int fa])), (a1, .inl (k1, 400, .inl (pm_nf9 cn))), (a2, .inl (k2, 8000, .inl fl)), (a3, .inl (k3, 16, .inl rt))] t.heap ∧ va_K (dC, dI) vwCl [(g1, .boolean), (g2, .boolean), (g3, .int), (k1, .int), (k2, .int), (k3, .int)] t ∧ va_D (va_A [(m0, .inr (1, [.ref h0, .ref b1, .ref b2, .ref b3, .int (nI lim), .int (nI kc), .int (nI nr), .int (nI nf), .int (nI nc)])), (b1, .inl (g1, 400, .inl mr)), (b2, .inl (g2, 400, .inl ch)), (b3, .inl (g3, 64, .inl kp)), (h0, .inr (0, [.ref a1, .ref a2, .ref a3, .int (nI N), .int fa])), (a1, .inl (k1, 400, .inl (pm_nf9 cn))), (a2, .inl (k2, 8000, .inl fl)), (a3, .inl (k3, 16, .inl rt))] sz) [(m0, .inr (1, [.ref h0, .ref b1, .ref b2, .ref b3, .int (nI lim), .int (nI kc), .int (nI nr), .int (nI nf), .int (nI ((if k < nc then k else nc)))])), (b1, .inl (g1, 400, .inl mr)), (b2, .inl (g2, 400, .inl (upd ch k 1))), (b3, .inl (g3, 64, .inl kp)), (h0, .inr (0, [.ref a1, .ref a2, .ref a3, .int (nI N), .int fa])), (a1, .inl (k1, 400, .inl (pm_nf9 cn))), (a2, .inl (k2, 8000, .inl fl)), (a3, .inl (k3, 16, .inl rt))]) (va_A [(m0, .inr (1, [.ref h0, .ref b1, .ref b2, .ref b3, .int (nI lim), .int (nI kc), .int (nI nr), .int (nI nf), .int (nI nc)])), (b1, .inl (g1, 400, .inl mr)), (b2, .inl (g2, 400, .inl ch)), (b3, .inl (g3, 64, .inl kp)), (h0, .inr (0, [.ref a1, .ref a2, .ref a3, .int (nI N), .int fa])), (a1, .inl (k1, 400, .inl (pm_nf9 cn))), (a2, .inl (k2, 8000, .inl fl)), (a3, .inl (k3, 16, .inl rt))] sz)) 0 0 (va_A [(m0, .inr (1, [.ref h0, .ref b1, .ref b2, .ref b3, .int (nI lim), .int (nI kc), .int (nI nr), .int (nI nf), .int (nI nc)])), (b1, .inl (g1, 400, .inl mr)), (b2, .inl (g2, 400, .inl ch)), (b3, .inl (g3, 64, .inl kp)), (h0, .inr (0, [.ref a1, .ref a2, .ref a3, .int (nI N), .int fa])), (a1, .inl (k1, 400, .inl (pm_nf9 cn))), (a2, .inl (k2, 8000, .inl fl)), (a3, .inl (k3, 16, .inl rt))] sz) := by
  refine Met.ofW (cc := cX1_noteChange) (maxL := 2) (ret := (none)) (by decide) rfl ?_
  intro p e s m args below meth c s₁ B hml hv
  obtain ⟨rfl, hsz, hP, hK, hD0⟩ := hv
  have hx := B.exec
  have hb := B.bytes
  have hr := B.returns
  have hts : ∀ w ∈ gw, w.before _ s = true := fun w h => atoms_spec (ws := wsX1_noteChange) B.pre w (List.mem_cons_of_mem _ h)
  have hown : s.vm.findClass RX1 = some m.cls := findClass_of_methodNamed B.named
  have hlocks := B.notSynchronized
  subst hsz
  have hD := hD0.self (sz := s.heap.size)
  generalize hAe : va_A [(m0, .inr (1, [.ref h0, .ref b1, .ref b2, .ref b3, .int (nI lim), .int (nI kc), .int (nI nr), .int (nI nf), .int (nI nc)])), (b1, .inl (g1, 400, .inl mr)), (b2, .inl (g2, 400, .inl ch)), (b3, .inl (g3, 64, .inl kp)), (h0, .inr (0, [.ref a1, .ref a2, .ref a3, .int (nI N), .int fa])), (a1, .inl (k1, 400, .inl (pm_nf9 cn))), (a2, .inl (k2, 8000, .inl fl)), (a3, .inl (k3, 16, .inl rt))] s.heap.size = A at hD ⊢
  have hA : ∀ q : Nat, s.heap.size ≤ q → A q := fun q h => by rw [← hAe]; exact Or.inr h
  have hP : va_P (dC, dI) vwCl [(m0, .inr (1, [.ref h0, .ref b1, .ref b2, .ref b3, .int (nI lim), .int (nI kc), .int (nI nr), .int (nI nf), .int (nI nc)])), (b1, .inl (g1, 400, .inl mr)), (b2, .inl (g2, 400, .inl ch)), (b3, .inl (g3, 64, .inl kp)), (h0, .inr (0, [.ref a1, .ref a2, .ref a3, .int (nI N), .int fa])), (a1, .inl (k1, 400, .inl (pm_nf9 cn))), (a2, .inl (k2, 8000, .inl fl)), (a3, .inl (k3, 16, .inl rt))] s.heap := hP
  have hl := lv_entry ([.ref m0, .int (nI k)]) (n := 2) (Nat.le_of_ble_eq_true rfl)
  rw [lg_entry_eq]
  generalize (lg_sl ([.ref m0, .int (nI k)]) ++ List.replicate (2 - (lg_sl ([.ref m0, .int (nI k)])).length) Slot.unset).toArray = ls at hl ⊢
  have hl : lv_has ls 2 [(0, .ref m0), (1, .int (nI k))] := hl
  obtain ⟨H, hH⟩ : ∃ H : Heap, H = s.heap := ⟨_, rfl⟩
  rw [← hH]
  rw [← hH] at hP
  have hS : va_S A s.heap H [] := by rw [hH]; exact va_S.rf
  clear hH
  refine lv_aload_n hx hb dX1_noteChange_0 rfl (lv_at hl 0 rfl) ?_
  refine va_get (D := (dC, dI)) (ci := 1) (v := .ref h0) (C := RX1) (T := TX1) (N := 9) hx hb hts iw_X1 hown hK hP 0 rfl rfl 0 (by decide) (hts _ mf_X1_9) (fun _ h9 => h9) rfl dX1_noteChange_1 ?_
  refine lv_iload_n hx hb dX1_noteChange_4 rfl (lv_at hl 1 rfl) ?_
  have hPc := hP.sub (ws' := [(h0, .inr (0, [.ref a1, .ref a2, .ref a3, .int (nI N), .int fa])), (a1, .inl (k1, 400, .inl (pm_nf9 cn))), (a2, .inl (k2, 8000, .inl fl)), (a3, .inl (k3, 16, .inl rt))]) [4, 5, 6, 7] rfl
  have hDc := hD.sub (ws' := [(h0, .inr (0, [.ref a1, .ref a2, .ref a3, .int (nI N), .int fa])), (a1, .inl (k1, 400, .inl (pm_nf9 cn))), (a2, .inl (k2, 8000, .inl fl)), (a3, .inl (k3, 16, .inl rt))]) [4, 5, 6, 7] (by decide) rfl
  have hKc := hK.sub (tys' := [(k1, .int), (k2, .int), (k3, .int)]) [3, 4, 5] rfl
  have hFc := va_free (wc := [(h0, .inr (0, [.ref a1, .ref a2, .ref a3, .int (nI N), .int fa])), (a1, .inl (k1, 400, .inl (pm_nf9 cn))), (a2, .inl (k2, 8000, .inl fl)), (a3, .inl (k3, 16, .inl rt))]) hD hS hA [4, 5, 6, 7] rfl
  refine va_calli (va_runV (As := [.int (nI k)]) (rest := []) ⟨hx, hb, hml, hown, hts⟩ (c_H_has l dC dI h0 a1 a2 a3 k1 k2 k3 N cn fl rt fa (nI k) H.size) (cwV 1 hts (gw_V ml_X1_42 mi_X0_has ms_X0_has mn_X0 mc_X0_has) rfl rfl rfl (by decide +kernel) ⟨Nat.le_of_ble_eq_true rfl, Nat.le_of_ble_eq_true rfl⟩) ⟨fun a U g mk q => by obtain ⟨q0, q1, qP, qK, qD⟩ := q; exact ⟨q0, q1, qP, va_K.moved (u := U) (U := U.calling g mk a) (Vm.Alike.refl U.vm) qK, qD⟩, va_recv hKc hPc (ci := 0) (q0 := 0) rfl rfl, fun U hU hW => ⟨rfl, by rw [hU], by rw [hU]; exact hPc, va_K.moved hW.alike hKc, hDc.weaken (fun _ _ _ _ => trivial)⟩⟩ rfl rfl hl.1 rfl (lv_room (Nat.le_of_ble_eq_true rfl)) dX1_noteChange_5 ⟨Nat.le_of_ble_eq_true rfl, Nat.le_of_ble_eq_true rfl⟩) hS (fun q _ h => hFc q h) hFc (fun r_1 u t H1 locs ht hvm hw hB hz1 hk1 hS => ?_)
  obtain ⟨hP1, hK1, hD1⟩ := hB
  rw [ht] at hP1
  have hK1 := va_K.moved hvm.symm hK1
  obtain ⟨hP, hD⟩ := va_join (wr := [(m0, .inr (1, [.ref h0, .ref b1, .ref b2, .ref b3, .int (nI lim), .int (nI kc), .int (nI nr), .int (nI nf), .int (nI nc)])), (b1, .inl (g1, 400, .inl mr)), (b2, .inl (g2, 400, .inl ch)), (b3, .inl (g3, 64, .inl kp))]) (w1 := [(h0, .inr (0, [.ref a1, .ref a2, .ref a3, .int (nI N), .int fa])), (a1, .inl (k1, 400, .inl (pm_nf9 cn))), (a2, .inl (k2, 8000, .inl fl)), (a3, .inl (k3, 16, .inl rt))]) hP hD [4, 5, 6, 7] [0, 1, 2, 3] rfl rfl (by decide) (by decide) hk1 hFc hP1 hD1
  clear hPc hDc hKc hFc hP1 hK1 hD1
  generalize H1 = H at hP hS ⊢
  have hP : va_P (dC, dI) vwCl [(m0, .inr (1, [.ref h0, .ref b1, .ref b2, .ref b3, .int (nI lim), .int (nI kc), .int (nI nr), .int (nI nf), .int (nI nc)])), (b1, .inl (g1, 400, .inl mr)), (b2, .inl (g2, 400, .inl ch)), (b3, .inl (g3, 64, .inl kp)), (h0, .inr (0, [.ref a1, .ref a2, .ref a3, .int (nI N), .int fa])), (a1, .inl (k1, 400, .inl (pm_nf9 cn))), (a2, .inl (k2, 8000, .inl fl)), (a3, .inl (k3, 16, .inl rt))] H := hP.sub [0, 1, 2, 3, 4, 5, 6, 7] rfl
  have hD : va_D A [(m0, .inr (1, [.ref h0, .ref b1, .ref b2, .ref b3, .int (nI lim), .int (nI kc), .int (nI nr), .int (nI nf), .int (nI nc)])), (b1, .inl (g1, 400, .inl mr)), (b2, .inl (g2, 400, .inl ch)), (b3, .inl (g3, 64, .inl kp)), (h0, .inr (0, [.ref a1, .ref a2, .ref a3, .int (nI N), .int fa])), (a1, .inl (k1, 400, .inl (pm_nf9 cn))), (a2, .inl (k2, 8000, .inl fl)), (a3, .inl (k3, 16, .inl rt))] := hD.sub [0, 1, 2, 3, 4, 5, 6, 7] (by decide) rfl
  rcases pm_tf (pm_has N (nI k)) with hh_5 | hh_5
  · obtain rfl : r_1 = nI 1 := hw.trans (by rw [hh_5]; rfl)
    refine lv_if_eq (tgt := 31) hx hb dX1_noteChange_8 (by decide) (fun c_8 => absurd c_8 (by decide +kernel)) (fun c_8 => ?_)
    refine lv_aload_n hx hb dX1_noteChange_11 rfl (lv_at hl 0 rfl) ?_
    refine va_get (D := (dC, dI)) (ci := 1) (v := .ref b2) (C := RX1) (T := TX1) (N := 9) hx hb hts iw_X1 hown hK hP 0 rfl rfl 2 (by decide) (hts _ mf_X1_19) (fun _ h9 => h9) rfl dX1_noteChange_12 ?_
    refine lv_iload_n hx hb dX1_noteChange_15 rfl (lv_at hl 1 rfl) ?_
    refine lv_iconst (v := nI 1) hx hb dX1_noteChange_16 (by decide +kernel) ?_
    refine va_zast hx hb hK hP hD hS 2 1 rfl rfl (vp_in_nI (by omega) (by omega)) dX1_noteChange_17 (fun H locs hP hD hS => ?_)
    rw [nI_clamp (by omega)] at hP hD
    rw [pm_z1] at hP hD
    have hP : va_P (dC, dI) vwCl [(m0, .inr (1, [.ref h0, .ref b1, .ref b2, .ref b3, .int (nI lim), .int (nI kc), .int (nI nr), .int (nI nf), .int (nI nc)])), (b1, .inl (g1, 400, .inl mr)), (b2, .inl (g2, 400, .inl (upd ch k 1))), (b3, .inl (g3, 64, .inl kp)), (h0, .inr (0, [.ref a1, .ref a2, .ref a3, .int (nI N), .int fa])), (a1, .inl (k1, 400, .inl (pm_nf9 cn))), (a2, .inl (k2, 8000, .inl fl)), (a3, .inl (k3, 16, .inl rt))] H := hP
    have hD : va_D A [(m0, .inr (1, [.ref h0, .ref b1, .ref b2, .ref b3, .int (nI lim), .int (nI kc), .int (nI nr), .int (nI nf), .int (nI nc)])), (b1, .inl (g1, 400, .inl mr)), (b2, .inl (g2, 400, .inl (upd ch k 1))), (b3, .inl (g3, 64, .inl kp)), (h0, .inr (0, [.ref a1, .ref a2, .ref a3, .int (nI N), .int fa])), (a1, .inl (k1, 400, .inl (pm_nf9 cn))), (a2, .inl (k2, 8000, .inl fl)), (a3, .inl (k3, 16, .inl rt))] := hD
    refine lv_iload_n hx hb dX1_noteChange_18 rfl (lv_at hl 1 rfl) ?_
    refine lv_aload_n hx hb dX1_noteChange_19 rfl (lv_at hl 0 rfl) ?_
    refine va_get (D := (dC, dI)) (ci := 1) (v := .int (nI nc)) (C := RX1) (T := TX1) (N := 9) hx hb hts iw_X1 hown hK hP 0 rfl rfl 8 (by decide) (hts _ mf_X1_39) (fun _ h9 => h9) rfl dX1_noteChange_20 ?_
    refine lv_icmp_ge (tgt := 31) hx hb dX1_noteChange_23 (by decide) (fun c_23 => ?_) (fun c_23 => ?_)
    · rw [nI_leI (by omega) (by omega)] at c_23
      have e9 : (if k < nc then k else nc) = nc := if_neg (by omega)
      exact W.vret hx hb hr (fun t ht hW => ⟨⟨(), rfl, trivial, by rw [ht, e9]; exact hP, va_K.moved hW.alike hK, by rw [e9]; exact hD⟩, hS.F ht⟩) hS.2.2 dX1_noteChange_31
    · rw [nI_leI (by omega) (by omega)] at c_23
      refine lv_aload_n hx hb dX1_noteChange_26 rfl (lv_at hl 0 rfl) ?_
      refine lv_iload_n hx hb dX1_noteChange_27 rfl (lv_at hl 1 rfl) ?_
      refine va_put (D := (dC, dI)) (ci := 1) (v := .int (nI k)) (ty := .int) (C := RX1) (T := TX1) (N := 9) hx hb hts iw_X1 tyX1 tyX1_ok nmX1 hown hK hP hD hS 0 rfl rfl 8 (by decide) (hts _ mf_X1_39) (fun _ h9 => h9) rfl (by decide +kernel) (rfl) (rfl) (Nat.le_of_ble_eq_true rfl) dX1_noteChange_28 (fun H locs hP hD hS => ?_)
      have hP : va_P (dC, dI) vwCl [(m0, .inr (1, [.ref h0, .ref b1, .ref b2, .ref b3, .int (nI lim), .int (nI kc), .int (nI nr), .int (nI nf), .int (nI k)])), (b1, .inl (g1, 400, .inl mr)), (b2, .inl (g2, 400, .inl (upd ch k 1))), (b3, .inl (g3, 64, .inl kp)), (h0, .inr (0, [.ref a1, .ref a2, .ref a3, .int (nI N), .int fa])), (a1, .inl (k1, 400, .inl (pm_nf9 cn))), (a2, .inl (k2, 8000, .inl fl)), (a3, .inl (k3, 16, .inl rt))] H := hP
      have hD : va_D A [(m0, .inr (1, [.ref h0, .ref b1, .ref b2, .ref b3, .int (nI lim), .int (nI kc), .int (nI nr), .int (nI nf), .int (nI k)])), (b1, .inl (g1, 400, .inl mr)), (b2, .inl (g2, 400, .inl (upd ch k 1))), (b3, .inl (g3, 64, .inl kp)), (h0, .inr (0, [.ref a1, .ref a2, .ref a3, .int (nI N), .int fa])), (a1, .inl (k1, 400, .inl (pm_nf9 cn))), (a2, .inl (k2, 8000, .inl fl)), (a3, .inl (k3, 16, .inl rt))] := hD
      have e9 : (if k < nc then k else nc) = k := if_pos (by omega)
      exact W.vret hx hb hr (fun t ht hW => ⟨⟨(), rfl, trivial, by rw [ht, e9]; exact hP, va_K.moved hW.alike hK, by rw [e9]; exact hD⟩, hS.F ht⟩) hS.2.2 dX1_noteChange_31
  · exact absurd (pm_has_nI (by omega) hk) (by rw [hh_5]; decide)
end
section
set_option maxHeartbeats 4000000 in
set_option maxRecDepth 100000 in
/-- Marker.markAllThatIsLeft() -/
theorem c_M_markAllThatIsLeft (l : Launch) (dC : Nat → ClassId) (dI : Nat → Nat → Nat) (m0 b1 b2 b3 : Nat) (g1 g2 g3 : ClassId) (mr ch kp : Nat → Int32) (lim kc nr nf nc : Nat) (h0 a1 a2 a3 : Nat) (k1 k2 k3 : ClassId) (N : Nat) (cn : Nat → Nat) (fl rt : Nat → Int32) (fa : Int32) (n9 : Nat) (sz : Nat) (hN : N ≤ 400) (hc : ∀ k, k < N → cn k ≤ 20) (hI : pm_Inv N cn fl (mr, ch, kp, lim, kc, nr, nf, nc)) (hn9 : n9 = 1000000) : Met l yX1_markAllThatIsLeft wsX1_markAllThatIsLeft ({ frames := 5, cells := 0, slots := 0, locals := 109 }) (va_Pc [.ref m0] (fun U => U.heap.size = sz ∧ va_P (dC, dI) vwCl [(m0, .inr (1, [.ref h0, .ref b1, .ref b2, .ref b3, .int (nI lim), .int (nI kc), .int (nI nr), .int (nI nf), .int (nI nc)])), (b1, .inl (g1, 400, .inl mr)), (b2, .inl (g2, 400, .inl ch)), (b3, .inl (g3, 64, .inl kp)), (h0, .inr (0, [.ref a1, .ref a2, .ref a3, .int (nI N), .int fa])), (a1, .inl (k1, 400, .inl (pm_nf9 cn))), (a2, .inl (k2, 8000, .inl fl)), (a3, .inl (k3, 16, .inl rt))] U.heap ∧ va_K (dC, dI) vwCl [(g1, .boolean), (g2, .boolean), (g3, .int), (k1, .int), (k2, .int), (k3, .int)] U ∧ va_D (fun _ => True) [(m0, .inr (1, [.ref h0, .ref b1, .ref b2, .ref b3, .int (nI lim), .int (nI kc), .int (nI nr), .int (nI nf), .int (nI nc)])), (b1, .inl (g1, 400, .inl mr)), (b2, .inl (g2, 400, .inl ch)), (b3, .inl (g3, 64, .inl kp)), (h0, .inr (0, [.ref a1, .ref a2, .ref a3, .int (nI N), .int fa])), (a1, .inl (k1, 400, .inl (pm_nf9 cn))), (a2, .inl (k2, 8000, .inl fl)), (a3, .inl (k3, 16, .inl rt))])) (va_Qv (fun (u : pm_M) => u = pm_fin n9 N cn fl rt (mr, ch, kp, lim, kc, nr, nf, nc)) (fun (u : pm_M) (t : State) => va_P (dC, dI) vwCl [(m0, .inr (1, [.ref h0, .ref b1, .ref b2, .ref b3, .int (nI (u.2.2.2.1)), .int (nI (u.2.2.2.2.1)), .int (nI (u.2.2.2.2.2.1)), .int (nI (u.2.2.2.2.2.2.1)), .int (nI (u.2.2.2.2.2.2.2))])), (b1, .inl (g1, 400, .inl (u.1))), (b2, .inl (g2, 400, .inl (u.2.1))), (b3, .inl (g3, 64, .inl (u.2.2.1))), (h0, .inr (0, [.ref a1, .ref a2, .ref a3, .int (nI N), .int fa])), (a1, .inl (k1, 400, .inl (pm_nf9 cn))), (a2, .inl (k2, 8000, .inl fl)), (a3, .inl (k3, 16, .inl rt))] t.heap ∧ va_K (dC, dI) vwCl [(g1, .boolean), (g2, .boolean), (g3, .int), (k1, .int), (k2, .int), (k3, .int)] t ∧ va_D (va_A [(m0, .inr (1, [.ref h0, .ref b1, .ref b2, .ref b3, .int (nI lim), .int (nI kc), .int (nI nr), .int (nI nf), .int (nI nc)])), (b1, .inl (g1, 400, .inl mr)), (b2, .inl (g2, 400, .inl ch)), (b3, .inl (g3, 64, .inl kp)), (h0, .inr (0, [.ref a1, .ref a2, .ref a3, .int (nI N), .int fa])), (a1, .inl (k1, 400, .inl (pm_nf9 cn))), (a2, .inl (k2, 8000, .inl fl)), (a3, .inl (k3, 16, .inl rt))] sz) [(m0, .inr (1, [.ref h0, .ref b1, .ref b2, .ref b3, .int (nI (u.2.2.2.1)), .int (nI (u.2.2.2.2.1)), .int (nI (u.2.2.2.2.2.1)), .int (nI (u.2.2.2.2.2.2.1)), .int (nI (u.2.2.2.2.2.2.2))])), (b1, .inl (g1, 400, .inl (u.1))), (b2, .inl (g2, 400, .inl (u.2.1))), (b3, .inl (g3, 64, .inl (u.2.2.1))), (h0, .inr (0, [.ref a1, .ref a2, .ref a3, .int (nI N), .int fa])), (a1, .inl (k1, 400, .inl (pm_nf9 cn))), (a2, .inl (k2, 8000, .inl fl)), (a3, .inl (k3, 16, .inl rt))]) (va_A [(m0, .inr (1, [.ref h0, .ref b1, .ref b2, .ref b3, .int (nI lim), .int (nI kc), .int (nI nr), .int (nI nf), .int (nI nc)])), (b1, .inl (g1, 400, .inl mr)), (b2, .inl (g2, 400, .inl ch)), (b3, .inl (g3, 64, .inl kp)), (h0, .inr (0, [.ref a1, .ref a2, .ref a3, .int (nI N), .int fa])), (a1, .inl (k1, 400, .inl (pm_nf9 cn))), (a2, .inl (k2, 8000, .inl fl)), (a3, .inl (k3, 16, .inl rt))] sz)) 0 0 (va_A [(m0, .inr (1, [.ref h0, .ref b1, .ref b2, .ref b3, .int (nI lim), .int (nI kc), .int (nI nr), .int (nI nf), .int (nI nc)])), (b1, .inl (g1, 400, .inl mr)), (b2, .inl (g2, 400, .inl ch)), (b3, .inl (g3, 64, .inl kp)), (h0, .inr (0, [.ref a1, .ref a2, .ref a3, .int (nI N), .int fa])), (a1, .inl (k1, 400, .inl (pm_nf9 cn))), (a2, .inl (k2, 8000, .inl fl)), (a3, .inl (k3, 16, .inl rt))] sz) := by
  refine Met.ofW (cc := cX1_markAllThatIsLeft) (maxL := 3) (ret := (none)) (by decide) rfl ?_
  intro p e s m args below meth c s₁ B hml hv
  obtain ⟨rfl, hsz, hP, hK, hD0⟩ := hv
  have hx := B.exec
  have hb := B.bytes
  have hr := B.returns
  have hts : ∀ w ∈ gw, w.before _ s = true := fun w h => atoms_spec (ws := wsX1_markAllThatIsLeft) B.pre w (List.mem_cons_of_mem _ h)
  have hown : s.vm.findClass RX1 = some m.cls := findClass_of_methodNamed B.named
  have hlocks := B.notSynchronized
  subst hsz
  have hD := hD0.self (sz := s.heap.size)
  generalize hAe : va_A [(m0, .inr (1, [.ref h0, .ref b1, .ref b2, .ref b3, .int (nI lim), .int (nI kc), .int (nI nr), .int (nI nf), .int (nI nc)])), (b1, .inl (g1, 400, .inl mr)), (b2, .inl (g2, 400, .inl ch)), (b3, .inl (g3, 64, .inl kp)), (h0, .inr (0, [.ref a1, .ref a2, .ref a3, .int (nI N), .int fa])), (a1, .inl (k1, 400, .inl (pm_nf9 cn))), (a2, .inl (k2, 8000, .inl fl)), (a3, .inl (k3, 16, .inl rt))] s.heap.size = A at hD ⊢
  have hA : ∀ q : Nat, s.heap.size ≤ q → A q := fun q h => by rw [← hAe]; exact Or.inr h
  have hP : va_P (dC, dI) vwCl [(m0, .inr (1, [.ref h0, .ref b1, .ref b2, .ref b3, .int (nI lim), .int (nI kc), .int (nI nr), .int (nI nf), .int (nI nc)])), (b1, .inl (g1, 400, .inl mr)), (b2, .inl (g2, 400, .inl ch)), (b3, .inl (g3, 64, .inl kp)), (h0, .inr (0, [.ref a1, .ref a2, .ref a3, .int (nI N), .int fa])), (a1, .inl (k1, 400, .inl (pm_nf9 cn))), (a2, .inl (k2, 8000, .inl fl)), (a3, .inl (k3, 16, .inl rt))] s.heap := hP
  have hl := lv_entry ([.ref m0]) (n := 3) (Nat.le_of_ble_eq_true rfl)
  rw [lg_entry_eq]
  generalize (lg_sl ([.ref m0]) ++ List.replicate (3 - (lg_sl ([.ref m0])).length) Slot.unset).toArray = ls at hl ⊢
  have hl : lv_has ls 3 [(0, .ref m0)] := hl
  obtain ⟨H, hH⟩ : ∃ H : Heap, H = s.heap := ⟨_, rfl⟩
  rw [← hH]
  rw [← hH] at hP
  have hS : va_S A s.heap H [] := by rw [hH]; exact va_S.rf
  clear hH
  refine lv_aload_n hx hb dX1_markAllThatIsLeft_0 rfl (lv_at hl 0 rfl) ?_
  refine lv_iconst (v := nI 0) hx hb dX1_markAllThatIsLeft_1 (by decide +kernel) ?_
  refine va_put (D := (dC, dI)) (ci := 1) (v := .int (nI 0)) (ty := .int) (C := RX1) (T := TX1) (N := 9) hx hb hts iw_X1 tyX1 tyX1_ok nmX1 hown hK hP hD hS 0 rfl rfl 6 (by decide) (hts _ mf_X1_33) (fun _ h9 => h9) rfl (by decide +kernel) (rfl) (rfl) (Nat.le_of_ble_eq_true rfl) dX1_markAllThatIsLeft_2 (fun H locs hP hD hS => ?_)
  have hP : va_P (dC, dI) vwCl [(m0, .inr (1, [.ref h0, .ref b1, .ref b2, .ref b3, .int (nI lim), .int (nI kc), .int (nI 0), .int (nI nf), .int (nI nc)])), (b1, .inl (g1, 400, .inl mr)), (b2, .inl (g2, 400, .inl ch)), (b3, .inl (g3, 64, .inl kp)), (h0, .inr (0, [.ref a1, .ref a2, .ref a3, .int (nI N), .int fa])), (a1, .inl (k1, 400, .inl (pm_nf9 cn))), (a2, .inl (k2, 8000, .inl fl)), (a3, .inl (k3, 16, .inl rt))] H := hP
  have hD : va_D A [(m0, .inr (1, [.ref h0, .ref b1, .ref b2, .ref b3, .int (nI lim), .int (nI kc), .int (nI 0), .int (nI nf), .int (nI nc)])), (b1, .inl (g1, 400, .inl mr)), (b2, .inl (g2, 400, .inl ch)), (b3, .inl (g3, 64, .inl kp)), (h0, .inr (0, [.ref a1, .ref a2, .ref a3, .int (nI N), .int fa])), (a1, .inl (k1, 400, .inl (pm_nf9 cn))), (a2, .inl (k2, 8000, .inl fl)), (a3, .inl (k3, 16, .inl rt))] := hD
  refine lv_iconst (v := nI 1) hx hb dX1_markAllThatIsLeft_5 (by decide +kernel) ?_
  refine lv_istore_n (lv' := [(1, .int (nI 1)), (0, .ref m0)]) hx hb dX1_markAllThatIsLeft_6 rfl hl (by decide) rfl (fun ls hl => ?_)
  refine lv_iconst (v := nI 0) hx hb dX1_markAllThatIsLeft_7 (by decide +kernel) ?_
  refine lv_istore_n (lv' := [(2, .int (nI 0)), (1, .int (nI 1)), (0, .ref m0)]) hx hb dX1_markAllThatIsLeft_8 rfl hl (by decide) rfl (fun ls hl => ?_)
  have hI0 : pm_Inv N cn fl (mr, ch, kp, lim, kc, 0, nf, nc) := ⟨⟨hI.1.1, hI.1.2.1, Nat.zero_le _, hI.1.2.2.2.1, hI.1.2.2.2.2⟩, hI.2.1, hI.2.2.1, hI.2.2.2⟩
  have hl : lv_has ls 3 [(2, .int (nI 0)), (1, .int (pm_b true)), (0, .ref m0)] := hl
  refine lp_loop (σ := Nat × Bool × (Nat → Int32) × (Nat → Int32) × (Nat → Int32) × Nat × Nat × Nat × Nat × Nat) (head := 9) (fun x H locs ls => match x with | (i, b, mk1, ch1, kp1, lim1, kc1, nr1, nf1, nc1) => i ≤ n9 ∧ pm_Inv N cn fl (mk1, ch1, kp1, lim1, kc1, nr1, nf1, nc1) ∧ pm_tg (pm_fs N cn fl rt) b (n9 - i) (mk1, ch1, kp1, lim1, kc1, nr1, nf1, nc1) = pm_fin n9 N cn fl rt (mr, ch, kp, lim, kc, nr, nf, nc) ∧ va_P (dC, dI) vwCl [(m0, .inr (1, [.ref h0, .ref b1, .ref b2, .ref b3, .int (nI lim1), .int (nI kc1), .int (nI nr1), .int (nI nf1), .int (nI nc1)])), (b1, .inl (g1, 400, .inl mk1)), (b2, .inl (g2, 400, .inl ch1)), (b3, .inl (g3, 64, .inl kp1)), (h0, .inr (0, [.ref a1, .ref a2, .ref a3, .int (nI N), .int fa])), (a1, .inl (k1, 400, .inl (pm_nf9 cn))), (a2, .inl (k2, 8000, .inl fl)), (a3, .inl (k3, 16, .inl rt))] H ∧ va_D A [(m0, .inr (1, [.ref h0, .ref b1, .ref b2, .ref b3, .int (nI lim1), .int (nI kc1), .int (nI nr1), .int (nI nf1), .int (nI nc1)])), (b1, .inl (g1, 400, .inl mk1)), (b2, .inl (g2, 400, .inl ch1)), (b3, .inl (g3, 64, .inl kp1)), (h0, .inr (0, [.ref a1, .ref a2, .ref a3, .int (nI N), .int fa])), (a1, .inl (k1, 400, .inl (pm_nf9 cn))), (a2, .inl (k2, 8000, .inl fl)), (a3, .inl (k3, 16, .inl rt))] ∧ va_S A s.heap H locs ∧ lv_has ls 3 [(2, .int (nI i)), (1, .int (pm_b b)), (0, .ref m0)]) (fun x => match x with | (i, b, mk1, ch1, kp1, lim1, kc1, nr1, nf1, nc1) => n9 - i) ?_ (0, true, mr, ch, kp, lim, kc, 0, nf, nc) _ _ _ ⟨Nat.zero_le _, hI0, rfl, hP, hD, hS, lv_sub hl [0, 1, 2] rfl⟩
  intro x H locs ls hI ih
  obtain ⟨i, b, mk1, ch1, kp1, lim1, kc1, nr1, nf1, nc1⟩ := x
  obtain ⟨hi, hI1, hT, hP, hD, hS, hl⟩ := hI
  dsimp only at ih
  refine lv_iload_n hx hb dX1_markAllThatIsLeft_9 rfl (lv_at hl 0 rfl) ?_
  refine lv_ldc (v := nI 1000000) hx hb hown (hts _ mo_X1_55) dX1_markAllThatIsLeft_10 ?_
  refine lv_icmp_ge (tgt := 45) hx hb dX1_markAllThatIsLeft_12 (by decide) (fun c_12 => ?_) (fun c_12 => ?_)
  · rw [nI_leI (by omega) (by omega)] at c_12
    exact W.vret hx hb hr (fun t ht hW => ⟨⟨(mk1, ch1, kp1, lim1, kc1, nr1, nf1, nc1), rfl, pm_tg0 hT (by omega), by rw [ht]; exact hP, va_K.moved hW.alike hK, hD⟩, hS.F ht⟩) hS.2.2 dX1_markAllThatIsLeft_45
  · rw [nI_leI (by omega) (by omega)] at c_12
    cases b with
    | true =>
      have hl : lv_has ls 3 [(2, .int (nI i)), (1, .int (nI 1)), (0, .ref m0)] := hl
      refine lv_iload_n hx hb dX1_markAllThatIsLeft_15 rfl (lv_at hl 1 rfl) ?_
      refine lv_if_eq (tgt := 45) hx hb dX1_markAllThatIsLeft_16 (by decide) (fun c_16 => absurd c_16 (by decide +kernel)) (fun c_16 => ?_)
      refine lv_aload_n hx hb dX1_markAllThatIsLeft_19 rfl (lv_at hl 2 rfl) ?_
      have hPc := hP.sub (ws' := [(m0, .inr (1, [.ref h0, .ref b1, .ref b2, .ref b3, .int (nI lim1), .int (nI kc1), .int (nI nr1), .int (nI nf1), .int (nI nc1)])), (b1, .inl (g1, 400, .inl mk1)), (b2, .inl (g2, 400, .inl ch1)), (b3, .inl (g3, 64, .inl kp1)), (h0, .inr (0, [.ref a1, .ref a2, .ref a3, .int (nI N), .int fa])), (a1, .inl (k1, 400, .inl (pm_nf9 cn))), (a2, .inl (k2, 8000, .inl fl)), (a3, .inl (k3, 16, .inl rt))]) [0, 1, 2, 3, 4, 5, 6, 7] rfl
      have hDc := hD.sub (ws' := [(m0, .inr (1, [.ref h0, .ref b1, .ref b2, .ref b3, .int (nI lim1), .int (nI kc1), .int (nI nr1), .int (nI nf1), .int (nI nc1)])), (b1, .inl (g1, 400, .inl mk1)), (b2, .inl (g2, 400, .inl ch1)), (b3, .inl (g3, 64, .inl kp1)), (h0, .inr (0, [.ref a1, .ref a2, .ref a3, .int (nI N), .int fa])), (a1, .inl (k1, 400, .inl (pm_nf9 cn))), (a2, .inl (k2, 8000, .inl fl)), (a3, .inl (k3, 16, .inl rt))]) [0, 1, 2, 3, 4, 5, 6, 7] (by decide) rfl
      have hKc := hK.sub (tys' := [(g1, .boolean), (g2, .boolean), (g3, .int), (k1, .int), (k2, .int), (k3, .int)]) [0, 1, 2, 3, 4, 5] rfl
      have hFc := va_free (wc := [(m0, .inr (1, [.ref h0, .ref b1, .ref b2, .ref b3, .int (nI lim1), .int (nI kc1), .int (nI nr1), .int (nI nf1), .int (nI nc1)])), (b1, .inl (g1, 400, .inl mk1)), (b2, .inl (g2, 400, .inl ch1)), (b3, .inl (g3, 64, .inl kp1)), (h0, .inr (0, [.ref a1, .ref a2, .ref a3, .int (nI N), .int fa])), (a1, .inl (k1, 400, .inl (pm_nf9 cn))), (a2, .inl (k2, 8000, .inl fl)), (a3, .inl (k3, 16, .inl rt))]) hD hS hA [0, 1, 2, 3, 4, 5, 6, 7] rfl
      refine va_calli (va_runV (As := []) (rest := []) ⟨hx, hb, hml, hown, hts⟩ (c_M_markStep l dC dI m0 b1 b2 b3 g1 g2 g3 mk1 ch1 kp1 lim1 kc1 nr1 nf1 nc1 h0 a1 a2 a3 k1 k2 k3 N cn fl rt fa H.size (hN) (hc) (hI1.1.1) (hI1.1.2.1) (hI1.1.2.2.1) (hI1.1.2.2.2.1) (hI1.1.2.2.2.2)) (cwV 0 hts (gw_V ml_X1_48 mi_X1_markStep ms_X1_markStep mn_X1 mc_X1_markStep) rfl rfl rfl (by decide +kernel) ⟨Nat.le_of_ble_eq_true rfl, Nat.le_of_ble_eq_true rfl⟩) ⟨fun a U g mk q => by obtain ⟨q0, q1, qP, qK, qD⟩ := q; exact ⟨q0, q1, qP, va_K.moved (u := U) (U := U.calling g mk a) (Vm.Alike.refl U.vm) qK, qD⟩, va_recv hKc hPc (ci := 1) (q0 := 0) rfl rfl, fun U hU hW => ⟨rfl, by rw [hU], by rw [hU]; exact hPc, va_K.moved hW.alike hKc, hDc.weaken (fun _ _ _ _ => trivial)⟩⟩ rfl rfl hl.1 rfl (lv_room (Nat.le_of_ble_eq_true rfl)) dX1_markAllThatIsLeft_20 ⟨Nat.le_of_ble_eq_true rfl, Nat.le_of_ble_eq_true rfl⟩) hS (fun q _ h => hFc q h) hFc (fun r_1 u t H1 locs ht hvm hw hB hz1 hk1 hS => ?_)
      obtain ⟨mk2, ch2, kp2, lim2, kc2, nr2, nf2, nc2⟩ := u
      obtain ⟨hP1, hK1, hD1⟩ := hB
      rw [ht] at hP1
      have hK1 := va_K.moved hvm.symm hK1
      obtain ⟨hP, hD⟩ := va_join (wr := []) (w1 := [(m0, .inr (1, [.ref h0, .ref b1, .ref b2, .ref b3, .int (nI lim2), .int (nI kc2), .int (nI nr2), .int (nI nf2), .int (nI nc2)])), (b1, .inl (g1, 400, .inl mk2)), (b2, .inl (g2, 400, .inl ch2)), (b3, .inl (g3, 64, .inl kp2)), (h0, .inr (0, [.ref a1, .ref a2, .ref a3, .int (nI N), .int fa])), (a1, .inl (k1, 400, .inl (pm_nf9 cn))), (a2, .inl (k2, 8000, .inl fl)), (a3, .inl (k3, 16, .inl rt))]) hP hD [0, 1, 2, 3, 4, 5, 6, 7] [] rfl rfl (by decide) (by decide) hk1 hFc hP1 hD1
      clear hPc hDc hKc hFc hP1 hK1 hD1
      generalize H1 = H at hP hS ⊢
      have hP : va_P (dC, dI) vwCl [(m0, .inr (1, [.ref h0, .ref b1, .ref b2, .ref b3, .int (nI lim2), .int (nI kc2), .int (nI nr2), .int (nI nf2), .int (nI nc2)])), (b1, .inl (g1, 400, .inl mk2)), (b2, .inl (g2, 400, .inl ch2)), (b3, .inl (g3, 64, .inl kp2)), (h0, .inr (0, [.ref a1, .ref a2, .ref a3, .int (nI N), .int fa])), (a1, .inl (k1, 400, .inl (pm_nf9 cn))), (a2, .inl (k2, 8000, .inl fl)), (a3, .inl (k3, 16, .inl rt))] H := hP.sub [0, 1, 2, 3, 4, 5, 6, 7] rfl
      have hD : va_D A [(m0, .inr (1, [.ref h0, .ref b1, .ref b2, .ref b3, .int (nI lim2), .int (nI kc2), .int (nI nr2), .int (nI nf2), .int (nI nc2)])), (b1, .inl (g1, 400, .inl mk2)), (b2, .inl (g2, 400, .inl ch2)), (b3, .inl (g3, 64, .inl kp2)), (h0, .inr (0, [.ref a1, .ref a2, .ref a3, .int (nI N), .int fa])), (a1, .inl (k1, 400, .inl (pm_nf9 cn))), (a2, .inl (k2, 8000, .inl fl)), (a3, .inl (k3, 16, .inl rt))] := hD.sub [0, 1, 2, 3, 4, 5, 6, 7] (by decide) rfl
      obtain ⟨hw, hw2⟩ := hw
      rcases pm_tf ((pm_ms N cn fl rt (mk1, ch1, kp1, lim1, kc1, nr1, nf1, nc1)).1) with hh_20 | hh_20
      · obtain rfl : r_1 = nI 1 := hw.trans (by rw [hh_20]; rfl)
        refine lv_if_ne (tgt := 33) hx hb dX1_markAllThatIsLeft_23 (by decide) (fun c_23 => ?_) (fun c_23 => absurd c_23 (by decide +kernel))
        refine lv_iconst (v := nI 1) hx hb dX1_markAllThatIsLeft_33 (by decide +kernel) ?_
        refine lv_goto (tgt := 38) hx hb dX1_markAllThatIsLeft_34 (by decide) ?_
        refine lv_istore_n (lv' := [(1, .int (nI 1)), (2, .int (nI i)), (0, .ref m0)]) hx hb dX1_markAllThatIsLeft_38 rfl hl (by decide) rfl (fun ls hl => ?_)
        refine lv_iinc (v := nI (i + 1)) (lv' := [(2, .int (nI (i + 1))), (1, .int (nI 1)), (0, .ref m0)]) hx hb dX1_markAllThatIsLeft_39 hl (k := 1) rfl (nI_1 _) (by decide) rfl (fun ls hl => ?_)
        refine lv_goto (tgt := 9) hx hb dX1_markAllThatIsLeft_42 (by decide) ?_
        have hl : lv_has ls 3 [(2, .int (nI (i + 1))), (1, .int (pm_b true)), (0, .ref m0)] := hl
        exact ih (i + 1, true, mk2, ch2, kp2, lim2, kc2, nr2, nf2, nc2) _ _ _ ⟨by omega, by rw [hw2]; exact (pm_ms_ok (rt := rt) hN hI1).1, by rw [hw2]; exact (pm_fsA hh_20 (by omega)).trans hT, hP, hD, hS, lv_sub hl [0, 1, 2] rfl⟩ (by omega)
      · obtain rfl : r_1 = nI 0 := hw.trans (by rw [hh_20]; rfl)
        have hI2 : pm_Inv N cn fl (mk2, ch2, kp2, lim2, kc2, nr2, nf2, nc2) := by rw [hw2]; exact (pm_ms_ok (rt := rt) hN hI1).1
        refine lv_if_ne (tgt := 33) hx hb dX1_markAllThatIsLeft_23 (by decide) (fun c_23 => absurd c_23 (by decide +kernel)) (fun c_23 => ?_)
        refine lv_aload_n hx hb dX1_markAllThatIsLeft_26 rfl (lv_at hl 2 rfl) ?_
        have hPc := hP.sub (ws' := [(m0, .inr (1, [.ref h0, .ref b1, .ref b2, .ref b3, .int (nI lim2), .int (nI kc2), .int (nI nr2), .int (nI nf2), .int (nI nc2)])), (b1, .inl (g1, 400, .inl mk2)), (b2, .inl (g2, 400, .inl ch2)), (b3, .inl (g3, 64, .inl kp2)), (h0, .inr (0, [.ref a1, .ref a2, .ref a3, .int (nI N), .int fa])), (a1, .inl (k1, 400, .inl (pm_nf9 cn))), (a2, .inl (k2, 8000, .inl fl)), (a3, .inl (k3, 16, .inl rt))]) [0, 1, 2, 3, 4, 5, 6, 7] rfl
        have hDc := hD.sub (ws' := [(m0, .inr (1, [.ref h0, .ref b1, .ref b2, .ref b3, .int (nI lim2), .int (nI kc2), .int (nI nr2), .int (nI nf2), .int (nI nc2)])), (b1, .inl (g1, 400, .inl mk2)), (b2, .inl (g2, 400, .inl ch2)), (b3, .inl (g3, 64, .inl kp2)), (h0, .inr (0, [.ref a1, .ref a2, .ref a3, .int (nI N), .int fa])), (a1, .inl (k1, 400, .inl (pm_nf9 cn))), (a2, .inl (k2, 8000, .inl fl)), (a3, .inl (k3, 16, .inl rt))]) [0, 1, 2, 3, 4, 5, 6, 7] (by decide) rfl
        have hKc := hK.sub (tys' := [(g1, .boolean), (g2, .boolean), (g3, .int), (k1, .int), (k2, .int), (k3, .int)]) [0, 1, 2, 3, 4, 5] rfl
        have hFc := va_free (wc := [(m0, .inr (1, [.ref h0, .ref b1, .ref b2, .ref b3, .int (nI lim2), .int (nI kc2), .int (nI nr2), .int (nI nf2), .int (nI nc2)])), (b1, .inl (g1, 400, .inl mk2)), (b2, .inl (g2, 400, .inl ch2)), (b3, .inl (g3, 64, .inl kp2)), (h0, .inr (0, [.ref a1, .ref a2, .ref a3, .int (nI N), .int fa])), (a1, .inl (k1, 400, .inl (pm_nf9 cn))), (a2, .inl (k2, 8000, .inl fl)), (a3, .inl (k3, 16, .inl rt))]) hD hS hA [0, 1, 2, 3, 4, 5, 6, 7] rfl
        refine va_calli (va_runV (As := []) (rest := []) ⟨hx, hb, hml, hown, hts⟩ (c_M_cleanStep l dC dI m0 b1 b2 b3 g1 g2 g3 mk2 ch2 kp2 lim2 kc2 nr2 nf2 nc2 h0 a1 a2 a3 k1 k2 k3 N cn fl rt fa H.size (hN) (hc) (hI2.1.1) (hI2.1.2.1) (hI2.1.2.2.1) (hI2.1.2.2.2.1) (hI2.1.2.2.2.2)) (cwV 0 hts (gw_V ml_X1_52 mi_X1_cleanStep ms_X1_cleanStep mn_X1 mc_X1_cleanStep) rfl rfl rfl (by decide +kernel) ⟨Nat.le_of_ble_eq_true rfl, Nat.le_of_ble_eq_true rfl⟩) ⟨fun a U g mk q => by obtain ⟨q0, q1, qP, qK, qD⟩ := q; exact ⟨q0, q1, qP, va_K.moved (u := U) (U := U.calling g mk a) (Vm.Alike.refl U.vm) qK, qD⟩, va_recv hKc hPc (ci := 1) (q0 := 0) rfl rfl, fun U hU hW => ⟨rfl, by rw [hU], by rw [hU]; exact hPc, va_K.moved hW.alike hKc, hDc.weaken (fun _ _ _ _ => trivial)⟩⟩ rfl rfl hl.1 rfl (lv_room (Nat.le_of_ble_eq_true rfl)) dX1_markAllThatIsLeft_27 ⟨Nat.le_of_ble_eq_true rfl, Nat.le_of_ble_eq_true rfl⟩) hS (fun q _ h => hFc q h) hFc (fun r_2 u t H1 locs ht hvm hw hB hz1 hk1 hS => ?_)
        obtain ⟨mk3, ch3, kp3, lim3, kc3, nr3, nf3, nc3⟩ := u
        obtain ⟨hP1, hK1, hD1⟩ := hB
        rw [ht] at hP1
        have hK1 := va_K.moved hvm.symm hK1
        obtain ⟨hP, hD⟩ := va_join (wr := []) (w1 := [(m0, .inr (1, [.ref h0, .ref b1, .ref b2, .ref b3, .int (nI lim3), .int (nI kc3), .int (nI nr3), .int (nI nf3), .int (nI nc3)])), (b1, .inl (g1, 400, .inl mk3)), (b2, .inl (g2, 400, .inl ch3)), (b3, .inl (g3, 64, .inl kp3)), (h0, .inr (0, [.ref a1, .ref a2, .ref a3, .int (nI N), .int fa])), (a1, .inl (k1, 400, .inl (pm_nf9 cn))), (a2, .inl (k2, 8000, .inl fl)), (a3, .inl (k3, 16, .inl rt))]) hP hD [0, 1, 2, 3, 4, 5, 6, 7] [] rfl rfl (by decide) (by decide) hk1 hFc hP1 hD1
        clear hPc hDc hKc hFc hP1 hK1 hD1
        generalize H1 = H at hP hS ⊢
        have hP : va_P (dC, dI) vwCl [(m0, .inr (1, [.ref h0, .ref b1, .ref b2, .ref b3, .int (nI lim3), .int (nI kc3), .int (nI nr3), .int (nI nf3), .int (nI nc3)])), (b1, .inl (g1, 400, .inl mk3)), (b2, .inl (g2, 400, .inl ch3)), (b3, .inl (g3, 64, .inl kp3)), (h0, .inr (0, [.ref a1, .ref a2, .ref a3, .int (nI N), .int fa])), (a1, .inl (k1, 400, .inl (pm_nf9 cn))), (a2, .inl (k2, 8000, .inl fl)), (a3, .inl (k3, 16, .inl rt))] H := hP.sub [0, 1, 2, 3, 4, 5, 6, 7] rfl
        have hD : va_D A [(m0, .inr (1, [.ref h0, .ref b1, .ref b2, .ref b3, .int (nI lim3), .int (nI kc3), .int (nI nr3), .int (nI nf3), .int (nI nc3)])), (b1, .inl (g1, 400, .inl mk3)), (b2, .inl (g2, 400, .inl ch3)), (b3, .inl (g3, 64, .inl kp3)), (h0, .inr (0, [.ref a1, .ref a2, .ref a3, .int (nI N), .int fa])), (a1, .inl (k1, 400, .inl (pm_nf9 cn))), (a2, .inl (k2, 8000, .inl fl)), (a3, .inl (k3, 16, .inl rt))] := hD.sub [0, 1, 2, 3, 4, 5, 6, 7] (by decide) rfl
        obtain ⟨hw, hw3⟩ := hw
        rcases pm_tf ((pm_cs N cn fl (mk2, ch2, kp2, lim2, kc2, nr2, nf2, nc2)).1) with hh_27 | hh_27
        · obtain rfl : r_2 = nI 1 := hw.trans (by rw [hh_27]; rfl)
          refine lv_if_eq (tgt := 37) hx hb dX1_markAllThatIsLeft_30 (by decide) (fun c_30 => absurd c_30 (by decide +kernel)) (fun c_30 => ?_)
          refine lv_iconst (v := nI 1) hx hb dX1_markAllThatIsLeft_33 (by decide +kernel) ?_
          refine lv_goto (tgt := 38) hx hb dX1_markAllThatIsLeft_34 (by decide) ?_
          refine lv_istore_n (lv' := [(1, .int (nI 1)), (2, .int (nI i)), (0, .ref m0)]) hx hb dX1_markAllThatIsLeft_38 rfl hl (by decide) rfl (fun ls hl => ?_)
          refine lv_iinc (v := nI (i + 1)) (lv' := [(2, .int (nI (i + 1))), (1, .int (nI 1)), (0, .ref m0)]) hx hb dX1_markAllThatIsLeft_39 hl (k := 1) rfl (nI_1 _) (by decide) rfl (fun ls hl => ?_)
          refine lv_goto (tgt := 9) hx hb dX1_markAllThatIsLeft_42 (by decide) ?_
          have hl : lv_has ls 3 [(2, .int (nI (i + 1))), (1, .int (pm_b true)), (0, .ref m0)] := hl
          exact ih (i + 1, true, mk3, ch3, kp3, lim3, kc3, nr3, nf3, nc3) _ _ _ ⟨by omega, by rw [hw3]; exact (pm_cs_ok (rt := rt) hN hI2).1, by rw [hw3, hw2]; exact (pm_fsB hh_20 (hw2 ▸ hh_27) (by omega)).trans hT, hP, hD, hS, lv_sub hl [0, 1, 2] rfl⟩ (by omega)
        · obtain rfl : r_2 = nI 0 := hw.trans (by rw [hh_27]; rfl)
          refine lv_if_eq (tgt := 37) hx hb dX1_markAllThatIsLeft_30 (by decide) (fun c_30 => ?_) (fun c_30 => absurd c_30 (by decide +kernel))
          refine lv_iconst (v := nI 0) hx hb dX1_markAllThatIsLeft_37 (by decide +kernel) ?_
          refine lv_istore_n (lv' := [(1, .int (nI 0)), (2, .int (nI i)), (0, .ref m0)]) hx hb dX1_markAllThatIsLeft_38 rfl hl (by decide) rfl (fun ls hl => ?_)
          refine lv_iinc (v := nI (i + 1)) (lv' := [(2, .int (nI (i + 1))), (1, .int (nI 0)), (0, .ref m0)]) hx hb dX1_markAllThatIsLeft_39 hl (k := 1) rfl (nI_1 _) (by decide) rfl (fun ls hl => ?_)
          refine lv_goto (tgt := 9) hx hb dX1_markAllThatIsLeft_42 (by decide) ?_
          have hl : lv_has ls 3 [(2, .int (nI (i + 1))), (1, .int (pm_b false)), (0, .ref m0)] := hl
          exact ih (i + 1, false, mk3, ch3, kp3, lim3, kc3, nr3, nf3, nc3) _ _ _ ⟨by omega, by rw [hw3]; exact (pm_cs_ok (rt := rt) hN hI2).1, by rw [hw3, hw2]; exact (pm_fsC hh_20 (hw2 ▸ hh_27) (by omega)).trans hT, hP, hD, hS, lv_sub hl [0, 1, 2] rfl⟩ (by omega)
    | false =>
      have hl : lv_has ls 3 [(2, .int (nI i)), (1, .int (nI 0)), (0, .ref m0)] := hl
      refine lv_iload_n hx hb dX1_markAllThatIsLeft_15 rfl (lv_at hl 1 rfl) ?_
      refine lv_if_eq (tgt := 45) hx hb dX1_markAllThatIsLeft_16 (by decide) (fun c_16 => ?_) (fun c_16 => absurd c_16 (by decide +kernel))
      exact W.vret hx hb hr (fun t ht hW => ⟨⟨(mk1, ch1, kp1, lim1, kc1, nr1, nf1, nc1), rfl, hT, by rw [ht]; exact hP, va_K.moved hW.alike hK, hD⟩, hS.F ht⟩) hS.2.2 dX1_markAllThatIsLeft_45
end
section
theorem dX2_init_0 : decode cX2_init 0 = .ok (.aload_n 0, 1) := by decide +kernel
theorem dX2_init_1 : decode cX2_init 1 = .ok (.invokespecial 3, 3) := by decide +kernel
theorem dX2_init_4 : decode cX2_init 4 = .ok (.aload_n 0, 1) := by decide +kernel
theorem dX2_init_5 : decode cX2_init 5 = .ok (.aload_n 1, 1) := by decide +kernel
theorem dX2_init_6 : decode cX2_init 6 = .ok (.putfield 9, 3) := by decide +kernel
theorem dX2_init_9 : decode cX2_init 9 = .ok (.aload_n 0, 1) := by decide +kernel
theorem dX2_init_10 : decode cX2_init 10 = .ok (.sipush 400, 3) := by decide +kernel
theorem dX2_init_13 : decode cX2_init 13 = .ok (.newarray .boolean, 2) := by decide +kernel
theorem dX2_init_15 : decode cX2_init 15 = .ok (.putfield 15, 3) := by decide +kernel
theorem dX2_init_18 : decode cX2_init 18 = .ok (.aload_n 0, 1) := by decide +kernel
theorem dX2_init_19 : decode cX2_init 19 = .ok (.sipush 400, 3) := by decide +kernel
theorem dX2_init_22 : decode cX2_init 22 = .ok (.newarray .int, 2) := by decide +kernel
theorem dX2_init_24 : decode cX2_init 24 = .ok (.putfield 19, 3) := by decide +kernel
theorem dX2_init_27 : decode cX2_init 27 = .ok (.aload_n 0, 1) := by decide +kernel
theorem dX2_init_28 : decode cX2_init 28 = .ok (.iconst 0, 1) := by decide +kernel
theorem dX2_init_29 : decode cX2_init 29 = .ok (.putfield 23, 3) := by decide +kernel
theorem dX2_init_32 : decode cX2_init 32 = .ok (.return_, 1) := by decide +kernel
theorem dX2_search_0 : decode cX2_search 0 = .ok (.iconst 0, 1) := by decide +kernel
theorem dX2_search_1 : decode cX2_search 1 = .ok (.istore_n 1, 1) := by decide +kernel
theorem dX2_search_2 : decode cX2_search 2 = .ok (.iload_n 1, 1) := by decide +kernel
theorem dX2_search_3 : decode cX2_search 3 = .ok (.sipush 400, 3) := by decide +kernel
theorem dX2_search_6 : decode cX2_search 6 = .ok (.if_icmp .ge 16, 3) := by decide +kernel
theorem dX2_search_9 : decode cX2_search 9 = .ok (.aload_n 0, 1) := by decide +kernel
theorem dX2_search_10 : decode cX2_search 10 = .ok (.getfield 15, 3) := by decide +kernel
theorem dX2_search_13 : decode cX2_search 13 = .ok (.iload_n 1, 1) := by decide +kernel
theorem dX2_search_14 : decode cX2_search 14 = .ok (.iconst 0, 1) := by decide +kernel
theorem dX2_search_15 : decode cX2_search 15 = .ok (.bastore, 1) := by decide +kernel
theorem dX2_search_16 : decode cX2_search 16 = .ok (.iinc 1 1, 3) := by decide +kernel
theorem dX2_search_19 : decode cX2_search 19 = .ok (.goto (-17), 3) := by decide +kernel
theorem dX2_search_22 : decode cX2_search 22 = .ok (.aload_n 0, 1) := by decide +kernel
theorem dX2_search_23 : decode cX2_search 23 = .ok (.iconst 0, 1) := by decide +kernel
theorem dX2_search_24 : decode cX2_search 24 = .ok (.putfield 23, 3) := by decide +kernel
theorem dX2_search_27 : decode cX2_search 27 = .ok (.iconst 0, 1) := by decide +kernel
theorem dX2_search_28 : decode cX2_search 28 = .ok (.istore_n 1, 1) := by decide +kernel
theorem dX2_search_29 : decode cX2_search 29 = .ok (.iload_n 1, 1) := by decide +kernel
theorem dX2_search_30 : decode cX2_search 30 = .ok (.bipush 16, 2) := by decide +kernel
theorem dX2_search_32 : decode cX2_search 32 = .ok (.if_icmp .ge 21, 3) := by decide +kernel
theorem dX2_search_35 : decode cX2_search 35 = .ok (.aload_n 0, 1) := by decide +kernel
theorem dX2_search_36 : decode cX2_search 36 = .ok (.aload_n 0, 1) := by decide +kernel
theorem dX2_search_37 : decode cX2_search 37 = .ok (.getfield 9, 3) := by decide +kernel
theorem dX2_search_40 : decode cX2_search 40 = .ok (.iload_n 1, 1) := by decide +kernel
theorem dX2_search_41 : decode cX2_search 41 = .ok (.invokevirtual 27, 3) := by decide +kernel
theorem dX2_search_44 : decode cX2_search 44 = .ok (.invokevirtual 33, 3) := by decide +kernel
theorem dX2_search_47 : decode cX2_search 47 = .ok (.iinc 1 1, 3) := by decide +kernel
theorem dX2_search_50 : decode cX2_search 50 = .ok (.goto (-21), 3) := by decide +kernel
theorem dX2_search_53 : decode cX2_search 53 = .ok (.iconst 0, 1) := by decide +kernel
theorem dX2_search_54 : decode cX2_search 54 = .ok (.istore_n 1, 1) := by decide +kernel
theorem dX2_search_55 : decode cX2_search 55 = .ok (.iload_n 1, 1) := by decide +kernel
theorem dX2_search_56 : decode cX2_search 56 = .ok (.sipush 400, 3) := by decide +kernel
theorem dX2_search_59 : decode cX2_search 59 = .ok (.if_icmp .ge 27, 3) := by decide +kernel
theorem dX2_search_62 : decode cX2_search 62 = .ok (.iload_n 1, 1) := by decide +kernel
theorem dX2_search_63 : decode cX2_search 63 = .ok (.aload_n 0, 1) := by decide +kernel
theorem dX2_search_64 : decode cX2_search 64 = .ok (.getfield 23, 3) := by decide +kernel
theorem dX2_search_67 : decode cX2_search 67 = .ok (.if_icmp .ge 19, 3) := by decide +kernel
theorem dX2_search_70 : decode cX2_search 70 = .ok (.aload_n 0, 1) := by decide +kernel
theorem dX2_search_71 : decode cX2_search 71 = .ok (.aload_n 0, 1) := by decide +kernel
theorem dX2_search_72 : decode cX2_search 72 = .ok (.getfield 19, 3) := by decide +kernel
theorem dX2_search_75 : decode cX2_search 75 = .ok (.iload_n 1, 1) := by decide +kernel
theorem dX2_search_76 : decode cX2_search 76 = .ok (.iaload, 1) := by decide +kernel
theorem dX2_search_77 : decode cX2_search 77 = .ok (.invokevirtual 37, 3) := by decide +kernel
theorem dX2_search_80 : decode cX2_search 80 = .ok (.iinc 1 1, 3) := by decide +kernel
theorem dX2_search_83 : decode cX2_search 83 = .ok (.goto (-28), 3) := by decide +kernel
theorem dX2_search_86 : decode cX2_search 86 = .ok (.return_, 1) := by decide +kernel
theorem dX2_enter_0 : decode cX2_enter 0 = .ok (.aload_n 0, 1) := by decide +kernel
theorem dX2_enter_1 : decode cX2_enter 1 = .ok (.getfield 9, 3) := by decide +kernel
theorem dX2_enter_4 : decode cX2_enter 4 = .ok (.iload_n 1, 1) := by decide +kernel
theorem dX2_enter_5 : decode cX2_enter 5 = .ok (.invokevirtual 40, 3) := by decide +kernel
theorem dX2_enter_8 : decode cX2_enter 8 = .ok (.ifCond .eq 56, 3) := by decide +kernel
theorem dX2_enter_11 : decode cX2_enter 11 = .ok (.aload_n 0, 1) := by decide +kernel
theorem dX2_enter_12 : decode cX2_enter 12 = .ok (.getfield 15, 3) := by decide +kernel
theorem dX2_enter_15 : decode cX2_enter 15 = .ok (.iload_n 1, 1) := by decide +kernel
theorem dX2_enter_16 : decode cX2_enter 16 = .ok (.baload, 1) := by decide +kernel
theorem dX2_enter_17 : decode cX2_enter 17 = .ok (.ifCond .ne 47, 3) := by decide +kernel
theorem dX2_enter_20 : decode cX2_enter 20 = .ok (.aload_n 0, 1) := by decide +kernel
theorem dX2_enter_21 : decode cX2_enter 21 = .ok (.getfield 23, 3) := by decide +kernel
theorem dX2_enter_24 : decode cX2_enter 24 = .ok (.ifCond .lt 40, 3) := by decide +kernel
theorem dX2_enter_27 : decode cX2_enter 27 = .ok (.aload_n 0, 1) := by decide +kernel
theorem dX2_enter_28 : decode cX2_enter 28 = .ok (.getfield 23, 3) := by decide +kernel
theorem dX2_enter_31 : decode cX2_enter 31 = .ok (.sipush 400, 3) := by decide +kernel
theorem dX2_enter_34 : decode cX2_enter 34 = .ok (.if_icmp .ge 30, 3) := by decide +kernel
theorem dX2_enter_37 : decode cX2_enter 37 = .ok (.aload_n 0, 1) := by decide +kernel
theorem dX2_enter_38 : decode cX2_enter 38 = .ok (.getfield 15, 3) := by decide +kernel
theorem dX2_enter_41 : decode cX2_enter 41 = .ok (.iload_n 1, 1) := by decide +kernel
theorem dX2_enter_42 : decode cX2_enter 42 = .ok (.iconst 1, 1) := by decide +kernel
theorem dX2_enter_43 : decode cX2_enter 43 = .ok (.bastore, 1) := by decide +kernel
theorem dX2_enter_44 : decode cX2_enter 44 = .ok (.aload_n 0, 1) := by decide +kernel
theorem dX2_enter_45 : decode cX2_enter 45 = .ok (.getfield 19, 3) := by decide +kernel
theorem dX2_enter_48 : decode cX2_enter 48 = .ok (.aload_n 0, 1) := by decide +kernel
theorem dX2_enter_49 : decode cX2_enter 49 = .ok (.getfield 23, 3) := by decide +kernel
theorem dX2_enter_52 : decode cX2_enter 52 = .ok (.iload_n 1, 1) := by decide +kernel
theorem dX2_enter_53 : decode cX2_enter 53 = .ok (.iastore, 1) := by decide +kernel
theorem dX2_enter_54 : decode cX2_enter 54 = .ok (.aload_n 0, 1) := by decide +kernel
theorem dX2_enter_55 : decode cX2_enter 55 = .ok (.dup, 1) := by decide +kernel
theorem dX2_enter_56 : decode cX2_enter 56 = .ok (.getfield 23, 3) := by decide +kernel
theorem dX2_enter_59 : decode cX2_enter 59 = .ok (.iconst 1, 1) := by decide +kernel
theorem dX2_enter_60 : decode cX2_enter 60 = .ok (.iadd, 1) := by decide +kernel
theorem dX2_enter_61 : decode cX2_enter 61 = .ok (.putfield 23, 3) := by decide +kernel
theorem dX2_enter_64 : decode cX2_enter 64 = .ok (.return_, 1) := by decide +kernel
theorem dX2_enterFieldsOf_0 : decode cX2_enterFieldsOf 0 = .ok (.aload_n 0, 1) := by decide +kernel
theorem dX2_enterFieldsOf_1 : decode cX2_enterFieldsOf 1 = .ok (.getfield 9, 3) := by decide +kernel
theorem dX2_enterFieldsOf_4 : decode cX2_enterFieldsOf 4 = .ok (.iload_n 1, 1) := by decide +kernel
theorem dX2_enterFieldsOf_5 : decode cX2_enterFieldsOf 5 = .ok (.invokevirtual 44, 3) := by decide +kernel
theorem dX2_enterFieldsOf_8 : decode cX2_enterFieldsOf 8 = .ok (.istore_n 2, 1) := by decide +kernel
theorem dX2_enterFieldsOf_9 : decode cX2_enterFieldsOf 9 = .ok (.iconst 0, 1) := by decide +kernel
theorem dX2_enterFieldsOf_10 : decode cX2_enterFieldsOf 10 = .ok (.istore_n 3, 1) := by decide +kernel
theorem dX2_enterFieldsOf_11 : decode cX2_enterFieldsOf 11 = .ok (.iload_n 3, 1) := by decide +kernel
theorem dX2_enterFieldsOf_12 : decode cX2_enterFieldsOf 12 = .ok (.iload_n 2, 1) := by decide +kernel
theorem dX2_enterFieldsOf_13 : decode cX2_enterFieldsOf 13 = .ok (.if_icmp .ge 22, 3) := by decide +kernel
theorem dX2_enterFieldsOf_16 : decode cX2_enterFieldsOf 16 = .ok (.aload_n 0, 1) := by decide +kernel
theorem dX2_enterFieldsOf_17 : decode cX2_enterFieldsOf 17 = .ok (.aload_n 0, 1) := by decide +kernel
theorem dX2_enterFieldsOf_18 : decode cX2_enterFieldsOf 18 = .ok (.getfield 9, 3) := by decide +kernel
theorem dX2_enterFieldsOf_21 : decode cX2_enterFieldsOf 21 = .ok (.iload_n 1, 1) := by decide +kernel
theorem dX2_enterFieldsOf_22 : decode cX2_enterFieldsOf 22 = .ok (.iload_n 3, 1) := by decide +kernel
theorem dX2_enterFieldsOf_23 : decode cX2_enterFieldsOf 23 = .ok (.invokevirtual 47, 3) := by decide +kernel
theorem dX2_enterFieldsOf_26 : decode cX2_enterFieldsOf 26 = .ok (.invokevirtual 33, 3) := by decide +kernel
theorem dX2_enterFieldsOf_29 : decode cX2_enterFieldsOf 29 = .ok (.iinc 3 1, 3) := by decide +kernel
theorem dX2_enterFieldsOf_32 : decode cX2_enterFieldsOf 32 = .ok (.goto (-21), 3) := by decide +kernel
theorem dX2_enterFieldsOf_35 : decode cX2_enterFieldsOf 35 = .ok (.return_, 1) := by decide +kernel
theorem dX2_hasFound_0 : decode cX2_hasFound 0 = .ok (.aload_n 0, 1) := by decide +kernel
theorem dX2_hasFound_1 : decode cX2_hasFound 1 = .ok (.getfield 9, 3) := by decide +kernel
theorem dX2_hasFound_4 : decode cX2_hasFound 4 = .ok (.iload_n 1, 1) := by decide +kernel
theorem dX2_hasFound_5 : decode cX2_hasFound 5 = .ok (.invokevirtual 40, 3) := by decide +kernel
theorem dX2_hasFound_8 : decode cX2_hasFound 8 = .ok (.ifCond .eq 16, 3) := by decide +kernel
theorem dX2_hasFound_11 : decode cX2_hasFound 11 = .ok (.aload_n 0, 1) := by decide +kernel
theorem dX2_hasFound_12 : decode cX2_hasFound 12 = .ok (.getfield 15, 3) := by decide +kernel
theorem dX2_hasFound_15 : decode cX2_hasFound 15 = .ok (.iload_n 1, 1) := by decide +kernel
theorem dX2_hasFound_16 : decode cX2_hasFound 16 = .ok (.baload, 1) := by decide +kernel
theorem dX2_hasFound_17 : decode cX2_hasFound 17 = .ok (.ifCond .eq 7, 3) := by decide +kernel
theorem dX2_hasFound_20 : decode cX2_hasFound 20 = .ok (.iconst 1, 1) := by decide +kernel
theorem dX2_hasFound_21 : decode cX2_hasFound 21 = .ok (.goto 4, 3) := by decide +kernel
theorem dX2_hasFound_24 : decode cX2_hasFound 24 = .ok (.iconst 0, 1) := by decide +kernel
theorem dX2_hasFound_25 : decode cX2_hasFound 25 = .ok (.ireturn, 1) := by decide +kernel
theorem dX2_countOfFound_0 : decode cX2_countOfFound 0 = .ok (.aload_n 0, 1) := by decide +kernel
theorem dX2_countOfFound_1 : decode cX2_countOfFound 1 = .ok (.getfield 23, 3) := by decide +kernel
theorem dX2_countOfFound_4 : decode cX2_countOfFound 4 = .ok (.ireturn, 1) := by decide +kernel
end
section
set_option maxHeartbeats 4000000 in
set_option maxRecDepth 100000 in
/-- Reach.enter(k) -/
theorem c_R_enter (l : Launch) (dC : Nat → ClassId) (dI : Nat → Nat → Nat) (r0 d1 d2 : Nat) (e1 e2 : ClassId) (fd od : Nat → Int32) (fc : Nat) (h0 a1 a2 a3 : Nat) (k1 k2 k3 : ClassId) (N : Nat) (cn : Nat → Nat) (fl rt : Nat → Int32) (fa : Int32) (p0 : Int32) (sz : Nat) (hN : N ≤ 400) (hq : fc ≤ 400) : Met l yX2_enter wsX2_enter ({ frames := 1, cells := 0, slots := 0, locals := 21 }) (va_Pc [.ref r0, .int p0] (fun U => U.heap.size = sz ∧ va_P (dC, dI) vwCl [(r0, .inr (2, [.ref h0, .ref d1, .ref d2, .int (nI fc)])), (d1, .inl (e1, 400, .inl fd)), (d2, .inl (e2, 400, .inl od)), (h0, .inr (0, [.ref a1, .ref a2, .ref a3, .int (nI N), .int fa])), (a1, .inl (k1, 400, .inl (pm_nf9 cn))), (a2, .inl (k2, 8000, .inl fl)), (a3, .inl (k3, 16, .inl rt))] U.heap ∧ va_K (dC, dI) vwCl [(e1, .boolean), (e2, .int), (k1, .int), (k2, .int), (k3, .int)] U ∧ va_D (fun _ => True) [(r0, .inr (2, [.ref h0, .ref d1, .ref d2, .int (nI fc)])), (d1, .inl (e1, 400, .inl fd)), (d2, .inl (e2, 400, .inl od)), (h0, .inr (0, [.ref a1, .ref a2, .ref a3, .int (nI N), .int fa])), (a1, .inl (k1, 400, .inl (pm_nf9 cn))), (a2, .inl (k2, 8000, .inl fl)), (a3, .inl (k3, 16, .inl rt))])) (va_Qv (fun (u : pm_F) => u = pm_en N (fd, od, fc) p0) (fun (u : pm_F) (t : State) => va_P (dC, dI) vwCl [(r0, .inr (2, [.ref h0, .ref d1, .ref d2, .int (nI (u.2.2))])), (d1, .inl (e1, 400, .inl (u.1))), (d2, .inl (e2, 400, .inl (u.2.1))), (h0, .inr (0, [.ref a1, .ref a2, .ref a3, .int (nI N), .int fa])), (a1, .inl (k1, 400, .inl (pm_nf9 cn))), (a2, .inl (k2, 8000, .inl fl)), (a3, .inl (k3, 16, .inl rt))] t.heap ∧ va_K (dC, dI) vwCl [(e1, .boolean), (e2, .int), (k1, .int), (k2, .int), (k3, .int)] t ∧ va_D (va_A [(r0, .inr (2, [.ref h0, .ref d1, .ref d2, .int (nI fc)])), (d1, .inl (e1, 400, .inl fd)), (d2, .inl (e2, 400, .inl od)), (h0, .inr (0, [.ref a1, .ref a2, .ref a3, .int (nI N), .int fa])), (a1, .inl (k1, 400, .inl (pm_nf9 cn))), (a2, .inl (k2, 8000, .inl fl)), (a3, .inl (k3, 16, .inl rt))] sz) [(r0, .inr (2, [.ref h0, .ref d1, .ref d2, .int (nI (u.2.2))])), (d1, .inl (e1, 400, .inl (u.1))), (d2, .inl (e2, 400, .inl (u.2.1))), (h0, .inr (0, [.ref a1, .ref a2, .ref a3, .int (nI N), .int fa])), (a1, .inl (k1, 400, .inl (pm_nf9 cn))), (a2, .inl (k2, 8000, .inl fl)), (a3, .inl (k3, 16, .inl rt))]) (va_A [(r0, .inr (2, [.ref h0, .ref d1, .ref d2, .int (nI fc)])), (d1, .inl (e1, 400, .inl fd)), (d2, .inl (e2, 400, .inl od)), (h0, .inr (0, [.ref a1, .ref a2, .ref a3, .int (nI N), .int fa])), (a1, .inl (k1, 400, .inl (pm_nf9 cn))), (a2, .inl (k2, 8000, .inl fl)), (a3, .inl (k3, 16, .inl rt))] sz)) 0 0 (va_A [(r0, .inr (2, [.ref h0, .ref d1, .ref d2, .int (nI fc)])), (d1, .inl (e1, 400, .inl fd)), (d2, .inl (e2, 400, .inl od)), (h0, .inr (0, [.ref a1, .ref a2, .ref a3, .int (nI N), .int fa])), (a1, .inl (k1, 400, .inl (pm_nf9 cn))), (a2, .inl (k2, 8000, .inl fl)), (a3, .inl (k3, 16, .inl rt))] sz) := by
  refine Met.ofW (cc := cX2_enter) (maxL := 2) (ret := (none)) (by decide) rfl ?_
  intro p e s m args below meth c s₁ B hml hv
  obtain ⟨rfl, hsz, hP, hK, hD0⟩ := hv
  have hx := B.exec
  have hb := B.bytes
  have hr := B.returns
  have hts : ∀ w ∈ gw, w.before _ s = true := fun w h => atoms_spec (ws := wsX2_enter) B.pre w (List.mem_cons_of_mem _ h)
  have hown : s.vm.findClass RX2 = some m.cls := findClass_of_methodNamed B.named
  have hlocks := B.notSynchronized
  subst hsz
  have hD := hD0.self (sz := s.heap.size)
  generalize hAe : va_A [(r0, .inr (2, [.ref h0, .ref d1, .ref d2, .int (nI fc)])), (d1, .inl (e1, 400, .inl fd)), (d2, .inl (e2, 400, .inl od)), (h0, .inr (0, [.ref a1, .ref a2, .ref a3, .int (nI N), .int fa])), (a1, .inl (k1, 400, .inl (pm_nf9 cn))), (a2, .inl (k2, 8000, .inl fl)), (a3, .inl (k3, 16, .inl rt))] s.heap.size = A at hD ⊢
  have hA : ∀ q : Nat, s.heap.size ≤ q → A q := fun q h => by rw [← hAe]; exact Or.inr h
  have hP : va_P (dC, dI) vwCl [(r0, .inr (2, [.ref h0, .ref d1, .ref d2, .int (nI fc)])), (d1, .inl (e1, 400, .inl fd)), (d2, .inl (e2, 400, .inl od)), (h0, .inr (0, [.ref a1, .ref a2, .ref a3, .int (nI N), .int fa])), (a1, .inl (k1, 400, .inl (pm_nf9 cn))), (a2, .inl (k2, 8000, .inl fl)), (a3, .inl (k3, 16, .inl rt))] s.heap := hP
  have hl := lv_entry ([.ref r0, .int p0]) (n := 2) (Nat.le_of_ble_eq_true rfl)
  rw [lg_entry_eq]
  generalize (lg_sl ([.ref r0, .int p0]) ++ List.replicate (2 - (lg_sl ([.ref r0, .int p0])).length) Slot.unset).toArray = ls at hl ⊢
  have hl : lv_has ls 2 [(0, .ref r0), (1, .int p0)] := hl
  obtain ⟨H, hH⟩ : ∃ H : Heap, H = s.heap := ⟨_, rfl⟩
  rw [← hH]
  rw [← hH] at hP
  have hS : va_S A s.heap H [] := by rw [hH]; exact va_S.rf
  clear hH
  refine lv_aload_n hx hb dX2_enter_0 rfl (lv_at hl 0 rfl) ?_
  refine va_get (D := (dC, dI)) (ci := 2) (v := .ref h0) (C := RX2) (T := TX2) (N := 4) hx hb hts iw_X2 hown hK hP 0 rfl rfl 0 (by decide) (hts _ mf_X2_9) (fun _ h9 => h9) rfl dX2_enter_1 ?_
  refine lv_iload_n hx hb dX2_enter_4 rfl (lv_at hl 1 rfl) ?_
  have hPc := hP.sub (ws' := [(h0, .inr (0, [.ref a1, .ref a2, .ref a3, .int (nI N), .int fa])), (a1, .inl (k1, 400, .inl (pm_nf9 cn))), (a2, .inl (k2, 8000, .inl fl)), (a3, .inl (k3, 16, .inl rt))]) [3, 4, 5, 6] rfl
  have hDc := hD.sub (ws' := [(h0, .inr (0, [.ref a1, .ref a2, .ref a3, .int (nI N), .int fa])), (a1, .inl (k1, 400, .inl (pm_nf9 cn))), (a2, .inl (k2, 8000, .inl fl)), (a3, .inl (k3, 16, .inl rt))]) [3, 4, 5, 6] (by decide) rfl
  have hKc := hK.sub (tys' := [(k1, .int), (k2, .int), (k3, .int)]) [2, 3, 4] rfl
  have hFc := va_free (wc := [(h0, .inr (0, [.ref a1, .ref a2, .ref a3, .int (nI N), .int fa])), (a1, .inl (k1, 400, .inl (pm_nf9 cn))), (a2, .inl (k2, 8000, .inl fl)), (a3, .inl (k3, 16, .inl rt))]) hD hS hA [3, 4, 5, 6] rfl
  refine va_calli (va_runV (As := [.int p0]) (rest := []) ⟨hx, hb, hml, hown, hts⟩ (c_H_has l dC dI h0 a1 a2 a3 k1 k2 k3 N cn fl rt fa p0 H.size) (cwV 1 hts (gw_V ml_X2_40 mi_X0_has ms_X0_has mn_X0 mc_X0_has) rfl rfl rfl (by decide +kernel) ⟨Nat.le_of_ble_eq_true rfl, Nat.le_of_ble_eq_true rfl⟩) ⟨fun a U g mk q => by obtain ⟨q0, q1, qP, qK, qD⟩ := q; exact ⟨q0, q1, qP, va_K.moved (u := U) (U := U.calling g mk a) (Vm.Alike.refl U.vm) qK, qD⟩, va_recv hKc hPc (ci := 0) (q0 := 0) rfl rfl, fun U hU hW => ⟨rfl, by rw [hU], by rw [hU]; exact hPc, va_K.moved hW.alike hKc, hDc.weaken (fun _ _ _ _ => trivial)⟩⟩ rfl rfl hl.1 rfl (lv_room (Nat.le_of_ble_eq_true rfl)) dX2_enter_5 ⟨Nat.le_of_ble_eq_true rfl, Nat.le_of_ble_eq_true rfl⟩) hS (fun q _ h => hFc q h) hFc (fun r_1 u t H1 locs ht hvm hw hB hz1 hk1 hS => ?_)
  obtain ⟨hP1, hK1, hD1⟩ := hB
  rw [ht] at hP1
  have hK1 := va_K.moved hvm.symm hK1
  obtain ⟨hP, hD⟩ := va_join (wr := [(r0, .inr (2, [.ref h0, .ref d1, .ref d2, .int (nI fc)])), (d1, .inl (e1, 400, .inl fd)), (d2, .inl (e2, 400, .inl od))]) (w1 := [(h0, .inr (0, [.ref a1, .ref a2, .ref a3, .int (nI N), .int fa])), (a1, .inl (k1, 400, .inl (pm_nf9 cn))), (a2, .inl (k2, 8000, .inl fl)), (a3, .inl (k3, 16, .inl rt))]) hP hD [3, 4, 5, 6] [0, 1, 2] rfl rfl (by decide) (by decide) hk1 hFc hP1 hD1
  clear hPc hDc hKc hFc hP1 hK1 hD1
  generalize H1 = H at hP hS ⊢
  have hP : va_P (dC, dI) vwCl [(r0, .inr (2, [.ref h0, .ref d1, .ref d2, .int (nI fc)])), (d1, .inl (e1, 400, .inl fd)), (d2, .inl (e2, 400, .inl od)), (h0, .inr (0, [.ref a1, .ref a2, .ref a3, .int (nI N), .int fa])), (a1, .inl (k1, 400, .inl (pm_nf9 cn))), (a2, .inl (k2, 8000, .inl fl)), (a3, .inl (k3, 16, .inl rt))] H := hP.sub [0, 1, 2, 3, 4, 5, 6] rfl
  have hD : va_D A [(r0, .inr (2, [.ref h0, .ref d1, .ref d2, .int (nI fc)])), (d1, .inl (e1, 400, .inl fd)), (d2, .inl (e2, 400, .inl od)), (h0, .inr (0, [.ref a1, .ref a2, .ref a3, .int (nI N), .int fa])), (a1, .inl (k1, 400, .inl (pm_nf9 cn))), (a2, .inl (k2, 8000, .inl fl)), (a3, .inl (k3, 16, .inl rt))] := hD.sub [0, 1, 2, 3, 4, 5, 6] (by decide) rfl
  rcases pm_tf (pm_has N p0) with hh_5 | hh_5
  · obtain rfl : r_1 = nI 1 := hw.trans (by rw [hh_5]; rfl)
    obtain ⟨k, hk, rfl⟩ := pm_has_of (by omega) hh_5
    refine lv_if_eq (tgt := 64) hx hb dX2_enter_8 (by decide) (fun c_8 => absurd c_8 (by decide +kernel)) (fun c_8 => ?_)
    refine lv_aload_n hx hb dX2_enter_11 rfl (lv_at hl 0 rfl) ?_
    refine va_get (D := (dC, dI)) (ci := 2) (v := .ref d1) (C := RX2) (T := TX2) (N := 4) hx hb hts iw_X2 hown hK hP 0 rfl rfl 1 (by decide) (hts _ mf_X2_15) (fun _ h9 => h9) rfl dX2_enter_12 ?_
    refine lv_iload_n hx hb dX2_enter_15 rfl (lv_at hl 1 rfl) ?_
    refine va_zald hx hb hK hP 1 0 rfl rfl (vp_in_nI (by omega) (by omega)) dX2_enter_16 ?_
    refine lv_topi (fun x_2 ex_2 => ?_)
    rw [nI_clamp (by omega)] at ex_2
    subst ex_2
    refine lv_if_ne (tgt := 64) hx hb dX2_enter_17 (by decide) (fun c_17 => ?_) (fun c_17 => ?_)
    · exact W.vret hx hb hr (fun t ht hW => ⟨⟨(fd, od, fc), rfl, pm_e2 hh_5 (by omega) c_17, by rw [ht]; exact hP, va_K.moved hW.alike hK, hD⟩, hS.F ht⟩) hS.2.2 dX2_enter_64
    · refine lv_aload_n hx hb dX2_enter_20 rfl (lv_at hl 0 rfl) ?_
      refine va_get (D := (dC, dI)) (ci := 2) (v := .int (nI fc)) (C := RX2) (T := TX2) (N := 4) hx hb hts iw_X2 hown hK hP 0 rfl rfl 3 (by decide) (hts _ mf_X2_23) (fun _ h9 => h9) rfl dX2_enter_21 ?_
      refine lv_if_lt (tgt := 64) hx hb dX2_enter_24 (by decide) (fun c_24 => absurd c_24 (nI_pos (by omega))) (fun c_24 => ?_)
      refine lv_aload_n hx hb dX2_enter_27 rfl (lv_at hl 0 rfl) ?_
      refine va_get (D := (dC, dI)) (ci := 2) (v := .int (nI fc)) (C := RX2) (T := TX2) (N := 4) hx hb hts iw_X2 hown hK hP 0 rfl rfl 3 (by decide) (hts _ mf_X2_23) (fun _ h9 => h9) rfl dX2_enter_28 ?_
      refine lv_sipush (v := nI 400) hx hb dX2_enter_31 (by decide +kernel) ?_
      refine lv_icmp_ge (tgt := 64) hx hb dX2_enter_34 (by decide) (fun c_34 => ?_) (fun c_34 => ?_)
      · rw [nI_leI (by omega) (by omega)] at c_34
        exact W.vret hx hb hr (fun t ht hW => ⟨⟨(fd, od, fc), rfl, pm_e3 hh_5 (by omega) c_17 (by omega), by rw [ht]; exact hP, va_K.moved hW.alike hK, hD⟩, hS.F ht⟩) hS.2.2 dX2_enter_64
      · rw [nI_leI (by omega) (by omega)] at c_34
        refine lv_aload_n hx hb dX2_enter_37 rfl (lv_at hl 0 rfl) ?_
        refine va_get (D := (dC, dI)) (ci := 2) (v := .ref d1) (C := RX2) (T := TX2) (N := 4) hx hb hts iw_X2 hown hK hP 0 rfl rfl 1 (by decide) (hts _ mf_X2_15) (fun _ h9 => h9) rfl dX2_enter_38 ?_
        refine lv_iload_n hx hb dX2_enter_41 rfl (lv_at hl 1 rfl) ?_
        refine lv_iconst (v := nI 1) hx hb dX2_enter_42 (by decide +kernel) ?_
        refine va_zast hx hb hK hP hD hS 1 0 rfl rfl (vp_in_nI (by omega) (by omega)) dX2_enter_43 (fun H locs hP hD hS => ?_)
        rw [nI_clamp (by omega)] at hP hD
        rw [pm_z1] at hP hD
        have hP : va_P (dC, dI) vwCl [(r0, .inr (2, [.ref h0, .ref d1, .ref d2, .int (nI fc)])), (d1, .inl (e1, 400, .inl (upd fd k 1))), (d2, .inl (e2, 400, .inl od)), (h0, .inr (0, [.ref a1, .ref a2, .ref a3, .int (nI N), .int fa])), (a1, .inl (k1, 400, .inl (pm_nf9 cn))), (a2, .inl (k2, 8000, .inl fl)), (a3, .inl (k3, 16, .inl rt))] H := hP
        have hD : va_D A [(r0, .inr (2, [.ref h0, .ref d1, .ref d2, .int (nI fc)])), (d1, .inl (e1, 400, .inl (upd fd k 1))), (d2, .inl (e2, 400, .inl od)), (h0, .inr (0, [.ref a1, .ref a2, .ref a3, .int (nI N), .int fa])), (a1, .inl (k1, 400, .inl (pm_nf9 cn))), (a2, .inl (k2, 8000, .inl fl)), (a3, .inl (k3, 16, .inl rt))] := hD
        refine lv_aload_n hx hb dX2_enter_44 rfl (lv_at hl 0 rfl) ?_
        refine va_get (D := (dC, dI)) (ci := 2) (v := .ref d2) (C := RX2) (T := TX2) (N := 4) hx hb hts iw_X2 hown hK hP 0 rfl rfl 2 (by decide) (hts _ mf_X2_19) (fun _ h9 => h9) rfl dX2_enter_45 ?_
        refine lv_aload_n hx hb dX2_enter_48 rfl (lv_at hl 0 rfl) ?_
        refine va_get (D := (dC, dI)) (ci := 2) (v := .int (nI fc)) (C := RX2) (T := TX2) (N := 4) hx hb hts iw_X2 hown hK hP 0 rfl rfl 3 (by decide) (hts _ mf_X2_23) (fun _ h9 => h9) rfl dX2_enter_49 ?_
        refine lv_iload_n hx hb dX2_enter_52 rfl (lv_at hl 1 rfl) ?_
        refine va_iast hx hb hK hP hD hS 2 1 rfl rfl (vp_in_nI (by omega) (by omega)) dX2_enter_53 (fun H locs hP hD hS => ?_)
        rw [nI_clamp (by omega)] at hP hD
        have hP : va_P (dC, dI) vwCl [(r0, .inr (2, [.ref h0, .ref d1, .ref d2, .int (nI fc)])), (d1, .inl (e1, 400, .inl (upd fd k 1))), (d2, .inl (e2, 400, .inl (upd od fc (nI k)))), (h0, .inr (0, [.ref a1, .ref a2, .ref a3, .int (nI N), .int fa])), (a1, .inl (k1, 400, .inl (pm_nf9 cn))), (a2, .inl (k2, 8000, .inl fl)), (a3, .inl (k3, 16, .inl rt))] H := hP
        have hD : va_D A [(r0, .inr (2, [.ref h0, .ref d1, .ref d2, .int (nI fc)])), (d1, .inl (e1, 400, .inl (upd fd k 1))), (d2, .inl (e2, 400, .inl (upd od fc (nI k)))), (h0, .inr (0, [.ref a1, .ref a2, .ref a3, .int (nI N), .int fa])), (a1, .inl (k1, 400, .inl (pm_nf9 cn))), (a2, .inl (k2, 8000, .inl fl)), (a3, .inl (k3, 16, .inl rt))] := hD
        refine lv_aload_n hx hb dX2_enter_54 rfl (lv_at hl 0 rfl) ?_
        refine lv_dup hx hb dX2_enter_55 rfl ?_
        refine va_get (D := (dC, dI)) (ci := 2) (v := .int (nI fc)) (C := RX2) (T := TX2) (N := 4) hx hb hts iw_X2 hown hK hP 0 rfl rfl 3 (by decide) (hts _ mf_X2_23) (fun _ h9 => h9) rfl dX2_enter_56 ?_
        refine lv_iconst (v := nI 1) hx hb dX2_enter_59 (by decide +kernel) ?_
        refine lv_iadd hx hb dX2_enter_60 ?_
        refine lv_topi (fun x_3 ex_3 => ?_)
        obtain rfl : x_3 = nI (fc + 1) := ex_3.trans (nI_add _ _)
        refine va_put (D := (dC, dI)) (ci := 2) (v := .int (nI (fc + 1))) (ty := .int) (C := RX2) (T := TX2) (N := 4) hx hb hts iw_X2 tyX2 tyX2_ok nmX2 hown hK hP hD hS 0 rfl rfl 3 (by decide) (hts _ mf_X2_23) (fun _ h9 => h9) rfl (by decide +kernel) (rfl) (rfl) (Nat.le_of_ble_eq_true rfl) dX2_enter_61 (fun H locs hP hD hS => ?_)
        have hP : va_P (dC, dI) vwCl [(r0, .inr (2, [.ref h0, .ref d1, .ref d2, .int (nI (fc + 1))])), (d1, .inl (e1, 400, .inl (upd fd k 1))), (d2, .inl (e2, 400, .inl (upd od fc (nI k)))), (h0, .inr (0, [.ref a1, .ref a2, .ref a3, .int (nI N), .int fa])), (a1, .inl (k1, 400, .inl (pm_nf9 cn))), (a2, .inl (k2, 8000, .inl fl)), (a3, .inl (k3, 16, .inl rt))] H := hP
        have hD : va_D A [(r0, .inr (2, [.ref h0, .ref d1, .ref d2, .int (nI (fc + 1))])), (d1, .inl (e1, 400, .inl (upd fd k 1))), (d2, .inl (e2, 400, .inl (upd od fc (nI k)))), (h0, .inr (0, [.ref a1, .ref a2, .ref a3, .int (nI N), .int fa])), (a1, .inl (k1, 400, .inl (pm_nf9 cn))), (a2, .inl (k2, 8000, .inl fl)), (a3, .inl (k3, 16, .inl rt))] := hD
        exact W.vret hx hb hr (fun t ht hW => ⟨⟨(upd fd k 1, upd od fc (nI k), fc + 1), rfl, pm_e4 hh_5 (by omega) c_17 (by omega), by rw [ht]; exact hP, va_K.moved hW.alike hK, hD⟩, hS.F ht⟩) hS.2.2 dX2_enter_64
  · obtain rfl : r_1 = nI 0 := hw.trans (by rw [hh_5]; rfl)
    refine lv_if_eq (tgt := 64) hx hb dX2_enter_8 (by decide) (fun c_8 => ?_) (fun c_8 => absurd c_8 (by decide +kernel))
    exact W.vret hx hb hr (fun t ht hW => ⟨⟨(fd, od, fc), rfl, pm_e1 hh_5, by rw [ht]; exact hP, va_K.moved hW.alike hK, hD⟩, hS.F ht⟩) hS.2.2 dX2_enter_64

set_option maxHeartbeats 4000000 in
set_option maxRecDepth 100000 in
/-- Reach.enterFieldsOf(k) -/
theorem c_R_enterFieldsOf (l : Launch) (dC : Nat → ClassId) (dI : Nat → Nat → Nat) (r0 d1 d2 : Nat) (e1 e2 : ClassId) (fd od : Nat → Int32) (fc : Nat) (h0 a1 a2 a3 : Nat) (k1 k2 k3 : ClassId) (N : Nat) (cn : Nat → Nat) (fl rt : Nat → Int32) (fa : Int32) (p0 : Int32) (sz : Nat) (hN : N ≤ 400) (hc : ∀ k, k < N → cn k ≤ 20) (hq : fc ≤ 400) : Met l yX2_enterFieldsOf wsX2_enterFieldsOf ({ frames := 3, cells := 0, slots := 0, locals := 65 }) (va_Pc [.ref r0, .int p0] (fun U => U.heap.size = sz ∧ va_P (dC, dI) vwCl [(r0, .inr (2, [.ref h0, .ref d1, .ref d2, .int (nI fc)])), (d1, .inl (e1, 400, .inl fd)), (d2, .inl (e2, 400, .inl od)), (h0, .inr (0, [.ref a1, .ref a2, .ref a3, .int (nI N), .int fa])), (a1, .inl (k1, 400, .inl (pm_nf9 cn))), (a2, .inl (k2, 8000, .inl fl)), (a3, .inl (k3, 16, .inl rt))] U.heap ∧ va_K (dC, dI) vwCl [(e1, .boolean), (e2, .int), (k1, .int), (k2, .int), (k3, .int)] U ∧ va_D (fun _ => True) [(r0, .inr (2, [.ref h0, .ref d1, .ref d2, .int (nI fc)])), (d1, .inl (e1, 400, .inl fd)), (d2, .inl (e2, 400, .inl od)), (h0, .inr (0, [.ref a1, .ref a2, .ref a3, .int (nI N), .int fa])), (a1, .inl (k1, 400, .inl (pm_nf9 cn))), (a2, .inl (k2, 8000, .inl fl)), (a3, .inl (k3, 16, .inl rt))])) (va_Qv (fun (u : pm_F) => u = pm_eo N cn fl (fd, od, fc) p0) (fun (u : pm_F) (t : State) => va_P (dC, dI) vwCl [(r0, .inr (2, [.ref h0, .ref d1, .ref d2, .int (nI (u.2.2))])), (d1, .inl (e1, 400, .inl (u.1))), (d2, .inl (e2, 400, .inl (u.2.1))), (h0, .inr (0, [.ref a1, .ref a2, .ref a3, .int (nI N), .int fa])), (a1, .inl (k1, 400, .inl (pm_nf9 cn))), (a2, .inl (k2, 8000, .inl fl)), (a3, .inl (k3, 16, .inl rt))] t.heap ∧ va_K (dC, dI) vwCl [(e1, .boolean), (e2, .int), (k1, .int), (k2, .int), (k3, .int)] t ∧ va_D (va_A [(r0, .inr (2, [.ref h0, .ref d1, .ref d2, .int (nI fc)])), (d1, .inl (e1, 400, .inl fd)), (d2, .inl (e2, 400, .inl od)), (h0, .inr (0, [.ref a1, .ref a2, .ref a3, .int (nI N), .int fa])), (a1, .inl (k1, 400, .inl (pm_nf9 cn))), (a2, .inl (k2, 8000, .inl fl)), (a3, .inl (k3, 16, .inl rt))] sz) [(r0, .inr (2, [.ref h0, .ref d1, .ref d2, .int (nI (u.2.2))])), (d1, .inl (e1, 400, .inl (u.1))), (d2, .inl (e2, 400, .inl (u.2.1))), (h0, .inr (0, [.ref a1, .ref a2, .ref a3, .int (nI N), .int fa])), (a1, .inl (k1, 400, .inl (pm_nf9 cn))), (a2, .inl (k2, 8000, .inl fl)), (a3, .inl (k3, 16, .inl rt))]) (va_A [(r0, .inr (2, [.ref h0, .ref d1, .ref d2, .int (nI fc)])), (d1, .inl (e1, 400, .inl fd)), (d2, .inl (e2, 400, .inl od)), (h0, .inr (0, [.ref a1, .ref a2, .ref a3, .int (nI N), .int fa])), (a1, .inl (k1, 400, .inl (pm_nf9 cn))), (a2, .inl (k2, 8000, .inl fl)), (a3, .inl (k3, 16, .inl rt))] sz)) 0 0 (va_A [(r0, .inr (2, [.ref h0, .ref d1, .ref d2, .int (nI fc)])), (d1, .inl (e1, 400, .inl fd)), (d2, .inl (e2, 400, .inl od)), (h0, .inr (0, [.ref a1, .ref a2, .ref a3, .int (nI N), .int fa])), (a1, .inl (k1, 400, .inl (pm_nf9 cn))), (a2, .inl (k2, 8000, .inl fl)), (a3, .inl (k3, 16, .inl rt))] sz) := by
  refine Met.ofW (cc := cX2_enterFieldsOf) (maxL := 4) (ret := (none)) (by decide) rfl ?_
  intro p e s m args below meth c s₁ B hml hv
  obtain ⟨rfl, hsz, hP, hK, hD0⟩ := hv
  have hx := B.exec
  have hb := B.bytes
  have hr := B.returns
  have hts : ∀ w ∈ gw, w.before _ s = true := fun w h => atoms_spec (ws := wsX2_enterFieldsOf) B.pre w (List.mem_cons_of_mem _ h)
  have hown : s.vm.findClass RX2 = some m.cls := findClass_of_methodNamed B.named
  have hlocks := B.notSynchronized
  subst hsz
  have hD := hD0.self (sz := s.heap.size)
  generalize hAe : va_A [(r0, .inr (2, [.ref h0, .ref d1, .ref d2, .int (nI fc)])), (d1, .inl (e1, 400, .inl fd)), (d2, .inl (e2, 400, .inl od)), (h0, .inr (0, [.ref a1, .ref a2, .ref a3, .int (nI N), .int fa])), (a1, .inl (k1, 400, .inl (pm_nf9 cn))), (a2, .inl (k2, 8000, .inl fl)), (a3, .inl (k3, 16, .inl rt))] s.heap.size = A at hD ⊢
  have hA : ∀ q : Nat, s.heap.size ≤ q → A q := fun q h => by rw [← hAe]; exact Or.inr h
  have hP : va_P (dC, dI) vwCl [(r0, .inr (2, [.ref h0, .ref d1, .ref d2, .int (nI fc)])), (d1, .inl (e1, 400, .inl fd)), (d2, .inl (e2, 400, .inl od)), (h0, .inr (0, [.ref a1, .ref a2, .ref a3, .int (nI N), .int fa])), (a1, .inl (k1, 400, .inl (pm_nf9 cn))), (a2, .inl (k2, 8000, .inl fl)), (a3, .inl (k3, 16, .inl rt))] s.heap := hP
  have hl := lv_entry ([.ref r0, .int p0]) (n := 4) (Nat.le_of_ble_eq_true rfl)
  rw [lg_entry_eq]
  generalize (lg_sl ([.ref r0, .int p0]) ++ List.replicate (4 - (lg_sl ([.ref r0, .int p0])).length) Slot.unset).toArray = ls at hl ⊢
  have hl : lv_has ls 4 [(0, .ref r0), (1, .int p0)] := hl
  obtain ⟨H, hH⟩ : ∃ H : Heap, H = s.heap := ⟨_, rfl⟩
  rw [← hH]
  rw [← hH] at hP
  have hS : va_S A s.heap H [] := by rw [hH]; exact va_S.rf
  clear hH
  refine lv_aload_n hx hb dX2_enterFieldsOf_0 rfl (lv_at hl 0 rfl) ?_
  refine va_get (D := (dC, dI)) (ci := 2) (v := .ref h0) (C := RX2) (T := TX2) (N := 4) hx hb hts iw_X2 hown hK hP 0 rfl rfl 0 (by decide) (hts _ mf_X2_9) (fun _ h9 => h9) rfl dX2_enterFieldsOf_1 ?_
  refine lv_iload_n hx hb dX2_enterFieldsOf_4 rfl (lv_at hl 1 rfl) ?_
  have hPc := hP.sub (ws' := [(h0, .inr (0, [.ref a1, .ref a2, .ref a3, .int (nI N), .int fa])), (a1, .inl (k1, 400, .inl (pm_nf9 cn))), (a2, .inl (k2, 8000, .inl fl)), (a3, .inl (k3, 16, .inl rt))]) [3, 4, 5, 6] rfl
  have hDc := hD.sub (ws' := [(h0, .inr (0, [.ref a1, .ref a2, .ref a3, .int (nI N), .int fa])), (a1, .inl (k1, 400, .inl (pm_nf9 cn))), (a2, .inl (k2, 8000, .inl fl)), (a3, .inl (k3, 16, .inl rt))]) [3, 4, 5, 6] (by decide) rfl
  have hKc := hK.sub (tys' := [(k1, .int), (k2, .int), (k3, .int)]) [2, 3, 4] rfl
  have hFc := va_free (wc := [(h0, .inr (0, [.ref a1, .ref a2, .ref a3, .int (nI N), .int fa])), (a1, .inl (k1, 400, .inl (pm_nf9 cn))), (a2, .inl (k2, 8000, .inl fl)), (a3, .inl (k3, 16, .inl rt))]) hD hS hA [3, 4, 5, 6] rfl
  refine va_calli (va_runV (As := [.int p0]) (rest := []) ⟨hx, hb, hml, hown, hts⟩ (c_H_fieldCountOf l dC dI h0 a1 a2 a3 k1 k2 k3 N cn fl rt fa p0 H.size (hN)) (cwV 1 hts (gw_V ml_X2_44 mi_X0_fieldCountOf ms_X0_fieldCountOf mn_X0 mc_X0_fieldCountOf) rfl rfl rfl (by decide +kernel) ⟨Nat.le_of_ble_eq_true rfl, Nat.le_of_ble_eq_true rfl⟩) ⟨fun a U g mk q => by obtain ⟨q0, q1, qP, qK, qD⟩ := q; exact ⟨q0, q1, qP, va_K.moved (u := U) (U := U.calling g mk a) (Vm.Alike.refl U.vm) qK, qD⟩, va_recv hKc hPc (ci := 0) (q0 := 0) rfl rfl, fun U hU hW => ⟨rfl, by rw [hU], by rw [hU]; exact hPc, va_K.moved hW.alike hKc, hDc.weaken (fun _ _ _ _ => trivial)⟩⟩ rfl rfl hl.1 rfl (lv_room (Nat.le_of_ble_eq_true rfl)) dX2_enterFieldsOf_5 ⟨Nat.le_of_ble_eq_true rfl, Nat.le_of_ble_eq_true rfl⟩) hS (fun q _ h => hFc q h) hFc (fun r_1 u t H1 locs ht hvm hw hB hz1 hk1 hS => ?_)
  obtain ⟨hP1, hK1, hD1⟩ := hB
  rw [ht] at hP1
  have hK1 := va_K.moved hvm.symm hK1
  obtain ⟨hP, hD⟩ := va_join (wr := [(r0, .inr (2, [.ref h0, .ref d1, .ref d2, .int (nI fc)])), (d1, .inl (e1, 400, .inl fd)), (d2, .inl (e2, 400, .inl od))]) (w1 := [(h0, .inr (0, [.ref a1, .ref a2, .ref a3, .int (nI N), .int fa])), (a1, .inl (k1, 400, .inl (pm_nf9 cn))), (a2, .inl (k2, 8000, .inl fl)), (a3, .inl (k3, 16, .inl rt))]) hP hD [3, 4, 5, 6] [0, 1, 2] rfl rfl (by decide) (by decide) hk1 hFc hP1 hD1
  clear hPc hDc hKc hFc hP1 hK1 hD1
  generalize H1 = H at hP hS ⊢
  have hP : va_P (dC, dI) vwCl [(r0, .inr (2, [.ref h0, .ref d1, .ref d2, .int (nI fc)])), (d1, .inl (e1, 400, .inl fd)), (d2, .inl (e2, 400, .inl od)), (h0, .inr (0, [.ref a1, .ref a2, .ref a3, .int (nI N), .int fa])), (a1, .inl (k1, 400, .inl (pm_nf9 cn))), (a2, .inl (k2, 8000, .inl fl)), (a3, .inl (k3, 16, .inl rt))] H := hP.sub [0, 1, 2, 3, 4, 5, 6] rfl
  have hD : va_D A [(r0, .inr (2, [.ref h0, .ref d1, .ref d2, .int (nI fc)])), (d1, .inl (e1, 400, .inl fd)), (d2, .inl (e2, 400, .inl od)), (h0, .inr (0, [.ref a1, .ref a2, .ref a3, .int (nI N), .int fa])), (a1, .inl (k1, 400, .inl (pm_nf9 cn))), (a2, .inl (k2, 8000, .inl fl)), (a3, .inl (k3, 16, .inl rt))] := hD.sub [0, 1, 2, 3, 4, 5, 6] (by decide) rfl
  rcases pm_tf (pm_has N p0) with hh_5 | hh_5
  · obtain ⟨a, ha, rfl⟩ := pm_has_of (by omega) hh_5
    have hca := hc a ha
    obtain rfl : r_1 = nI (cn a) := hw.trans (by rw [if_pos hh_5, nI_clamp (by omega)])
    refine lv_istore_n (lv' := [(2, .int (nI (cn a))), (0, .ref r0), (1, .int (nI a))]) hx hb dX2_enterFieldsOf_8 rfl hl (by decide) rfl (fun ls hl => ?_)
    refine lv_iconst (v := nI 0) hx hb dX2_enterFieldsOf_9 (by decide +kernel) ?_
    refine lv_istore_n (lv' := [(3, .int (nI 0)), (2, .int (nI (cn a))), (0, .ref r0), (1, .int (nI a))]) hx hb dX2_enterFieldsOf_10 rfl hl (by decide) rfl (fun ls hl => ?_)
    refine lp_loop (σ := Nat × (Nat → Int32) × (Nat → Int32) × Nat) (head := 11) (fun x H locs ls => match x with | (j, fd1, od1, c1) => j ≤ cn a ∧ (fd1, od1, c1) = pm_ef N (fun j => fl (a * 20 + j)) j (fd, od, fc) ∧ va_P (dC, dI) vwCl [(r0, .inr (2, [.ref h0, .ref d1, .ref d2, .int (nI c1)])), (d1, .inl (e1, 400, .inl fd1)), (d2, .inl (e2, 400, .inl od1)), (h0, .inr (0, [.ref a1, .ref a2, .ref a3, .int (nI N), .int fa])), (a1, .inl (k1, 400, .inl (pm_nf9 cn))), (a2, .inl (k2, 8000, .inl fl)), (a3, .inl (k3, 16, .inl rt))] H ∧ va_D A [(r0, .inr (2, [.ref h0, .ref d1, .ref d2, .int (nI c1)])), (d1, .inl (e1, 400, .inl fd1)), (d2, .inl (e2, 400, .inl od1)), (h0, .inr (0, [.ref a1, .ref a2, .ref a3, .int (nI N), .int fa])), (a1, .inl (k1, 400, .inl (pm_nf9 cn))), (a2, .inl (k2, 8000, .inl fl)), (a3, .inl (k3, 16, .inl rt))] ∧ va_S A s.heap H locs ∧ lv_has ls 4 [(3, .int (nI j)), (2, .int (nI (cn a))), (1, .int (nI a)), (0, .ref r0)]) (fun x => match x with | (j, fd1, od1, c1) => cn a - j) ?_ (0, fd, od, fc) _ _ _ ⟨Nat.zero_le _, rfl, hP, hD, hS, lv_sub hl [0, 1, 3, 2] rfl⟩
    intro x H locs ls hI ih
    obtain ⟨j, fd1, od1, c1⟩ := x
    obtain ⟨hj, hE, hP, hD, hS, hl⟩ := hI
    dsimp only at ih
    have hc1 : c1 ≤ 400 := pm_ef_c hq hE
    refine lv_iload_n hx hb dX2_enterFieldsOf_11 rfl (lv_at hl 0 rfl) ?_
    refine lv_iload_n hx hb dX2_enterFieldsOf_12 rfl (lv_at hl 1 rfl) ?_
    refine lv_icmp_ge (tgt := 35) hx hb dX2_enterFieldsOf_13 (by decide) (fun c_13 => ?_) (fun c_13 => ?_)
    · rw [nI_leI (by omega) (by omega)] at c_13
      exact W.vret hx hb hr (fun t ht hW => ⟨⟨(fd1, od1, c1), rfl, by rw [hE, show j = cn a by omega]; exact pm_o2 hh_5 (by omega), by rw [ht]; exact hP, va_K.moved hW.alike hK, hD⟩, hS.F ht⟩) hS.2.2 dX2_enterFieldsOf_35
    · rw [nI_leI (by omega) (by omega)] at c_13
      refine lv_aload_n hx hb dX2_enterFieldsOf_16 rfl (lv_at hl 3 rfl) ?_
      refine lv_aload_n hx hb dX2_enterFieldsOf_17 rfl (lv_at hl 3 rfl) ?_
      refine va_get (D := (dC, dI)) (ci := 2) (v := .ref h0) (C := RX2) (T := TX2) (N := 4) hx hb hts iw_X2 hown hK hP 0 rfl rfl 0 (by decide) (hts _ mf_X2_9) (fun _ h9 => h9) rfl dX2_enterFieldsOf_18 ?_
      refine lv_iload_n hx hb dX2_enterFieldsOf_21 rfl (lv_at hl 2 rfl) ?_
      refine lv_iload_n hx hb dX2_enterFieldsOf_22 rfl (lv_at hl 0 rfl) ?_
      have hPc := hP.sub (ws' := [(h0, .inr (0, [.ref a1, .ref a2, .ref a3, .int (nI N), .int fa])), (a1, .inl (k1, 400, .inl (pm_nf9 cn))), (a2, .inl (k2, 8000, .inl fl)), (a3, .inl (k3, 16, .inl rt))]) [3, 4, 5, 6] rfl
      have hDc := hD.sub (ws' := [(h0, .inr (0, [.ref a1, .ref a2, .ref a3, .int (nI N), .int fa])), (a1, .inl (k1, 400, .inl (pm_nf9 cn))), (a2, .inl (k2, 8000, .inl fl)), (a3, .inl (k3, 16, .inl rt))]) [3, 4, 5, 6] (by decide) rfl
      have hKc := hK.sub (tys' := [(k1, .int), (k2, .int), (k3, .int)]) [2, 3, 4] rfl
      have hFc := va_free (wc := [(h0, .inr (0, [.ref a1, .ref a2, .ref a3, .int (nI N), .int fa])), (a1, .inl (k1, 400, .inl (pm_nf9 cn))), (a2, .inl (k2, 8000, .inl fl)), (a3, .inl (k3, 16, .inl rt))]) hD hS hA [3, 4, 5, 6] rfl
      refine va_calli (va_runV (As := [.int (nI a), .int (nI j)]) (rest := [.ref r0]) ⟨hx, hb, hml, hown, hts⟩ (c_H_fieldOf l dC dI h0 a1 a2 a3 k1 k2 k3 N cn fl rt fa (nI a) (nI j) H.size (hN) (hc)) (cwV 2 hts (gw_V ml_X2_47 mi_X0_fieldOf ms_X0_fieldOf mn_X0 mc_X0_fieldOf) rfl rfl rfl (by decide +kernel) ⟨Nat.le_of_ble_eq_true rfl, Nat.le_of_ble_eq_true rfl⟩) ⟨fun a U g mk q => by obtain ⟨q0, q1, qP, qK, qD⟩ := q; exact ⟨q0, q1, qP, va_K.moved (u := U) (U := U.calling g mk a) (Vm.Alike.refl U.vm) qK, qD⟩, va_recv hKc hPc (ci := 0) (q0 := 0) rfl rfl, fun U hU hW => ⟨rfl, by rw [hU], by rw [hU]; exact hPc, va_K.moved hW.alike hKc, hDc.weaken (fun _ _ _ _ => trivial)⟩⟩ rfl rfl hl.1 rfl (lv_room (Nat.le_of_ble_eq_true rfl)) dX2_enterFieldsOf_23 ⟨Nat.le_of_ble_eq_true rfl, Nat.le_of_ble_eq_true rfl⟩) hS (fun q _ h => hFc q h) hFc (fun r_2 u t H1 locs ht hvm hw hB hz1 hk1 hS => ?_)
      obtain ⟨hP1, hK1, hD1⟩ := hB
      rw [ht] at hP1
      have hK1 := va_K.moved hvm.symm hK1
      obtain ⟨hP, hD⟩ := va_join (wr := [(r0, .inr (2, [.ref h0, .ref d1, .ref d2, .int (nI c1)])), (d1, .inl (e1, 400, .inl fd1)), (d2, .inl (e2, 400, .inl od1))]) (w1 := [(h0, .inr (0, [.ref a1, .ref a2, .ref a3, .int (nI N), .int fa])), (a1, .inl (k1, 400, .inl (pm_nf9 cn))), (a2, .inl (k2, 8000, .inl fl)), (a3, .inl (k3, 16, .inl rt))]) hP hD [3, 4, 5, 6] [0, 1, 2] rfl rfl (by decide) (by decide) hk1 hFc hP1 hD1
      clear hPc hDc hKc hFc hP1 hK1 hD1
      generalize H1 = H at hP hS ⊢
      have hP : va_P (dC, dI) vwCl [(r0, .inr (2, [.ref h0, .ref d1, .ref d2, .int (nI c1)])), (d1, .inl (e1, 400, .inl fd1)), (d2, .inl (e2, 400, .inl od1)), (h0, .inr (0, [.ref a1, .ref a2, .ref a3, .int (nI N), .int fa])), (a1, .inl (k1, 400, .inl (pm_nf9 cn))), (a2, .inl (k2, 8000, .inl fl)), (a3, .inl (k3, 16, .inl rt))] H := hP.sub [0, 1, 2, 3, 4, 5, 6] rfl
      have hD : va_D A [(r0, .inr (2, [.ref h0, .ref d1, .ref d2, .int (nI c1)])), (d1, .inl (e1, 400, .inl fd1)), (d2, .inl (e2, 400, .inl od1)), (h0, .inr (0, [.ref a1, .ref a2, .ref a3, .int (nI N), .int fa])), (a1, .inl (k1, 400, .inl (pm_nf9 cn))), (a2, .inl (k2, 8000, .inl fl)), (a3, .inl (k3, 16, .inl rt))] := hD.sub [0, 1, 2, 3, 4, 5, 6] (by decide) rfl
      obtain rfl : r_2 = fl (a * 20 + j) := hw.trans ((pm_fo_t (pm_hf_nI (by omega) (by omega) ha (by omega)) (by omega) (by omega)).symm)
      have hPc := hP.sub (ws' := [(r0, .inr (2, [.ref h0, .ref d1, .ref d2, .int (nI c1)])), (d1, .inl (e1, 400, .inl fd1)), (d2, .inl (e2, 400, .inl od1)), (h0, .inr (0, [.ref a1, .ref a2, .ref a3, .int (nI N), .int fa])), (a1, .inl (k1, 400, .inl (pm_nf9 cn))), (a2, .inl (k2, 8000, .inl fl)), (a3, .inl (k3, 16, .inl rt))]) [0, 1, 2, 3, 4, 5, 6] rfl
      have hDc := hD.sub (ws' := [(r0, .inr (2, [.ref h0, .ref d1, .ref d2, .int (nI c1)])), (d1, .inl (e1, 400, .inl fd1)), (d2, .inl (e2, 400, .inl od1)), (h0, .inr (0, [.ref a1, .ref a2, .ref a3, .int (nI N), .int fa])), (a1, .inl (k1, 400, .inl (pm_nf9 cn))), (a2, .inl (k2, 8000, .inl fl)), (a3, .inl (k3, 16, .inl rt))]) [0, 1, 2, 3, 4, 5, 6] (by decide) rfl
      have hKc := hK.sub (tys' := [(e1, .boolean), (e2, .int), (k1, .int), (k2, .int), (k3, .int)]) [0, 1, 2, 3, 4] rfl
      have hFc := va_free (wc := [(r0, .inr (2, [.ref h0, .ref d1, .ref d2, .int (nI c1)])), (d1, .inl (e1, 400, .inl fd1)), (d2, .inl (e2, 400, .inl od1)), (h0, .inr (0, [.ref a1, .ref a2, .ref a3, .int (nI N), .int fa])), (a1, .inl (k1, 400, .inl (pm_nf9 cn))), (a2, .inl (k2, 8000, .inl fl)), (a3, .inl (k3, 16, .inl rt))]) hD hS hA [0, 1, 2, 3, 4, 5, 6] rfl
      refine va_callv (va_runV (As := [.int (fl (a * 20 + j))]) (rest := []) ⟨hx, hb, hml, hown, hts⟩ (c_R_enter l dC dI r0 d1 d2 e1 e2 fd1 od1 c1 h0 a1 a2 a3 k1 k2 k3 N cn fl rt fa (fl (a * 20 + j)) H.size (hN) (by omega)) (cwV 1 hts (gw_V ml_X2_33 mi_X2_enter ms_X2_enter mn_X2 mc_X2_enter) rfl rfl rfl (by decide +kernel) ⟨Nat.le_of_ble_eq_true rfl, Nat.le_of_ble_eq_true rfl⟩) ⟨fun a U g mk q => by obtain ⟨q0, q1, qP, qK, qD⟩ := q; exact ⟨q0, q1, qP, va_K.moved (u := U) (U := U.calling g mk a) (Vm.Alike.refl U.vm) qK, qD⟩, va_recv hKc hPc (ci := 2) (q0 := 0) rfl rfl, fun U hU hW => ⟨rfl, by rw [hU], by rw [hU]; exact hPc, va_K.moved hW.alike hKc, hDc.weaken (fun _ _ _ _ => trivial)⟩⟩ rfl rfl hl.1 rfl (lv_room (Nat.le_of_ble_eq_true rfl)) dX2_enterFieldsOf_26 ⟨Nat.le_of_ble_eq_true rfl, Nat.le_of_ble_eq_true rfl⟩) hS (fun q _ h => hFc q h) hFc (fun u t H1 locs ht hvm hw hB hz1 hk1 hS => ?_)
      obtain ⟨fd2, od2, c2⟩ := u
      obtain ⟨hP1, hK1, hD1⟩ := hB
      rw [ht] at hP1
      have hK1 := va_K.moved hvm.symm hK1
      obtain ⟨hP, hD⟩ := va_join (wr := []) (w1 := [(r0, .inr (2, [.ref h0, .ref d1, .ref d2, .int (nI c2)])), (d1, .inl (e1, 400, .inl fd2)), (d2, .inl (e2, 400, .inl od2)), (h0, .inr (0, [.ref a1, .ref a2, .ref a3, .int (nI N), .int fa])), (a1, .inl (k1, 400, .inl (pm_nf9 cn))), (a2, .inl (k2, 8000, .inl fl)), (a3, .inl (k3, 16, .inl rt))]) hP hD [0, 1, 2, 3, 4, 5, 6] [] rfl rfl (by decide) (by decide) hk1 hFc hP1 hD1
      clear hPc hDc hKc hFc hP1 hK1 hD1
      generalize H1 = H at hP hS ⊢
      have hP : va_P (dC, dI) vwCl [(r0, .inr (2, [.ref h0, .ref d1, .ref d2, .int (nI c2)])), (d1, .inl (e1, 400, .inl fd2)), (d2, .inl (e2, 400, .inl od2)), (h0, .inr (0, [.ref a1, .ref a2, .ref a3, .int (nI N), .int fa])), (a1, .inl (k1, 400, .inl (pm_nf9 cn))), (a2, .inl (k2, 8000, .inl fl)), (a3, .inl (k3, 16, .inl rt))] H := hP.sub [0, 1, 2, 3, 4, 5, 6] rfl
      have hD : va_D A [(r0, .inr (2, [.ref h0, .ref d1, .ref d2, .int (nI c2)])), (d1, .inl (e1, 400, .inl fd2)), (d2, .inl (e2, 400, .inl od2)), (h0, .inr (0, [.ref a1, .ref a2, .ref a3, .int (nI N), .int fa])), (a1, .inl (k1, 400, .inl (pm_nf9 cn))), (a2, .inl (k2, 8000, .inl fl)), (a3, .inl (k3, 16, .inl rt))] := hD.sub [0, 1, 2, 3, 4, 5, 6] (by decide) rfl
      refine lv_iinc (v := nI (j + 1)) (lv' := [(3, .int (nI (j + 1))), (2, .int (nI (cn a))), (1, .int (nI a)), (0, .ref r0)]) hx hb dX2_enterFieldsOf_29 hl (k := 0) rfl (nI_1 _) (by decide) rfl (fun ls hl => ?_)
      refine lv_goto (tgt := 11) hx hb dX2_enterFieldsOf_32 (by decide) ?_
      exact ih (j + 1, fd2, od2, c2) _ _ _ ⟨by omega, by rw [hw, hE]; rfl, hP, hD, hS, lv_sub hl [0, 1, 2, 3] rfl⟩ (by omega)
  · obtain rfl : r_1 = nI 0 := hw.trans (by rw [if_neg (by rw [hh_5]; decide)])
    refine lv_istore_n (lv' := [(2, .int (nI 0)), (0, .ref r0), (1, .int p0)]) hx hb dX2_enterFieldsOf_8 rfl hl (by decide) rfl (fun ls hl => ?_)
    refine lv_iconst (v := nI 0) hx hb dX2_enterFieldsOf_9 (by decide +kernel) ?_
    refine lv_istore_n (lv' := [(3, .int (nI 0)), (2, .int (nI 0)), (0, .ref r0), (1, .int p0)]) hx hb dX2_enterFieldsOf_10 rfl hl (by decide) rfl (fun ls hl => ?_)
    refine lv_iload_n hx hb dX2_enterFieldsOf_11 rfl (lv_at hl 0 rfl) ?_
    refine lv_iload_n hx hb dX2_enterFieldsOf_12 rfl (lv_at hl 1 rfl) ?_
    refine lv_icmp_ge (tgt := 35) hx hb dX2_enterFieldsOf_13 (by decide) (fun c_13 => ?_) (fun c_13 => absurd c_13 (by decide +kernel))
    rw [nI_leI (by omega) (by omega)] at c_13
    exact W.vret hx hb hr (fun t ht hW => ⟨⟨(fd, od, fc), rfl, pm_o1 hh_5, by rw [ht]; exact hP, va_K.moved hW.alike hK, hD⟩, hS.F ht⟩) hS.2.2 dX2_enterFieldsOf_35

set_option maxHeartbeats 4000000 in
set_option maxRecDepth 100000 in
/-- Reach.search() -/
theorem c_R_search (l : Launch) (dC : Nat → ClassId) (dI : Nat → Nat → Nat) (r0 d1 d2 : Nat) (e1 e2 : ClassId) (fd od : Nat → Int32) (fc : Nat) (h0 a1 a2 a3 : Nat) (k1 k2 k3 : ClassId) (N : Nat) (cn : Nat → Nat) (fl rt : Nat → Int32) (fa : Int32) (sz : Nat) (hN : N ≤ 400) (hc : ∀ k, k < N → cn k ≤ 20) : Met l yX2_search wsX2_search ({ frames := 4, cells := 0, slots := 0, locals := 88 }) (va_Pc [.ref r0] (fun U => U.heap.size = sz ∧ va_P (dC, dI) vwCl [(r0, .inr (2, [.ref h0, .ref d1, .ref d2, .int (nI fc)])), (d1, .inl (e1, 400, .inl fd)), (d2, .inl (e2, 400, .inl od)), (h0, .inr (0, [.ref a1, .ref a2, .ref a3, .int (nI N), .int fa])), (a1, .inl (k1, 400, .inl (pm_nf9 cn))), (a2, .inl (k2, 8000, .inl fl)), (a3, .inl (k3, 16, .inl rt))] U.heap ∧ va_K (dC, dI) vwCl [(e1, .boolean), (e2, .int), (k1, .int), (k2, .int), (k3, .int)] U ∧ va_D (fun _ => True) [(r0, .inr (2, [.ref h0, .ref d1, .ref d2, .int (nI fc)])), (d1, .inl (e1, 400, .inl fd)), (d2, .inl (e2, 400, .inl od)), (h0, .inr (0, [.ref a1, .ref a2, .ref a3, .int (nI N), .int fa])), (a1, .inl (k1, 400, .inl (pm_nf9 cn))), (a2, .inl (k2, 8000, .inl fl)), (a3, .inl (k3, 16, .inl rt))])) (va_Qv (fun (u : pm_F) => u = pm_srch N cn fl rt fd od) (fun (u : pm_F) (t : State) => va_P (dC, dI) vwCl [(r0, .inr (2, [.ref h0, .ref d1, .ref d2, .int (nI (u.2.2))])), (d1, .inl (e1, 400, .inl (u.1))), (d2, .inl (e2, 400, .inl (u.2.1))), (h0, .inr (0, [.ref a1, .ref a2, .ref a3, .int (nI N), .int fa])), (a1, .inl (k1, 400, .inl (pm_nf9 cn))), (a2, .inl (k2, 8000, .inl fl)), (a3, .inl (k3, 16, .inl rt))] t.heap ∧ va_K (dC, dI) vwCl [(e1, .boolean), (e2, .int), (k1, .int), (k2, .int), (k3, .int)] t ∧ va_D (va_A [(r0, .inr (2, [.ref h0, .ref d1, .ref d2, .int (nI fc)])), (d1, .inl (e1, 400, .inl fd)), (d2, .inl (e2, 400, .inl od)), (h0, .inr (0, [.ref a1, .ref a2, .ref a3, .int (nI N), .int fa])), (a1, .inl (k1, 400, .inl (pm_nf9 cn))), (a2, .inl (k2, 8000, .inl fl)), (a3, .inl (k3, 16, .inl rt))] sz) [(r0, .inr (2, [.ref h0, .ref d1, .ref d2, .int (nI (u.2.2))])), (d1, .inl (e1, 400, .inl (u.1))), (d2, .inl (e2, 400, .inl (u.2.1))), (h0, .inr (0, [.ref a1, .ref a2, .ref a3, .int (nI N), .int fa])), (a1, .inl (k1, 400, .inl (pm_nf9 cn))), (a2, .inl (k2, 8000, .inl fl)), (a3, .inl (k3, 16, .inl rt))]) (va_A [(r0, .inr (2, [.ref h0, .ref d1, .ref d2, .int (nI fc)])), (d1, .inl (e1, 400, .inl fd)), (d2, .inl (e2, 400, .inl od)), (h0, .inr (0, [.ref a1, .ref a2, .ref a3, .int (nI N), .int fa])), (a1, .inl (k1, 400, .inl (pm_nf9 cn))), (a2, .inl (k2, 8000, .inl fl)), (a3, .inl (k3, 16, .inl rt))] sz)) 0 0 (va_A [(r0, .inr (2, [.ref h0, .ref d1, .ref d2, .int (nI fc)])), (d1, .inl (e1, 400, .inl fd)), (d2, .inl (e2, 400, .inl od)), (h0, .inr (0, [.ref a1, .ref a2, .ref a3, .int (nI N), .int fa])), (a1, .inl (k1, 400, .inl (pm_nf9 cn))), (a2, .inl (k2, 8000, .inl fl)), (a3, .inl (k3, 16, .inl rt))] sz) := by
  refine Met.ofW (cc := cX2_search) (maxL := 2) (ret := (none)) (by decide) rfl ?_
  intro p e s m args below meth c s₁ B hml hv
  obtain ⟨rfl, hsz, hP, hK, hD0⟩ := hv
  have hx := B.exec
  have hb := B.bytes
  have hr := B.returns
  have hts : ∀ w ∈ gw, w.before _ s = true := fun w h => atoms_spec (ws := wsX2_search) B.pre w (List.mem_cons_of_mem _ h)
  have hown : s.vm.findClass RX2 = some m.cls := findClass_of_methodNamed B.named
  have hlocks := B.notSynchronized
  subst hsz
  have hD := hD0.self (sz := s.heap.size)
  generalize hAe : va_A [(r0, .inr (2, [.ref h0, .ref d1, .ref d2, .int (nI fc)])), (d1, .inl (e1, 400, .inl fd)), (d2, .inl (e2, 400, .inl od)), (h0, .inr (0, [.ref a1, .ref a2, .ref a3, .int (nI N), .int fa])), (a1, .inl (k1, 400, .inl (pm_nf9 cn))), (a2, .inl (k2, 8000, .inl fl)), (a3, .inl (k3, 16, .inl rt))] s.heap.size = A at hD ⊢
  have hA : ∀ q : Nat, s.heap.size ≤ q → A q := fun q h => by rw [← hAe]; exact Or.inr h
  have hP : va_P (dC, dI) vwCl [(r0, .inr (2, [.ref h0, .ref d1, .ref d2, .int (nI fc)])), (d1, .inl (e1, 400, .inl fd)), (d2, .inl (e2, 400, .inl od)), (h0, .inr (0, [.ref a1, .ref a2, .ref a3, .int (nI N), .int fa])), (a1, .inl (k1, 400, .inl (pm_nf9 cn))), (a2, .inl (k2, 8000, .inl fl)), (a3, .inl (k3, 16, .inl rt))] s.heap := hP
  have hl := lv_entry ([.ref r0]) (n := 2) (Nat.le_of_ble_eq_true rfl)
  rw [lg_entry_eq]
  generalize (lg_sl ([.ref r0]) ++ List.replicate (2 - (lg_sl ([.ref r0])).length) Slot.unset).toArray = ls at hl ⊢
  have hl : lv_has ls 2 [(0, .ref r0)] := hl
  obtain ⟨H, hH⟩ : ∃ H : Heap, H = s.heap := ⟨_, rfl⟩
  rw [← hH]
  rw [← hH] at hP
  have hS : va_S A s.heap H [] := by rw [hH]; exact va_S.rf
  clear hH
  refine lv_iconst (v := nI 0) hx hb dX2_search_0 (by decide +kernel) ?_
  refine lv_istore_n (lv' := [(1, .int (nI 0)), (0, .ref r0)]) hx hb dX2_search_1 rfl hl (by decide) rfl (fun ls hl => ?_)
  have hP : va_P (dC, dI) vwCl [(r0, .inr (2, [.ref h0, .ref d1, .ref d2, .int (nI fc)])), (d1, .inl (e1, 400, .inl (pm_clr 0 fd))), (d2, .inl (e2, 400, .inl od)), (h0, .inr (0, [.ref a1, .ref a2, .ref a3, .int (nI N), .int fa])), (a1, .inl (k1, 400, .inl (pm_nf9 cn))), (a2, .inl (k2, 8000, .inl fl)), (a3, .inl (k3, 16, .inl rt))] H := by rw [pm_clr_0]; exact hP
  have hD : va_D A [(r0, .inr (2, [.ref h0, .ref d1, .ref d2, .int (nI fc)])), (d1, .inl (e1, 400, .inl (pm_clr 0 fd))), (d2, .inl (e2, 400, .inl od)), (h0, .inr (0, [.ref a1, .ref a2, .ref a3, .int (nI N), .int fa])), (a1, .inl (k1, 400, .inl (pm_nf9 cn))), (a2, .inl (k2, 8000, .inl fl)), (a3, .inl (k3, 16, .inl rt))] := by rw [pm_clr_0]; exact hD
  refine lp_loop (σ := Nat) (head := 2) (fun k H locs ls => k ≤ 400 ∧ va_P (dC, dI) vwCl [(r0, .inr (2, [.ref h0, .ref d1, .ref d2, .int (nI fc)])), (d1, .inl (e1, 400, .inl (pm_clr k fd))), (d2, .inl (e2, 400, .inl od)), (h0, .inr (0, [.ref a1, .ref a2, .ref a3, .int (nI N), .int fa])), (a1, .inl (k1, 400, .inl (pm_nf9 cn))), (a2, .inl (k2, 8000, .inl fl)), (a3, .inl (k3, 16, .inl rt))] H ∧ va_D A [(r0, .inr (2, [.ref h0, .ref d1, .ref d2, .int (nI fc)])), (d1, .inl (e1, 400, .inl (pm_clr k fd))), (d2, .inl (e2, 400, .inl od)), (h0, .inr (0, [.ref a1, .ref a2, .ref a3, .int (nI N), .int fa])), (a1, .inl (k1, 400, .inl (pm_nf9 cn))), (a2, .inl (k2, 8000, .inl fl)), (a3, .inl (k3, 16, .inl rt))] ∧ va_S A s.heap H locs ∧ lv_has ls 2 [(1, .int (nI k)), (0, .ref r0)]) (fun k => 400 - k) ?_ 0 _ _ _ ⟨Nat.zero_le _, hP, hD, hS, lv_sub hl [0, 1] rfl⟩
  intro x H locs ls hI ih
  obtain ⟨k, rfl⟩ : ∃ y, y = x := ⟨x, rfl⟩
  obtain ⟨hk, hP, hD, hS, hl⟩ := hI
  refine lv_iload_n hx hb dX2_search_2 rfl (lv_at hl 0 rfl) ?_
  refine lv_sipush (v := nI 400) hx hb dX2_search_3 (by decide +kernel) ?_
  refine lv_icmp_ge (tgt := 22) hx hb dX2_search_6 (by decide) (fun c_6 => ?_) (fun c_6 => ?_)
  · rw [nI_leI (by omega) (by omega)] at c_6
    obtain rfl : k = 400 := by omega
    clear ih
    refine lv_aload_n hx hb dX2_search_22 rfl (lv_at hl 1 rfl) ?_
    refine lv_iconst (v := nI 0) hx hb dX2_search_23 (by decide +kernel) ?_
    refine va_put (D := (dC, dI)) (ci := 2) (v := .int (nI 0)) (ty := .int) (C := RX2) (T := TX2) (N := 4) hx hb hts iw_X2 tyX2 tyX2_ok nmX2 hown hK hP hD hS 0 rfl rfl 3 (by decide) (hts _ mf_X2_23) (fun _ h9 => h9) rfl (by decide +kernel) (rfl) (rfl) (Nat.le_of_ble_eq_true rfl) dX2_search_24 (fun H locs hP hD hS => ?_)
    have hP : va_P (dC, dI) vwCl [(r0, .inr (2, [.ref h0, .ref d1, .ref d2, .int (nI 0)])), (d1, .inl (e1, 400, .inl (pm_clr 400 fd))), (d2, .inl (e2, 400, .inl od)), (h0, .inr (0, [.ref a1, .ref a2, .ref a3, .int (nI N), .int fa])), (a1, .inl (k1, 400, .inl (pm_nf9 cn))), (a2, .inl (k2, 8000, .inl fl)), (a3, .inl (k3, 16, .inl rt))] H := hP
    have hD : va_D A [(r0, .inr (2, [.ref h0, .ref d1, .ref d2, .int (nI 0)])), (d1, .inl (e1, 400, .inl (pm_clr 400 fd))), (d2, .inl (e2, 400, .inl od)), (h0, .inr (0, [.ref a1, .ref a2, .ref a3, .int (nI N), .int fa])), (a1, .inl (k1, 400, .inl (pm_nf9 cn))), (a2, .inl (k2, 8000, .inl fl)), (a3, .inl (k3, 16, .inl rt))] := hD
    refine lv_iconst (v := nI 0) hx hb dX2_search_27 (by decide +kernel) ?_
    refine lv_istore_n (lv' := [(1, .int (nI 0)), (0, .ref r0)]) hx hb dX2_search_28 rfl hl (by decide) rfl (fun ls hl => ?_)
    refine lp_loop (σ := Nat × (Nat → Int32) × (Nat → Int32) × Nat) (head := 29) (fun x H locs ls => match x with | (i, fd1, od1, c1) => i ≤ 16 ∧ (fd1, od1, c1) = pm_ef N rt i (pm_clr 400 fd, od, 0) ∧ va_P (dC, dI) vwCl [(r0, .inr (2, [.ref h0, .ref d1, .ref d2, .int (nI c1)])), (d1, .inl (e1, 400, .inl fd1)), (d2, .inl (e2, 400, .inl od1)), (h0, .inr (0, [.ref a1, .ref a2, .ref a3, .int (nI N), .int fa])), (a1, .inl (k1, 400, .inl (pm_nf9 cn))), (a2, .inl (k2, 8000, .inl fl)), (a3, .inl (k3, 16, .inl rt))] H ∧ va_D A [(r0, .inr (2, [.ref h0, .ref d1, .ref d2, .int (nI c1)])), (d1, .inl (e1, 400, .inl fd1)), (d2, .inl (e2, 400, .inl od1)), (h0, .inr (0, [.ref a1, .ref a2, .ref a3, .int (nI N), .int fa])), (a1, .inl (k1, 400, .inl (pm_nf9 cn))), (a2, .inl (k2, 8000, .inl fl)), (a3, .inl (k3, 16, .inl rt))] ∧ va_S A s.heap H locs ∧ lv_has ls 2 [(1, .int (nI i)), (0, .ref r0)]) (fun x => match x with | (i, fd1, od1, c1) => 16 - i) ?_ (0, pm_clr 400 fd, od, 0) _ _ _ ⟨Nat.zero_le _, rfl, hP, hD, hS, lv_sub hl [0, 1] rfl⟩
    intro x H locs ls hI ih
    obtain ⟨i, fd1, od1, c1⟩ := x
    obtain ⟨hi, hE, hP, hD, hS, hl⟩ := hI
    dsimp only at ih
    have hc1 : c1 ≤ 400 := pm_ef_c (Nat.zero_le _) hE
    refine lv_iload_n hx hb dX2_search_29 rfl (lv_at hl 0 rfl) ?_
    refine lv_bipush (v := nI 16) hx hb dX2_search_30 (by decide +kernel) ?_
    refine lv_icmp_ge (tgt := 53) hx hb dX2_search_32 (by decide) (fun c_32 => ?_) (fun c_32 => ?_)
    · rw [nI_leI (by omega) (by omega)] at c_32
      refine lv_iconst (v := nI 0) hx hb dX2_search_53 (by decide +kernel) ?_
      refine lv_istore_n (lv' := [(1, .int (nI 0)), (0, .ref r0)]) hx hb dX2_search_54 rfl hl (by decide) rfl (fun ls hl => ?_)
      have hE0 : (fd1, od1, c1) = pm_ef N rt 16 (pm_clr 400 fd, od, 0) := by rw [hE, show i = 16 by omega]
      clear ih hE
      refine lp_loop (σ := Nat × (Nat → Int32) × (Nat → Int32) × Nat) (head := 55) (fun x H locs ls => match x with | (i5, fd5, od5, c5) => i5 ≤ 400 ∧ c5 ≤ 400 ∧ pm_q N cn fl (400 - i5) i5 (fd5, od5, c5) = pm_srch N cn fl rt fd od ∧ va_P (dC, dI) vwCl [(r0, .inr (2, [.ref h0, .ref d1, .ref d2, .int (nI c5)])), (d1, .inl (e1, 400, .inl fd5)), (d2, .inl (e2, 400, .inl od5)), (h0, .inr (0, [.ref a1, .ref a2, .ref a3, .int (nI N), .int fa])), (a1, .inl (k1, 400, .inl (pm_nf9 cn))), (a2, .inl (k2, 8000, .inl fl)), (a3, .inl (k3, 16, .inl rt))] H ∧ va_D A [(r0, .inr (2, [.ref h0, .ref d1, .ref d2, .int (nI c5)])), (d1, .inl (e1, 400, .inl fd5)), (d2, .inl (e2, 400, .inl od5)), (h0, .inr (0, [.ref a1, .ref a2, .ref a3, .int (nI N), .int fa])), (a1, .inl (k1, 400, .inl (pm_nf9 cn))), (a2, .inl (k2, 8000, .inl fl)), (a3, .inl (k3, 16, .inl rt))] ∧ va_S A s.heap H locs ∧ lv_has ls 2 [(1, .int (nI i5)), (0, .ref r0)]) (fun x => match x with | (i5, fd5, od5, c5) => 400 - i5) ?_ (0, fd1, od1, c1) _ _ _ ⟨Nat.zero_le _, hc1, by rw [hE0]; rfl, hP, hD, hS, lv_sub hl [0, 1] rfl⟩
      intro x H locs ls hI ih
      obtain ⟨i5, fd5, od5, c5⟩ := x
      obtain ⟨hi5, hc5, hE5, hP, hD, hS, hl⟩ := hI
      dsimp only at ih
      refine lv_iload_n hx hb dX2_search_55 rfl (lv_at hl 0 rfl) ?_
      refine lv_sipush (v := nI 400) hx hb dX2_search_56 (by decide +kernel) ?_
      refine lv_icmp_ge (tgt := 86) hx hb dX2_search_59 (by decide) (fun c_59 => ?_) (fun c_59 => ?_)
      · rw [nI_leI (by omega) (by omega)] at c_59
        exact W.vret hx hb hr (fun t ht hW => ⟨⟨(fd5, od5, c5), rfl, by rw [← hE5, show 400 - i5 = 0 by omega]; rfl, by rw [ht]; exact hP, va_K.moved hW.alike hK, hD⟩, hS.F ht⟩) hS.2.2 dX2_search_86
      · rw [nI_leI (by omega) (by omega)] at c_59
        refine lv_iload_n hx hb dX2_search_62 rfl (lv_at hl 0 rfl) ?_
        refine lv_aload_n hx hb dX2_search_63 rfl (lv_at hl 1 rfl) ?_
        refine va_get (D := (dC, dI)) (ci := 2) (v := .int (nI c5)) (C := RX2) (T := TX2) (N := 4) hx hb hts iw_X2 hown hK hP 0 rfl rfl 3 (by decide) (hts _ mf_X2_23) (fun _ h9 => h9) rfl dX2_search_64 ?_
        refine lv_icmp_ge (tgt := 86) hx hb dX2_search_67 (by decide) (fun c_67 => ?_) (fun c_67 => ?_)
        · rw [nI_leI (by omega) (by omega)] at c_67
          exact W.vret hx hb hr (fun t ht hW => ⟨⟨(fd5, od5, c5), rfl, by rw [← hE5]; exact pm_q_e (by omega), by rw [ht]; exact hP, va_K.moved hW.alike hK, hD⟩, hS.F ht⟩) hS.2.2 dX2_search_86
        · rw [nI_leI (by omega) (by omega)] at c_67; replace c_67 : i5 < c5 := by omega
          refine lv_aload_n hx hb dX2_search_70 rfl (lv_at hl 1 rfl) ?_
          refine lv_aload_n hx hb dX2_search_71 rfl (lv_at hl 1 rfl) ?_
          refine va_get (D := (dC, dI)) (ci := 2) (v := .ref d2) (C := RX2) (T := TX2) (N := 4) hx hb hts iw_X2 hown hK hP 0 rfl rfl 2 (by decide) (hts _ mf_X2_19) (fun _ h9 => h9) rfl dX2_search_72 ?_
          refine lv_iload_n hx hb dX2_search_75 rfl (lv_at hl 0 rfl) ?_
          refine va_iald hx hb hK hP 2 1 rfl rfl (vp_in_nI (by omega) (by omega)) dX2_search_76 ?_
          refine lv_topi (fun x_1 ex_1 => ?_)
          rw [nI_clamp (by omega)] at ex_1
          subst ex_1
          have hPc := hP.sub (ws' := [(r0, .inr (2, [.ref h0, .ref d1, .ref d2, .int (nI c5)])), (d1, .inl (e1, 400, .inl fd5)), (d2, .inl (e2, 400, .inl od5)), (h0, .inr (0, [.ref a1, .ref a2, .ref a3, .int (nI N), .int fa])), (a1, .inl (k1, 400, .inl (pm_nf9 cn))), (a2, .inl (k2, 8000, .inl fl)), (a3, .inl (k3, 16, .inl rt))]) [0, 1, 2, 3, 4, 5, 6] rfl
          have hDc := hD.sub (ws' := [(r0, .inr (2, [.ref h0, .ref d1, .ref d2, .int (nI c5)])), (d1, .inl (e1, 400, .inl fd5)), (d2, .inl (e2, 400, .inl od5)), (h0, .inr (0, [.ref a1, .ref a2, .ref a3, .int (nI N), .int fa])), (a1, .inl (k1, 400, .inl (pm_nf9 cn))), (a2, .inl (k2, 8000, .inl fl)), (a3, .inl (k3, 16, .inl rt))]) [0, 1, 2, 3, 4, 5, 6] (by decide) rfl
          have hKc := hK.sub (tys' := [(e1, .boolean), (e2, .int), (k1, .int), (k2, .int), (k3, .int)]) [0, 1, 2, 3, 4] rfl
          have hFc := va_free (wc := [(r0, .inr (2, [.ref h0, .ref d1, .ref d2, .int (nI c5)])), (d1, .inl (e1, 400, .inl fd5)), (d2, .inl (e2, 400, .inl od5)), (h0, .inr (0, [.ref a1, .ref a2, .ref a3, .int (nI N), .int fa])), (a1, .inl (k1, 400, .inl (pm_nf9 cn))), (a2, .inl (k2, 8000, .inl fl)), (a3, .inl (k3, 16, .inl rt))]) hD hS hA [0, 1, 2, 3, 4, 5, 6] rfl
          refine va_callv (va_runV (As := [.int (od5 i5)]) (rest := []) ⟨hx, hb, hml, hown, hts⟩ (c_R_enterFieldsOf l dC dI r0 d1 d2 e1 e2 fd5 od5 c5 h0 a1 a2 a3 k1 k2 k3 N cn fl rt fa (od5 i5) H.size (hN) (hc) (by omega)) (cwV 1 hts (gw_V ml_X2_37 mi_X2_enterFieldsOf ms_X2_enterFieldsOf mn_X2 mc_X2_enterFieldsOf) rfl rfl rfl (by decide +kernel) ⟨Nat.le_of_ble_eq_true rfl, Nat.le_of_ble_eq_true rfl⟩) ⟨fun a U g mk q => by obtain ⟨q0, q1, qP, qK, qD⟩ := q; exact ⟨q0, q1, qP, va_K.moved (u := U) (U := U.calling g mk a) (Vm.Alike.refl U.vm) qK, qD⟩, va_recv hKc hPc (ci := 2) (q0 := 0) rfl rfl, fun U hU hW => ⟨rfl, by rw [hU], by rw [hU]; exact hPc, va_K.moved hW.alike hKc, hDc.weaken (fun _ _ _ _ => trivial)⟩⟩ rfl rfl hl.1 rfl (lv_room (Nat.le_of_ble_eq_true rfl)) dX2_search_77 ⟨Nat.le_of_ble_eq_true rfl, Nat.le_of_ble_eq_true rfl⟩) hS (fun q _ h => hFc q h) hFc (fun u t H1 locs ht hvm hw hB hz1 hk1 hS => ?_)
          obtain ⟨fd6, od6, c6⟩ := u
          obtain ⟨hP1, hK1, hD1⟩ := hB
          rw [ht] at hP1
          have hK1 := va_K.moved hvm.symm hK1
          obtain ⟨hP, hD⟩ := va_join (wr := []) (w1 := [(r0, .inr (2, [.ref h0, .ref d1, .ref d2, .int (nI c6)])), (d1, .inl (e1, 400, .inl fd6)), (d2, .inl (e2, 400, .inl od6)), (h0, .inr (0, [.ref a1, .ref a2, .ref a3, .int (nI N), .int fa])), (a1, .inl (k1, 400, .inl (pm_nf9 cn))), (a2, .inl (k2, 8000, .inl fl)), (a3, .inl (k3, 16, .inl rt))]) hP hD [0, 1, 2, 3, 4, 5, 6] [] rfl rfl (by decide) (by decide) hk1 hFc hP1 hD1
          clear hPc hDc hKc hFc hP1 hK1 hD1
          generalize H1 = H at hP hS ⊢
          have hP : va_P (dC, dI) vwCl [(r0, .inr (2, [.ref h0, .ref d1, .ref d2, .int (nI c6)])), (d1, .inl (e1, 400, .inl fd6)), (d2, .inl (e2, 400, .inl od6)), (h0, .inr (0, [.ref a1, .ref a2, .ref a3, .int (nI N), .int fa])), (a1, .inl (k1, 400, .inl (pm_nf9 cn))), (a2, .inl (k2, 8000, .inl fl)), (a3, .inl (k3, 16, .inl rt))] H := hP.sub [0, 1, 2, 3, 4, 5, 6] rfl
          have hD : va_D A [(r0, .inr (2, [.ref h0, .ref d1, .ref d2, .int (nI c6)])), (d1, .inl (e1, 400, .inl fd6)), (d2, .inl (e2, 400, .inl od6)), (h0, .inr (0, [.ref a1, .ref a2, .ref a3, .int (nI N), .int fa])), (a1, .inl (k1, 400, .inl (pm_nf9 cn))), (a2, .inl (k2, 8000, .inl fl)), (a3, .inl (k3, 16, .inl rt))] := hD.sub [0, 1, 2, 3, 4, 5, 6] (by decide) rfl
          refine lv_iinc (v := nI (i5 + 1)) (lv' := [(1, .int (nI (i5 + 1))), (0, .ref r0)]) hx hb dX2_search_80 hl (k := 0) rfl (nI_1 _) (by decide) rfl (fun ls hl => ?_)
          refine lv_goto (tgt := 55) hx hb dX2_search_83 (by decide) ?_
          exact ih (i5 + 1, fd6, od6, c6) _ _ _ ⟨by omega, pm_eo_c hc5 hw, by rw [hw]; exact (pm_q_s (by omega) c_67).trans hE5, hP, hD, hS, lv_sub hl [0, 1] rfl⟩ (by omega)
    · rw [nI_leI (by omega) (by omega)] at c_32
      refine lv_aload_n hx hb dX2_search_35 rfl (lv_at hl 1 rfl) ?_
      refine lv_aload_n hx hb dX2_search_36 rfl (lv_at hl 1 rfl) ?_
      refine va_get (D := (dC, dI)) (ci := 2) (v := .ref h0) (C := RX2) (T := TX2) (N := 4) hx hb hts iw_X2 hown hK hP 0 rfl rfl 0 (by decide) (hts _ mf_X2_9) (fun _ h9 => h9) rfl dX2_search_37 ?_
      refine lv_iload_n hx hb dX2_search_40 rfl (lv_at hl 0 rfl) ?_
      have hPc := hP.sub (ws' := [(h0, .inr (0, [.ref a1, .ref a2, .ref a3, .int (nI N), .int fa])), (a1, .inl (k1, 400, .inl (pm_nf9 cn))), (a2, .inl (k2, 8000, .inl fl)), (a3, .inl (k3, 16, .inl rt))]) [3, 4, 5, 6] rfl
      have hDc := hD.sub (ws' := [(h0, .inr (0, [.ref a1, .ref a2, .ref a3, .int (nI N), .int fa])), (a1, .inl (k1, 400, .inl (pm_nf9 cn))), (a2, .inl (k2, 8000, .inl fl)), (a3, .inl (k3, 16, .inl rt))]) [3, 4, 5, 6] (by decide) rfl
      have hKc := hK.sub (tys' := [(k1, .int), (k2, .int), (k3, .int)]) [2, 3, 4] rfl
      have hFc := va_free (wc := [(h0, .inr (0, [.ref a1, .ref a2, .ref a3, .int (nI N), .int fa])), (a1, .inl (k1, 400, .inl (pm_nf9 cn))), (a2, .inl (k2, 8000, .inl fl)), (a3, .inl (k3, 16, .inl rt))]) hD hS hA [3, 4, 5, 6] rfl
      refine va_calli (va_runV (As := [.int (nI i)]) (rest := [.ref r0]) ⟨hx, hb, hml, hown, hts⟩ (c_H_rootAt l dC dI h0 a1 a2 a3 k1 k2 k3 N cn fl rt fa (nI i) H.size) (cwV 1 hts (gw_V ml_X2_27 mi_X0_rootAt ms_X0_rootAt mn_X0 mc_X0_rootAt) rfl rfl rfl (by decide +kernel) ⟨Nat.le_of_ble_eq_true rfl, Nat.le_of_ble_eq_true rfl⟩) ⟨fun a U g mk q => by obtain ⟨q0, q1, qP, qK, qD⟩ := q; exact ⟨q0, q1, qP, va_K.moved (u := U) (U := U.calling g mk a) (Vm.Alike.refl U.vm) qK, qD⟩, va_recv hKc hPc (ci := 0) (q0 := 0) rfl rfl, fun U hU hW => ⟨rfl, by rw [hU], by rw [hU]; exact hPc, va_K.moved hW.alike hKc, hDc.weaken (fun _ _ _ _ => trivial)⟩⟩ rfl rfl hl.1 rfl (lv_room (Nat.le_of_ble_eq_true rfl)) dX2_search_41 ⟨Nat.le_of_ble_eq_true rfl, Nat.le_of_ble_eq_true rfl⟩) hS (fun q _ h => hFc q h) hFc (fun r_3 u t H1 locs ht hvm hw hB hz1 hk1 hS => ?_)
      obtain ⟨hP1, hK1, hD1⟩ := hB
      rw [ht] at hP1
      have hK1 := va_K.moved hvm.symm hK1
      obtain ⟨hP, hD⟩ := va_join (wr := [(r0, .inr (2, [.ref h0, .ref d1, .ref d2, .int (nI c1)])), (d1, .inl (e1, 400, .inl fd1)), (d2, .inl (e2, 400, .inl od1))]) (w1 := [(h0, .inr (0, [.ref a1, .ref a2, .ref a3, .int (nI N), .int fa])), (a1, .inl (k1, 400, .inl (pm_nf9 cn))), (a2, .inl (k2, 8000, .inl fl)), (a3, .inl (k3, 16, .inl rt))]) hP hD [3, 4, 5, 6] [0, 1, 2] rfl rfl (by decide) (by decide) hk1 hFc hP1 hD1
      clear hPc hDc hKc hFc hP1 hK1 hD1
      generalize H1 = H at hP hS ⊢
      have hP : va_P (dC, dI) vwCl [(r0, .inr (2, [.ref h0, .ref d1, .ref d2, .int (nI c1)])), (d1, .inl (e1, 400, .inl fd1)), (d2, .inl (e2, 400, .inl od1)), (h0, .inr (0, [.ref a1, .ref a2, .ref a3, .int (nI N), .int fa])), (a1, .inl (k1, 400, .inl (pm_nf9 cn))), (a2, .inl (k2, 8000, .inl fl)), (a3, .inl (k3, 16, .inl rt))] H := hP.sub [0, 1, 2, 3, 4, 5, 6] rfl
      have hD : va_D A [(r0, .inr (2, [.ref h0, .ref d1, .ref d2, .int (nI c1)])), (d1, .inl (e1, 400, .inl fd1)), (d2, .inl (e2, 400, .inl od1)), (h0, .inr (0, [.ref a1, .ref a2, .ref a3, .int (nI N), .int fa])), (a1, .inl (k1, 400, .inl (pm_nf9 cn))), (a2, .inl (k2, 8000, .inl fl)), (a3, .inl (k3, 16, .inl rt))] := hD.sub [0, 1, 2, 3, 4, 5, 6] (by decide) rfl
      obtain rfl : r_3 = rt i := hw.trans (by rw [if_pos (pm_has_nI (by omega) (by omega)), nI_clamp (by omega)])
      have hPc := hP.sub (ws' := [(r0, .inr (2, [.ref h0, .ref d1, .ref d2, .int (nI c1)])), (d1, .inl (e1, 400, .inl fd1)), (d2, .inl (e2, 400, .inl od1)), (h0, .inr (0, [.ref a1, .ref a2, .ref a3, .int (nI N), .int fa])), (a1, .inl (k1, 400, .inl (pm_nf9 cn))), (a2, .inl (k2, 8000, .inl fl)), (a3, .inl (k3, 16, .inl rt))]) [0, 1, 2, 3, 4, 5, 6] rfl
      have hDc := hD.sub (ws' := [(r0, .inr (2, [.ref h0, .ref d1, .ref d2, .int (nI c1)])), (d1, .inl (e1, 400, .inl fd1)), (d2, .inl (e2, 400, .inl od1)), (h0, .inr (0, [.ref a1, .ref a2, .ref a3, .int (nI N), .int fa])), (a1, .inl (k1, 400, .inl (pm_nf9 cn))), (a2, .inl (k2, 8000, .inl fl)), (a3, .inl (k3, 16, .inl rt))]) [0, 1, 2, 3, 4, 5, 6] (by decide) rfl
      have hKc := hK.sub (tys' := [(e1, .boolean), (e2, .int), (k1, .int), (k2, .int), (k3, .int)]) [0, 1, 2, 3, 4] rfl
      have hFc := va_free (wc := [(r0, .inr (2, [.ref h0, .ref d1, .ref d2, .int (nI c1)])), (d1, .inl (e1, 400, .inl fd1)), (d2, .inl (e2, 400, .inl od1)), (h0, .inr (0, [.ref a1, .ref a2, .ref a3, .int (nI N), .int fa])), (a1, .inl (k1, 400, .inl (pm_nf9 cn))), (a2, .inl (k2, 8000, .inl fl)), (a3, .inl (k3, 16, .inl rt))]) hD hS hA [0, 1, 2, 3, 4, 5, 6] rfl
      refine va_callv (va_runV (As := [.int (rt i)]) (rest := []) ⟨hx, hb, hml, hown, hts⟩ (c_R_enter l dC dI r0 d1 d2 e1 e2 fd1 od1 c1 h0 a1 a2 a3 k1 k2 k3 N cn fl rt fa (rt i) H.size (hN) (by omega)) (cwV 1 hts (gw_V ml_X2_33 mi_X2_enter ms_X2_enter mn_X2 mc_X2_enter) rfl rfl rfl (by decide +kernel) ⟨Nat.le_of_ble_eq_true rfl, Nat.le_of_ble_eq_true rfl⟩) ⟨fun a U g mk q => by obtain ⟨q0, q1, qP, qK, qD⟩ := q; exact ⟨q0, q1, qP, va_K.moved (u := U) (U := U.calling g mk a) (Vm.Alike.refl U.vm) qK, qD⟩, va_recv hKc hPc (ci := 2) (q0 := 0) rfl rfl, fun U hU hW => ⟨rfl, by rw [hU], by rw [hU]; exact hPc, va_K.moved hW.alike hKc, hDc.weaken (fun _ _ _ _ => trivial)⟩⟩ rfl rfl hl.1 rfl (lv_room (Nat.le_of_ble_eq_true rfl)) dX2_search_44 ⟨Nat.le_of_ble_eq_true rfl, Nat.le_of_ble_eq_true rfl⟩) hS (fun q _ h => hFc q h) hFc (fun u t H1 locs ht hvm hw hB hz1 hk1 hS => ?_)
      obtain ⟨fd2, od2, c2⟩ := u
      obtain ⟨hP1, hK1, hD1⟩ := hB
      rw [ht] at hP1
      have hK1 := va_K.moved hvm.symm hK1
      obtain ⟨hP, hD⟩ := va_join (wr := []) (w1 := [(r0, .inr (2, [.ref h0, .ref d1, .ref d2, .int (nI c2)])), (d1, .inl (e1, 400, .inl fd2)), (d2, .inl (e2, 400, .inl od2)), (h0, .inr (0, [.ref a1, .ref a2, .ref a3, .int (nI N), .int fa])), (a1, .inl (k1, 400, .inl (pm_nf9 cn))), (a2, .inl (k2, 8000, .inl fl)), (a3, .inl (k3, 16, .inl rt))]) hP hD [0, 1, 2, 3, 4, 5, 6] [] rfl rfl (by decide) (by decide) hk1 hFc hP1 hD1
      clear hPc hDc hKc hFc hP1 hK1 hD1
      generalize H1 = H at hP hS ⊢
      have hP : va_P (dC, dI) vwCl [(r0, .inr (2, [.ref h0, .ref d1, .ref d2, .int (nI c2)])), (d1, .inl (e1, 400, .inl fd2)), (d2, .inl (e2, 400, .inl od2)), (h0, .inr (0, [.ref a1, .ref a2, .ref a3, .int (nI N), .int fa])), (a1, .inl (k1, 400, .inl (pm_nf9 cn))), (a2, .inl (k2, 8000, .inl fl)), (a3, .inl (k3, 16, .inl rt))] H := hP.sub [0, 1, 2, 3, 4, 5, 6] rfl
      have hD : va_D A [(r0, .inr (2, [.ref h0, .ref d1, .ref d2, .int (nI c2)])), (d1, .inl (e1, 400, .inl fd2)), (d2, .inl (e2, 400, .inl od2)), (h0, .inr (0, [.ref a1, .ref a2, .ref a3, .int (nI N), .int fa])), (a1, .inl (k1, 400, .inl (pm_nf9 cn))), (a2, .inl (k2, 8000, .inl fl)), (a3, .inl (k3, 16, .inl rt))] := hD.sub [0, 1, 2, 3, 4, 5, 6] (by decide) rfl
      refine lv_iinc (v := nI (i + 1)) (lv' := [(1, .int (nI (i + 1))), (0, .ref r0)]) hx hb dX2_search_47 hl (k := 0) rfl (nI_1 _) (by decide) rfl (fun ls hl => ?_)
      refine lv_goto (tgt := 29) hx hb dX2_search_50 (by decide) ?_
      exact ih (i + 1, fd2, od2, c2) _ _ _ ⟨by omega, by rw [hw, hE]; rfl, hP, hD, hS, lv_sub hl [0, 1] rfl⟩ (by omega)
  · rw [nI_leI (by omega) (by omega)] at c_6
    refine lv_aload_n hx hb dX2_search_9 rfl (lv_at hl 1 rfl) ?_
    refine va_get (D := (dC, dI)) (ci := 2) (v := .ref d1) (C := RX2) (T := TX2) (N := 4) hx hb hts iw_X2 hown hK hP 0 rfl rfl 1 (by decide) (hts _ mf_X2_15) (fun _ h9 => h9) rfl dX2_search_10 ?_
    refine lv_iload_n hx hb dX2_search_13 rfl (lv_at hl 0 rfl) ?_
    refine lv_iconst (v := nI 0) hx hb dX2_search_14 (by decide +kernel) ?_
    refine va_zast hx hb hK hP hD hS 1 0 rfl rfl (vp_in_nI (by omega) (by omega)) dX2_search_15 (fun H locs hP hD hS => ?_)
    rw [nI_clamp (by omega)] at hP hD
    rw [pm_z0] at hP hD
    have hP : va_P (dC, dI) vwCl [(r0, .inr (2, [.ref h0, .ref d1, .ref d2, .int (nI fc)])), (d1, .inl (e1, 400, .inl (upd (pm_clr k fd) k 0))), (d2, .inl (e2, 400, .inl od)), (h0, .inr (0, [.ref a1, .ref a2, .ref a3, .int (nI N), .int fa])), (a1, .inl (k1, 400, .inl (pm_nf9 cn))), (a2, .inl (k2, 8000, .inl fl)), (a3, .inl (k3, 16, .inl rt))] H := hP
    have hD : va_D A [(r0, .inr (2, [.ref h0, .ref d1, .ref d2, .int (nI fc)])), (d1, .inl (e1, 400, .inl (upd (pm_clr k fd) k 0))), (d2, .inl (e2, 400, .inl od)), (h0, .inr (0, [.ref a1, .ref a2, .ref a3, .int (nI N), .int fa])), (a1, .inl (k1, 400, .inl (pm_nf9 cn))), (a2, .inl (k2, 8000, .inl fl)), (a3, .inl (k3, 16, .inl rt))] := hD
    rw [show upd (pm_clr k fd) k 0 = pm_clr (k + 1) fd from pm_clr_s k fd] at hP hD
    refine lv_iinc (v := nI (k + 1)) (lv' := [(1, .int (nI (k + 1))), (0, .ref r0)]) hx hb dX2_search_16 hl (k := 0) rfl (nI_1 _) (by decide) rfl (fun ls hl => ?_)
    refine lv_goto (tgt := 2) hx hb dX2_search_19 (by decide) ?_
    exact ih (k + 1) _ _ _ ⟨by omega, hP, hD, hS, lv_sub hl [0, 1] rfl⟩ (by omega)

set_option maxHeartbeats 4000000 in
set_option maxRecDepth 100000 in
/-- Reach.hasFound(k) -/
theorem c_R_hasFound (l : Launch) (dC : Nat → ClassId) (dI : Nat → Nat → Nat) (r0 d1 d2 : Nat) (e1 e2 : ClassId) (fd od : Nat → Int32) (fc : Nat) (h0 a1 a2 a3 : Nat) (k1 k2 k3 : ClassId) (N : Nat) (cn : Nat → Nat) (fl rt : Nat → Int32) (fa : Int32) (p0 : Int32) (sz : Nat) (hN : N ≤ 400) : Met l yX2_hasFound wsX2_hasFound ({ frames := 1, cells := 0, slots := 0, locals := 21 }) (va_Pc [.ref r0, .int p0] (fun U => U.heap.size = sz ∧ va_P (dC, dI) vwCl [(r0, .inr (2, [.ref h0, .ref d1, .ref d2, .int (nI fc)])), (d1, .inl (e1, 400, .inl fd)), (d2, .inl (e2, 400, .inl od)), (h0, .inr (0, [.ref a1, .ref a2, .ref a3, .int (nI N), .int fa])), (a1, .inl (k1, 400, .inl (pm_nf9 cn))), (a2, .inl (k2, 8000, .inl fl)), (a3, .inl (k3, 16, .inl rt))] U.heap ∧ va_K (dC, dI) vwCl [(e1, .boolean), (e2, .int), (k1, .int), (k2, .int), (k3, .int)] U ∧ va_D (fun _ => True) [(r0, .inr (2, [.ref h0, .ref d1, .ref d2, .int (nI fc)])), (d1, .inl (e1, 400, .inl fd)), (d2, .inl (e2, 400, .inl od)), (h0, .inr (0, [.ref a1, .ref a2, .ref a3, .int (nI N), .int fa])), (a1, .inl (k1, 400, .inl (pm_nf9 cn))), (a2, .inl (k2, 8000, .inl fl)), (a3, .inl (k3, 16, .inl rt))])) (va_Qi (fun (r : Int32) (_ : Unit) => r = pm_b (pm_hm N fd p0)) (fun (_ : Unit) (t : State) => va_P (dC, dI) vwCl [(r0, .inr (2, [.ref h0, .ref d1, .ref d2, .int (nI fc)])), (d1, .inl (e1, 400, .inl fd)), (d2, .inl (e2, 400, .inl od)), (h0, .inr (0, [.ref a1, .ref a2, .ref a3, .int (nI N), .int fa])), (a1, .inl (k1, 400, .inl (pm_nf9 cn))), (a2, .inl (k2, 8000, .inl fl)), (a3, .inl (k3, 16, .inl rt))] t.heap ∧ va_K (dC, dI) vwCl [(e1, .boolean), (e2, .int), (k1, .int), (k2, .int), (k3, .int)] t ∧ va_D (va_A [(r0, .inr (2, [.ref h0, .ref d1, .ref d2, .int (nI fc)])), (d1, .inl (e1, 400, .inl fd)), (d2, .inl (e2, 400, .inl od)), (h0, .inr (0, [.ref a1, .ref a2, .ref a3, .int (nI N), .int fa])), (a1, .inl (k1, 400, .inl (pm_nf9 cn))), (a2, .inl (k2, 8000, .inl fl)), (a3, .inl (k3, 16, .inl rt))] sz) [(r0, .inr (2, [.ref h0, .ref d1, .ref d2, .int (nI fc)])), (d1, .inl (e1, 400, .inl fd)), (d2, .inl (e2, 400, .inl od)), (h0, .inr (0, [.ref a1, .ref a2, .ref a3, .int (nI N), .int fa])), (a1, .inl (k1, 400, .inl (pm_nf9 cn))), (a2, .inl (k2, 8000, .inl fl)), (a3, .inl (k3, 16, .inl rt))]) (va_A [(r0, .inr (2, [.ref h0, .ref d1, .ref d2, .int (nI fc)])), (d1, .inl (e1, 400, .inl fd)), (d2, .inl (e2, 400, .inl od)), (h0, .inr (0, [.ref a1, .ref a2, .ref a3, .int (nI N), .int fa])), (a1, .inl (k1, 400, .inl (pm_nf9 cn))), (a2, .inl (k2, 8000, .inl fl)), (a3, .inl (k3, 16, .inl rt))] sz)) 0 0 (va_A [(r0, .inr (2, [.ref h0, .ref d1, .ref d2, .int (nI fc)])), (d1, .inl (e1, 400, .inl fd)), (d2, .inl (e2, 400, .inl od)), (h0, .inr (0, [.ref a1, .ref a2, .ref a3, .int (nI N), .int fa])), (a1, .inl (k1, 400, .inl (pm_nf9 cn))), (a2, .inl (k2, 8000, .inl fl)), (a3, .inl (k3, 16, .inl rt))] sz) := by
  refine Met.ofW (cc := cX2_hasFound) (maxL := 2) (ret := (some .boolean)) (by decide) rfl ?_
  intro p e s m args below meth c s₁ B hml hv
  obtain ⟨rfl, hsz, hP, hK, hD0⟩ := hv
  have hx := B.exec
  have hb := B.bytes
  have hr := B.returns
  have hts : ∀ w ∈ gw, w.before _ s = true := fun w h => atoms_spec (ws := wsX2_hasFound) B.pre w (List.mem_cons_of_mem _ h)
  have hown : s.vm.findClass RX2 = some m.cls := findClass_of_methodNamed B.named
  have hlocks := B.notSynchronized
  subst hsz
  have hD := hD0.self (sz := s.heap.size)
  generalize hAe : va_A [(r0, .inr (2, [.ref h0, .ref d1, .ref d2, .int (nI fc)])), (d1, .inl (e1, 400, .inl fd)), (d2, .inl (e2, 400, .inl od)), (h0, .inr (0, [.ref a1, .ref a2, .ref a3, .int (nI N), .int fa])), (a1, .inl (k1, 400, .inl (pm_nf9 cn))), (a2, .inl (k2, 8000, .inl fl)), (a3, .inl (k3, 16, .inl rt))] s.heap.size = A at hD ⊢
  have hA : ∀ q : Nat, s.heap.size ≤ q → A q := fun q h => by rw [← hAe]; exact Or.inr h
  have hP : va_P (dC, dI) vwCl [(r0, .inr (2, [.ref h0, .ref d1, .ref d2, .int (nI fc)])), (d1, .inl (e1, 400, .inl fd)), (d2, .inl (e2, 400, .inl od)), (h0, .inr (0, [.ref a1, .ref a2, .ref a3, .int (nI N), .int fa])), (a1, .inl (k1, 400, .inl (pm_nf9 cn))), (a2, .inl (k2, 8000, .inl fl)), (a3, .inl (k3, 16, .inl rt))] s.heap := hP
  have hl := lv_entry ([.ref r0, .int p0]) (n := 2) (Nat.le_of_ble_eq_true rfl)
  rw [lg_entry_eq]
  generalize (lg_sl ([.ref r0, .int p0]) ++ List.replicate (2 - (lg_sl ([.ref r0, .int p0])).length) Slot.unset).toArray = ls at hl ⊢
  have hl : lv_has ls 2 [(0, .ref r0), (1, .int p0)] := hl
  obtain ⟨H, hH⟩ : ∃ H : Heap, H = s.heap := ⟨_, rfl⟩
  rw [← hH]
  rw [← hH] at hP
  have hS : va_S A s.heap H [] := by rw [hH]; exact va_S.rf
  clear hH
  refine lv_aload_n hx hb dX2_hasFound_0 rfl (lv_at hl 0 rfl) ?_
  refine va_get (D := (dC, dI)) (ci := 2) (v := .ref h0) (C := RX2) (T := TX2) (N := 4) hx hb hts iw_X2 hown hK hP 0 rfl rfl 0 (by decide) (hts _ mf_X2_9) (fun _ h9 => h9) rfl dX2_hasFound_1 ?_
  refine lv_iload_n hx hb dX2_hasFound_4 rfl (lv_at hl 1 rfl) ?_
  have hPc := hP.sub (ws' := [(h0, .inr (0, [.ref a1, .ref a2, .ref a3, .int (nI N), .int fa])), (a1, .inl (k1, 400, .inl (pm_nf9 cn))), (a2, .inl (k2, 8000, .inl fl)), (a3, .inl (k3, 16, .inl rt))]) [3, 4, 5, 6] rfl
  have hDc := hD.sub (ws' := [(h0, .inr (0, [.ref a1, .ref a2, .ref a3, .int (nI N), .int fa])), (a1, .inl (k1, 400, .inl (pm_nf9 cn))), (a2, .inl (k2, 8000, .inl fl)), (a3, .inl (k3, 16, .inl rt))]) [3, 4, 5, 6] (by decide) rfl
  have hKc := hK.sub (tys' := [(k1, .int), (k2, .int), (k3, .int)]) [2, 3, 4] rfl
  have hFc := va_free (wc := [(h0, .inr (0, [.ref a1, .ref a2, .ref a3, .int (nI N), .int fa])), (a1, .inl (k1, 400, .inl (pm_nf9 cn))), (a2, .inl (k2, 8000, .inl fl)), (a3, .inl (k3, 16, .inl rt))]) hD hS hA [3, 4, 5, 6] rfl
  refine va_calli (va_runV (As := [.int p0]) (rest := []) ⟨hx, hb, hml, hown, hts⟩ (c_H_has l dC dI h0 a1 a2 a3 k1 k2 k3 N cn fl rt fa p0 H.size) (cwV 1 hts (gw_V ml_X2_40 mi_X0_has ms_X0_has mn_X0 mc_X0_has) rfl rfl rfl (by decide +kernel) ⟨Nat.le_of_ble_eq_true rfl, Nat.le_of_ble_eq_true rfl⟩) ⟨fun a U g mk q => by obtain ⟨q0, q1, qP, qK, qD⟩ := q; exact ⟨q0, q1, qP, va_K.moved (u := U) (U := U.calling g mk a) (Vm.Alike.refl U.vm) qK, qD⟩, va_recv hKc hPc (ci := 0) (q0 := 0) rfl rfl, fun U hU hW => ⟨rfl, by rw [hU], by rw [hU]; exact hPc, va_K.moved hW.alike hKc, hDc.weaken (fun _ _ _ _ => trivial)⟩⟩ rfl rfl hl.1 rfl (lv_room (Nat.le_of_ble_eq_true rfl)) dX2_hasFound_5 ⟨Nat.le_of_ble_eq_true rfl, Nat.le_of_ble_eq_true rfl⟩) hS (fun q _ h => hFc q h) hFc (fun r_1 u t H1 locs ht hvm hw hB hz1 hk1 hS => ?_)
  obtain ⟨hP1, hK1, hD1⟩ := hB
  rw [ht] at hP1
  have hK1 := va_K.moved hvm.symm hK1
  obtain ⟨hP, hD⟩ := va_join (wr := [(r0, .inr (2, [.ref h0, .ref d1, .ref d2, .int (nI fc)])), (d1, .inl (e1, 400, .inl fd)), (d2, .inl (e2, 400, .inl od))]) (w1 := [(h0, .inr (0, [.ref a1, .ref a2, .ref a3, .int (nI N), .int fa])), (a1, .inl (k1, 400, .inl (pm_nf9 cn))), (a2, .inl (k2, 8000, .inl fl)), (a3, .inl (k3, 16, .inl rt))]) hP hD [3, 4, 5, 6] [0, 1, 2] rfl rfl (by decide) (by decide) hk1 hFc hP1 hD1
  clear hPc hDc hKc hFc hP1 hK1 hD1
  generalize H1 = H at hP hS ⊢
  have hP : va_P (dC, dI) vwCl [(r0, .inr (2, [.ref h0, .ref d1, .ref d2, .int (nI fc)])), (d1, .inl (e1, 400, .inl fd)), (d2, .inl (e2, 400, .inl od)), (h0, .inr (0, [.ref a1, .ref a2, .ref a3, .int (nI N), .int fa])), (a1, .inl (k1, 400, .inl (pm_nf9 cn))), (a2, .inl (k2, 8000, .inl fl)), (a3, .inl (k3, 16, .inl rt))] H := hP.sub [0, 1, 2, 3, 4, 5, 6] rfl
  have hD : va_D A [(r0, .inr (2, [.ref h0, .ref d1, .ref d2, .int (nI fc)])), (d1, .inl (e1, 400, .inl fd)), (d2, .inl (e2, 400, .inl od)), (h0, .inr (0, [.ref a1, .ref a2, .ref a3, .int (nI N), .int fa])), (a1, .inl (k1, 400, .inl (pm_nf9 cn))), (a2, .inl (k2, 8000, .inl fl)), (a3, .inl (k3, 16, .inl rt))] := hD.sub [0, 1, 2, 3, 4, 5, 6] (by decide) rfl
  rcases pm_tf (pm_has N p0) with hh_5 | hh_5
  · obtain rfl : r_1 = nI 1 := hw.trans (by rw [hh_5]; rfl)
    refine lv_if_eq (tgt := 24) hx hb dX2_hasFound_8 (by decide) (fun c_8 => absurd c_8 (by decide +kernel)) (fun c_8 => ?_)
    refine lv_aload_n hx hb dX2_hasFound_11 rfl (lv_at hl 0 rfl) ?_
    refine va_get (D := (dC, dI)) (ci := 2) (v := .ref d1) (C := RX2) (T := TX2) (N := 4) hx hb hts iw_X2 hown hK hP 0 rfl rfl 1 (by decide) (hts _ mf_X2_15) (fun _ h9 => h9) rfl dX2_hasFound_12 ?_
    refine lv_iload_n hx hb dX2_hasFound_15 rfl (lv_at hl 1 rfl) ?_
    refine va_zald hx hb hK hP 1 0 rfl rfl (pm_has_in hN (by omega) hh_5) dX2_hasFound_16 ?_
    refine lv_topi (fun x_2 ex_2 => ?_)
    subst ex_2
    refine lv_if_eq (tgt := 24) hx hb dX2_hasFound_17 (by decide) (fun c_17 => ?_) (fun c_17 => ?_)
    · refine lv_iconst (v := nI 0) hx hb dX2_hasFound_24 (by decide +kernel) ?_
      exact W.zret (v := nI 0) hx hb hr (by decide +kernel) (fun t ht hW => ⟨⟨nI 0, (), rfl, pm_hm2 hh_5 c_17, by rw [ht]; exact hP, va_K.moved hW.alike hK, hD⟩, hS.F ht⟩) hS.2.2 dX2_hasFound_25
    · refine lv_iconst (v := nI 1) hx hb dX2_hasFound_20 (by decide +kernel) ?_
      refine lv_goto (tgt := 25) hx hb dX2_hasFound_21 (by decide) ?_
      exact W.zret (v := nI 1) hx hb hr (by decide +kernel) (fun t ht hW => ⟨⟨nI 1, (), rfl, pm_hm3 hh_5 c_17, by rw [ht]; exact hP, va_K.moved hW.alike hK, hD⟩, hS.F ht⟩) hS.2.2 dX2_hasFound_25
  · obtain rfl : r_1 = nI 0 := hw.trans (by rw [hh_5]; rfl)
    refine lv_if_eq (tgt := 24) hx hb dX2_hasFound_8 (by decide) (fun c_8 => ?_) (fun c_8 => absurd c_8 (by decide +kernel))
    refine lv_iconst (v := nI 0) hx hb dX2_hasFound_24 (by decide +kernel) ?_
    exact W.zret (v := nI 0) hx hb hr (by decide +kernel) (fun t ht hW => ⟨⟨nI 0, (), rfl, pm_hm1 hh_5, by rw [ht]; exact hP, va_K.moved hW.alike hK, hD⟩, hS.F ht⟩) hS.2.2 dX2_hasFound_25

set_option maxHeartbeats 4000000 in
set_option maxRecDepth 100000 in
/-- Reach.countOfFound() -/
theorem c_R_countOfFound (l : Launch) (dC : Nat → ClassId) (dI : Nat → Nat → Nat) (r0 d1 d2 : Nat) (e1 e2 : ClassId) (fd od : Nat → Int32) (fc : Nat) (h0 a1 a2 a3 : Nat) (k1 k2 k3 : ClassId) (N : Nat) (cn : Nat → Nat) (fl rt : Nat → Int32) (fa : Int32) (sz : Nat)  : Met l yX2_countOfFound wsX2_countOfFound ({ frames := 0, cells := 0, slots := 0, locals := 0 }) (va_Pc [.ref r0] (fun U => U.heap.size = sz ∧ va_P (dC, dI) vwCl [(r0, .inr (2, [.ref h0, .ref d1, .ref d2, .int (nI fc)])), (d1, .inl (e1, 400, .inl fd)), (d2, .inl (e2, 400, .inl od)), (h0, .inr (0, [.ref a1, .ref a2, .ref a3, .int (nI N), .int fa])), (a1, .inl (k1, 400, .inl (pm_nf9 cn))), (a2, .inl (k2, 8000, .inl fl)), (a3, .inl (k3, 16, .inl rt))] U.heap ∧ va_K (dC, dI) vwCl [(e1, .boolean), (e2, .int), (k1, .int), (k2, .int), (k3, .int)] U ∧ va_D (fun _ => True) [(r0, .inr (2, [.ref h0, .ref d1, .ref d2, .int (nI fc)])), (d1, .inl (e1, 400, .inl fd)), (d2, .inl (e2, 400, .inl od)), (h0, .inr (0, [.ref a1, .ref a2, .ref a3, .int (nI N), .int fa])), (a1, .inl (k1, 400, .inl (pm_nf9 cn))), (a2, .inl (k2, 8000, .inl fl)), (a3, .inl (k3, 16, .inl rt))])) (va_Qi (fun (r : Int32) (_ : Unit) => r = nI fc) (fun (_ : Unit) (t : State) => va_P (dC, dI) vwCl [(r0, .inr (2, [.ref h0, .ref d1, .ref d2, .int (nI fc)])), (d1, .inl (e1, 400, .inl fd)), (d2, .inl (e2, 400, .inl od)), (h0, .inr (0, [.ref a1, .ref a2, .ref a3, .int (nI N), .int fa])), (a1, .inl (k1, 400, .inl (pm_nf9 cn))), (a2, .inl (k2, 8000, .inl fl)), (a3, .inl (k3, 16, .inl rt))] t.heap ∧ va_K (dC, dI) vwCl [(e1, .boolean), (e2, .int), (k1, .int), (k2, .int), (k3, .int)] t ∧ va_D (va_A [(r0, .inr (2, [.ref h0, .ref d1, .ref d2, .int (nI fc)])), (d1, .inl (e1, 400, .inl fd)), (d2, .inl (e2, 400, .inl od)), (h0, .inr (0, [.ref a1, .ref a2, .ref a3, .int (nI N), .int fa])), (a1, .inl (k1, 400, .inl (pm_nf9 cn))), (a2, .inl (k2, 8000, .inl fl)), (a3, .inl (k3, 16, .inl rt))] sz) [(r0, .inr (2, [.ref h0, .ref d1, .ref d2, .int (nI fc)])), (d1, .inl (e1, 400, .inl fd)), (d2, .inl (e2, 400, .inl od)), (h0, .inr (0, [.ref a1, .ref a2, .ref a3, .int (nI N), .int fa])), (a1, .inl (k1, 400, .inl (pm_nf9 cn))), (a2, .inl (k2, 8000, .inl fl)), (a3, .inl (k3, 16, .inl rt))]) (va_A [(r0, .inr (2, [.ref h0, .ref d1, .ref d2, .int (nI fc)])), (d1, .inl (e1, 400, .inl fd)), (d2, .inl (e2, 400, .inl od)), (h0, .inr (0, [.ref a1, .ref a2, .ref a3, .int (nI N), .int fa])), (a1, .inl (k1, 400, .inl (pm_nf9 cn))), (a2, .inl (k2, 8000, .inl fl)), (a3, .inl (k3, 16, .inl rt))] sz)) 0 0 (va_A [(r0, .inr (2, [.ref h0, .ref d1, .ref d2, .int (nI fc)])), (d1, .inl (e1, 400, .inl fd)), (d2, .inl (e2, 400, .inl od)), (h0, .inr (0, [.ref a1, .ref a2, .ref a3, .int (nI N), .int fa])), (a1, .inl (k1, 400, .inl (pm_nf9 cn))), (a2, .inl (k2, 8000, .inl fl)), (a3, .inl (k3, 16, .inl rt))] sz) := by
  refine Met.ofW (cc := cX2_countOfFound) (maxL := 1) (ret := (some .int)) (by decide) rfl ?_
  intro p e s m args below meth c s₁ B hml hv
  obtain ⟨rfl, hsz, hP, hK, hD0⟩ := hv
  have hx := B.exec
  have hb := B.bytes
  have hr := B.returns
  have hts : ∀ w ∈ gw, w.before _ s = true := fun w h => atoms_spec (ws := wsX2_countOfFound) B.pre w (List.mem_cons_of_mem _ h)
  have hown : s.vm.findClass RX2 = some m.cls := findClass_of_methodNamed B.named
  have hlocks := B.notSynchronized
  subst hsz
  have hD := hD0.self (sz := s.heap.size)
  generalize hAe : va_A [(r0, .inr (2, [.ref h0, .ref d1, .ref d2, .int (nI fc)])), (d1, .inl (e1, 400, .inl fd)), (d2, .inl (e2, 400, .inl od)), (h0, .inr (0, [.ref a1, .ref a2, .ref a3, .int (nI N), .int fa])), (a1, .inl (k1, 400, .inl (pm_nf9 cn))), (a2, .inl (k2, 8000, .inl fl)), (a3, .inl (k3, 16, .inl rt))] s.heap.size = A at hD ⊢
  have hA : ∀ q : Nat, s.heap.size ≤ q → A q := fun q h => by rw [← hAe]; exact Or.inr h
  have hP : va_P (dC, dI) vwCl [(r0, .inr (2, [.ref h0, .ref d1, .ref d2, .int (nI fc)])), (d1, .inl (e1, 400, .inl fd)), (d2, .inl (e2, 400, .inl od)), (h0, .inr (0, [.ref a1, .ref a2, .ref a3, .int (nI N), .int fa])), (a1, .inl (k1, 400, .inl (pm_nf9 cn))), (a2, .inl (k2, 8000, .inl fl)), (a3, .inl (k3, 16, .inl rt))] s.heap := hP
  have hl := lv_entry ([.ref r0]) (n := 1) (Nat.le_of_ble_eq_true rfl)
  rw [lg_entry_eq]
  generalize (lg_sl ([.ref r0]) ++ List.replicate (1 - (lg_sl ([.ref r0])).length) Slot.unset).toArray = ls at hl ⊢
  have hl : lv_has ls 1 [(0, .ref r0)] := hl
  obtain ⟨H, hH⟩ : ∃ H : Heap, H = s.heap := ⟨_, rfl⟩
  rw [← hH]
  rw [← hH] at hP
  have hS : va_S A s.heap H [] := by rw [hH]; exact va_S.rf
  clear hH
  refine lv_aload_n hx hb dX2_countOfFound_0 rfl (lv_at hl 0 rfl) ?_
  refine va_get (D := (dC, dI)) (ci := 2) (v := .int (nI fc)) (C := RX2) (T := TX2) (N := 4) hx hb hts iw_X2 hown hK hP 0 rfl rfl 3 (by decide) (hts _ mf_X2_23) (fun _ h9 => h9) rfl dX2_countOfFound_1 ?_
  exact W.iret (v := nI fc) hx hb hr (fun t ht hW => ⟨⟨nI fc, (), rfl, rfl, by rw [ht]; exact hP, va_K.moved hW.alike hK, hD⟩, hS.F ht⟩) hS.2.2 dX2_countOfFound_4
end
section
set_option maxHeartbeats 4000000 in
set_option maxRecDepth 100000 in
/-- Heap() -/
theorem c_H_init (l : Launch) (dC : Nat → ClassId) (dI : Nat → Nat → Nat) (h0 : Nat) (sz : Nat)  : Met l yX0_init wsX0_init ({ frames := 1, cells := 3, slots := 8416, locals := 12 }) (va_Pc [.ref h0] (fun U => U.heap.size = sz ∧ va_P (dC, dI) vwCl [(h0, .inr (0, [.null, .null, .null, .int 0, .int 0]))] U.heap ∧ va_K (dC, dI) vwCl [] U ∧ va_D (fun _ => True) [(h0, .inr (0, [.null, .null, .null, .int 0, .int 0]))])) (va_Qv (fun (_ : Unit) => True) (fun (_ : Unit) (t : State) => ∃ (a1 a2 a3 : Nat) (k1 k2 k3 : ClassId), va_P (dC, dI) vwCl [(h0, .inr (0, [.ref a1, .ref a2, .ref a3, .int (nI 0), .int (nI 0)])), (a1, .inl (k1, 400, .inl (pm_nf9 ((fun _ => 0))))), (a2, .inl (k2, 8000, .inl ((fun _ => 0)))), (a3, .inl (k3, 16, .inl (pm_fill (fun _ => 0) 0 16)))] t.heap ∧ va_K (dC, dI) vwCl [(k1, .int), (k2, .int), (k3, .int)] t ∧ va_D (va_A [(h0, .inr (0, [.null, .null, .null, .int 0, .int 0]))] sz) [(h0, .inr (0, [.ref a1, .ref a2, .ref a3, .int (nI 0), .int (nI 0)])), (a1, .inl (k1, 400, .inl (pm_nf9 ((fun _ => 0))))), (a2, .inl (k2, 8000, .inl ((fun _ => 0)))), (a3, .inl (k3, 16, .inl (pm_fill (fun _ => 0) 0 16)))]) (va_A [(h0, .inr (0, [.null, .null, .null, .int 0, .int 0]))] sz)) 3 8416 (va_A [(h0, .inr (0, [.null, .null, .null, .int 0, .int 0]))] sz) := by
  refine Met.ofW (cc := cX0_init) (maxL := 2) (ret := (none)) (by decide) rfl ?_
  intro p e s m args below meth c s₁ B hml hv
  obtain ⟨rfl, hsz, hP, hK, hD0⟩ := hv
  have hx := B.exec
  have hb := B.bytes
  have hr := B.returns
  have hts : ∀ w ∈ gw, w.before _ s = true := fun w h => atoms_spec (ws := wsX0_init) B.pre w (List.mem_cons_of_mem _ h)
  have hown : s.vm.findClass RX0 = some m.cls := findClass_of_methodNamed B.named
  have hlocks := B.notSynchronized
  have hin : meth.name = "<init>" := (name_of_methodNamed B.named B.method).1
  subst hsz
  have hD := hD0.self (sz := s.heap.size)
  generalize hAe : va_A [(h0, .inr (0, [.null, .null, .null, .int 0, .int 0]))] s.heap.size = A at hD ⊢
  have hA : ∀ q : Nat, s.heap.size ≤ q → A q := fun q h => by rw [← hAe]; exact Or.inr h
  have hP : va_P (dC, dI) vwCl [(h0, .inr (0, [.null, .null, .null, .int 0, .int 0]))] s.heap := hP
  have hl := lv_entry ([.ref h0]) (n := 2) (Nat.le_of_ble_eq_true rfl)
  rw [lg_entry_eq]
  generalize (lg_sl ([.ref h0]) ++ List.replicate (2 - (lg_sl ([.ref h0])).length) Slot.unset).toArray = ls at hl ⊢
  have hl : lv_has ls 2 [(0, .ref h0)] := hl
  obtain ⟨H, hH⟩ : ∃ H : Heap, H = s.heap := ⟨_, rfl⟩
  rw [← hH]
  rw [← hH] at hP
  have hS : va_S A s.heap H [] := by rw [hH]; exact va_S.rf
  clear hH
  refine lv_aload_n hx hb dX0_init_0 rfl (lv_at hl 0 rfl) ?_
  refine W.objInit hx hb hown (hts _ ml_X0_3) (hts _ mi_obj) (hts _ mc_obj) rfl (by rw [hml]; exact hl.1) rfl dX0_init_1 (Nat.le_of_ble_eq_true rfl) (Nat.le_of_ble_eq_true rfl) ?_
  refine W.eq (g2 := F0 m 4 ls []) rfl ?_
  refine lv_aload_n hx hb dX0_init_4 rfl (lv_at hl 0 rfl) ?_
  refine lv_sipush (v := nI 400) hx hb dX0_init_5 (by decide +kernel) ?_
  refine va_newa (atype := .int) (ty := .int) (N' := 400) (a0 := (400, .inl (pm_nf9 (fun _ => 0)))) hx hb (hts _ ma_int) rfl hK hP hD hS hA (fun _ => rfl) (nI_pos (by decide)) (nI_clamp (by decide)) (by decide) (Nat.le_of_ble_eq_true rfl) (Nat.le_of_ble_eq_true rfl) dX0_init_8 (fun a1 k1 H hK hP hD hS => ?_)
  have hP : va_P (dC, dI) vwCl [(h0, .inr (0, [.null, .null, .null, .int 0, .int 0])), (a1, .inl (k1, 400, .inl (pm_nf9 (fun _ => 0))))] H := hP
  have hD : va_D A [(h0, .inr (0, [.null, .null, .null, .int 0, .int 0])), (a1, .inl (k1, 400, .inl (pm_nf9 (fun _ => 0))))] := hD
  have hK : va_K (dC, dI) vwCl [(k1, .int)] s := hK
  refine W.widen (k := 1) (n := 400) (by omega) (by omega) ?_
  refine va_putF (D := (dC, dI)) (ci := 0) (v := .ref a1) (ty := .array .int) (C := RX0) (T := TX0) (N := 5) hx hb hts iw_X0 tyX0 tyX0_ok nmX0 hown hK hP hD hS 0 rfl rfl 0 (by decide) (hts _ mf_X0_9) (fun _ h9 => h9) rfl hin rfl (by decide +kernel) (rfl) (rfl) (Nat.le_of_ble_eq_true rfl) dX0_init_10 (fun H locs hP hD hS => ?_)
  have hP : va_P (dC, dI) vwCl [(h0, .inr (0, [.ref a1, .null, .null, .int 0, .int 0])), (a1, .inl (k1, 400, .inl (pm_nf9 (fun _ => 0))))] H := hP
  have hD : va_D A [(h0, .inr (0, [.ref a1, .null, .null, .int 0, .int 0])), (a1, .inl (k1, 400, .inl (pm_nf9 (fun _ => 0))))] := hD
  refine lv_aload_n hx hb dX0_init_13 rfl (lv_at hl 0 rfl) ?_
  refine lv_sipush (v := nI 8000) hx hb dX0_init_14 (by decide +kernel) ?_
  refine va_newa (atype := .int) (ty := .int) (N' := 8000) (a0 := (8000, .inl (fun _ => 0))) hx hb (hts _ ma_int) rfl hK hP hD hS hA (fun _ => rfl) (nI_pos (by decide)) (nI_clamp (by decide)) (by decide) (Nat.le_of_ble_eq_true rfl) (Nat.le_of_ble_eq_true rfl) dX0_init_17 (fun a2 k2 H hK hP hD hS => ?_)
  have hP : va_P (dC, dI) vwCl [(h0, .inr (0, [.ref a1, .null, .null, .int 0, .int 0])), (a1, .inl (k1, 400, .inl (pm_nf9 (fun _ => 0)))), (a2, .inl (k2, 8000, .inl (fun _ => 0)))] H := hP
  have hD : va_D A [(h0, .inr (0, [.ref a1, .null, .null, .int 0, .int 0])), (a1, .inl (k1, 400, .inl (pm_nf9 (fun _ => 0)))), (a2, .inl (k2, 8000, .inl (fun _ => 0)))] := hD
  have hK : va_K (dC, dI) vwCl [(k1, .int), (k2, .int)] s := hK
  refine W.widen (k := 2) (n := 8400) (by omega) (by omega) ?_
  refine va_putF (D := (dC, dI)) (ci := 0) (v := .ref a2) (ty := .array .int) (C := RX0) (T := TX0) (N := 5) hx hb hts iw_X0 tyX0 tyX0_ok nmX0 hown hK hP hD hS 0 rfl rfl 1 (by decide) (hts _ mf_X0_15) (fun _ h9 => h9) rfl hin rfl (by decide +kernel) (rfl) (rfl) (Nat.le_of_ble_eq_true rfl) dX0_init_19 (fun H locs hP hD hS => ?_)
  have hP : va_P (dC, dI) vwCl [(h0, .inr (0, [.ref a1, .ref a2, .null, .int 0, .int 0])), (a1, .inl (k1, 400, .inl (pm_nf9 (fun _ => 0)))), (a2, .inl (k2, 8000, .inl (fun _ => 0)))] H := hP
  have hD : va_D A [(h0, .inr (0, [.ref a1, .ref a2, .null, .int 0, .int 0])), (a1, .inl (k1, 400, .inl (pm_nf9 (fun _ => 0)))), (a2, .inl (k2, 8000, .inl (fun _ => 0)))] := hD
  refine lv_aload_n hx hb dX0_init_22 rfl (lv_at hl 0 rfl) ?_
  refine lv_bipush (v := nI 16) hx hb dX0_init_23 (by decide +kernel) ?_
  refine va_newa (atype := .int) (ty := .int) (N' := 16) (a0 := (16, .inl (fun _ => 0))) hx hb (hts _ ma_int) rfl hK hP hD hS hA (fun _ => rfl) (nI_pos (by decide)) (nI_clamp (by decide)) (by decide) (Nat.le_of_ble_eq_true rfl) (Nat.le_of_ble_eq_true rfl) dX0_init_25 (fun a3 k3 H hK hP hD hS => ?_)
  have hP : va_P (dC, dI) vwCl [(h0, .inr (0, [.ref a1, .ref a2, .null, .int 0, .int 0])), (a1, .inl (k1, 400, .inl (pm_nf9 (fun _ => 0)))), (a2, .inl (k2, 8000, .inl (fun _ => 0))), (a3, .inl (k3, 16, .inl (fun _ => 0)))] H := hP
  have hD : va_D A [(h0, .inr (0, [.ref a1, .ref a2, .null, .int 0, .int 0])), (a1, .inl (k1, 400, .inl (pm_nf9 (fun _ => 0)))), (a2, .inl (k2, 8000, .inl (fun _ => 0))), (a3, .inl (k3, 16, .inl (fun _ => 0)))] := hD
  have hK : va_K (dC, dI) vwCl [(k1, .int), (k2, .int), (k3, .int)] s := hK
  refine W.widen (k := 3) (n := 8416) (by omega) (by omega) ?_
  refine va_putF (D := (dC, dI)) (ci := 0) (v := .ref a3) (ty := .array .int) (C := RX0) (T := TX0) (N := 5) hx hb hts iw_X0 tyX0 tyX0_ok nmX0 hown hK hP hD hS 0 rfl rfl 2 (by decide) (hts _ mf_X0_18) (fun _ h9 => h9) rfl hin rfl (by decide +kernel) (rfl) (rfl) (Nat.le_of_ble_eq_true rfl) dX0_init_27 (fun H locs hP hD hS => ?_)
  have hP : va_P (dC, dI) vwCl [(h0, .inr (0, [.ref a1, .ref a2, .ref a3, .int 0, .int 0])), (a1, .inl (k1, 400, .inl (pm_nf9 (fun _ => 0)))), (a2, .inl (k2, 8000, .inl (fun _ => 0))), (a3, .inl (k3, 16, .inl (fun _ => 0)))] H := hP
  have hD : va_D A [(h0, .inr (0, [.ref a1, .ref a2, .ref a3, .int 0, .int 0])), (a1, .inl (k1, 400, .inl (pm_nf9 (fun _ => 0)))), (a2, .inl (k2, 8000, .inl (fun _ => 0))), (a3, .inl (k3, 16, .inl (fun _ => 0)))] := hD
  refine lv_aload_n hx hb dX0_init_30 rfl (lv_at hl 0 rfl) ?_
  refine lv_iconst (v := nI 0) hx hb dX0_init_31 (by decide +kernel) ?_
  refine va_put (D := (dC, dI)) (ci := 0) (v := .int (nI 0)) (ty := .int) (C := RX0) (T := TX0) (N := 5) hx hb hts iw_X0 tyX0 tyX0_ok nmX0 hown hK hP hD hS 0 rfl rfl 3 (by decide) (hts _ mf_X0_21) (fun _ h9 => h9) rfl (by decide +kernel) (rfl) (rfl) (Nat.le_of_ble_eq_true rfl) dX0_init_32 (fun H locs hP hD hS => ?_)
  have hP : va_P (dC, dI) vwCl [(h0, .inr (0, [.ref a1, .ref a2, .ref a3, .int (nI 0), .int 0])), (a1, .inl (k1, 400, .inl (pm_nf9 (fun _ => 0)))), (a2, .inl (k2, 8000, .inl (fun _ => 0))), (a3, .inl (k3, 16, .inl (fun _ => 0)))] H := hP
  have hD : va_D A [(h0, .inr (0, [.ref a1, .ref a2, .ref a3, .int (nI 0), .int 0])), (a1, .inl (k1, 400, .inl (pm_nf9 (fun _ => 0)))), (a2, .inl (k2, 8000, .inl (fun _ => 0))), (a3, .inl (k3, 16, .inl (fun _ => 0)))] := hD
  refine lv_aload_n hx hb dX0_init_35 rfl (lv_at hl 0 rfl) ?_
  refine lv_iconst (v := nI 0) hx hb dX0_init_36 (by decide +kernel) ?_
  refine va_put (D := (dC, dI)) (ci := 0) (v := .int (nI 0)) (ty := .int) (C := RX0) (T := TX0) (N := 5) hx hb hts iw_X0 tyX0 tyX0_ok nmX0 hown hK hP hD hS 0 rfl rfl 4 (by decide) (hts _ mf_X0_25) (fun _ h9 => h9) rfl (by decide +kernel) (rfl) (rfl) (Nat.le_of_ble_eq_true rfl) dX0_init_37 (fun H locs hP hD hS => ?_)
  have hP : va_P (dC, dI) vwCl [(h0, .inr (0, [.ref a1, .ref a2, .ref a3, .int (nI 0), .int (nI 0)])), (a1, .inl (k1, 400, .inl (pm_nf9 (fun _ => 0)))), (a2, .inl (k2, 8000, .inl (fun _ => 0))), (a3, .inl (k3, 16, .inl (fun _ => 0)))] H := hP
  have hD : va_D A [(h0, .inr (0, [.ref a1, .ref a2, .ref a3, .int (nI 0), .int (nI 0)])), (a1, .inl (k1, 400, .inl (pm_nf9 (fun _ => 0)))), (a2, .inl (k2, 8000, .inl (fun _ => 0))), (a3, .inl (k3, 16, .inl (fun _ => 0)))] := hD
  refine lv_iconst (v := nI 0) hx hb dX0_init_40 (by decide +kernel) ?_
  refine lv_istore_n (lv' := [(1, .int (nI 0)), (0, .ref h0)]) hx hb dX0_init_41 rfl hl (by decide) rfl (fun ls hl => ?_)
  have hP : va_P (dC, dI) vwCl [(h0, .inr (0, [.ref a1, .ref a2, .ref a3, .int (nI 0), .int (nI 0)])), (a1, .inl (k1, 400, .inl (pm_nf9 ((fun _ => 0))))), (a2, .inl (k2, 8000, .inl (fun _ => 0))), (a3, .inl (k3, 16, .inl (pm_fill (fun _ => 0) 0 0)))] H := by rw [pm_fill_0]; exact hP
  have hD : va_D A [(h0, .inr (0, [.ref a1, .ref a2, .ref a3, .int (nI 0), .int (nI 0)])), (a1, .inl (k1, 400, .inl (pm_nf9 ((fun _ => 0))))), (a2, .inl (k2, 8000, .inl (fun _ => 0))), (a3, .inl (k3, 16, .inl (pm_fill (fun _ => 0) 0 0)))] := by rw [pm_fill_0]; exact hD
  refine lp_loop (σ := Nat) (head := 42) (fun i H locs ls => i ≤ 16 ∧ va_P (dC, dI) vwCl [(h0, .inr (0, [.ref a1, .ref a2, .ref a3, .int (nI 0), .int (nI 0)])), (a1, .inl (k1, 400, .inl (pm_nf9 ((fun _ => 0))))), (a2, .inl (k2, 8000, .inl (fun _ => 0))), (a3, .inl (k3, 16, .inl (pm_fill (fun _ => 0) 0 i)))] H ∧ va_D A [(h0, .inr (0, [.ref a1, .ref a2, .ref a3, .int (nI 0), .int (nI 0)])), (a1, .inl (k1, 400, .inl (pm_nf9 ((fun _ => 0))))), (a2, .inl (k2, 8000, .inl (fun _ => 0))), (a3, .inl (k3, 16, .inl (pm_fill (fun _ => 0) 0 i)))] ∧ va_S A s.heap H locs ∧ lv_has ls 2 [(1, .int (nI i)), (0, .ref h0)]) (fun i => 16 - i) ?_ 0 _ _ _ ⟨Nat.zero_le _, hP, hD, hS, lv_sub hl [0, 1] rfl⟩
  intro x H locs ls hI ih
  obtain ⟨i, rfl⟩ : ∃ y, y = x := ⟨x, rfl⟩
  obtain ⟨hi, hP, hD, hS, hl⟩ := hI
  refine lv_iload_n hx hb dX0_init_42 rfl (lv_at hl 0 rfl) ?_
  refine lv_bipush (v := nI 16) hx hb dX0_init_43 (by decide +kernel) ?_
  refine lv_icmp_ge (tgt := 61) hx hb dX0_init_45 (by decide) (fun c_45 => ?_) (fun c_45 => ?_)
  · rw [nI_leI (by omega) (by omega)] at c_45
    obtain rfl : i = 16 := by omega
    exact W.vret hx hb hr (fun t ht hW => ⟨⟨(), rfl, trivial, a1, a2, a3, k1, k2, k3, by rw [ht]; exact hP, va_K.moved hW.alike hK, hD⟩, hS.F ht⟩) hS.2.2 dX0_init_61
  · rw [nI_leI (by omega) (by omega)] at c_45
    refine lv_aload_n hx hb dX0_init_48 rfl (lv_at hl 1 rfl) ?_
    refine va_get (D := (dC, dI)) (ci := 0) (v := .ref a3) (C := RX0) (T := TX0) (N := 5) hx hb hts iw_X0 hown hK hP 0 rfl rfl 2 (by decide) (hts _ mf_X0_18) (fun _ h9 => h9) rfl dX0_init_49 ?_
    refine lv_iload_n hx hb dX0_init_52 rfl (lv_at hl 0 rfl) ?_
    refine lv_iconst (v := -1) hx hb dX0_init_53 (by decide +kernel) ?_
    refine va_iast hx hb hK hP hD hS 3 2 rfl rfl (vp_in_nI (by omega) (by omega)) dX0_init_54 (fun H locs hP hD hS => ?_)
    rw [nI_clamp (by omega)] at hP hD
    have hP : va_P (dC, dI) vwCl [(h0, .inr (0, [.ref a1, .ref a2, .ref a3, .int (nI 0), .int (nI 0)])), (a1, .inl (k1, 400, .inl (pm_nf9 ((fun _ => 0))))), (a2, .inl (k2, 8000, .inl (fun _ => 0))), (a3, .inl (k3, 16, .inl (upd (pm_fill (fun _ => 0) 0 i) i (-1))))] H := hP
    have hD : va_D A [(h0, .inr (0, [.ref a1, .ref a2, .ref a3, .int (nI 0), .int (nI 0)])), (a1, .inl (k1, 400, .inl (pm_nf9 ((fun _ => 0))))), (a2, .inl (k2, 8000, .inl (fun _ => 0))), (a3, .inl (k3, 16, .inl (upd (pm_fill (fun _ => 0) 0 i) i (-1))))] := hD
    rw [show upd (pm_fill (fun _ => 0) 0 i) i (-1) = pm_fill (fun _ => 0) 0 (i + 1) from by have q := pm_fill_s (fun _ => 0) 0 i; rw [Nat.zero_add] at q; exact q] at hP hD
    refine lv_iinc (v := nI (i + 1)) (lv' := [(1, .int (nI (i + 1))), (0, .ref h0)]) hx hb dX0_init_55 hl (k := 0) rfl (nI_1 _) (by decide) rfl (fun ls hl => ?_)
    refine lv_goto (tgt := 42) hx hb dX0_init_58 (by decide) ?_
    exact ih (i + 1) _ _ _ ⟨by omega, hP, hD, hS, lv_sub hl [0, 1] rfl⟩ (by omega)

set_option maxHeartbeats 4000000 in
set_option maxRecDepth 100000 in
/-- Marker(heap) -/
theorem c_M_init (l : Launch) (dC : Nat → ClassId) (dI : Nat → Nat → Nat) (m0 h0 : Nat) (sz : Nat)  : Met l yX1_init wsX1_init ({ frames := 1, cells := 3, slots := 864, locals := 12 }) (va_Pc [.ref m0, .ref h0] (fun U => U.heap.size = sz ∧ va_P (dC, dI) vwCl [(m0, .inr (1, [.null, .null, .null, .null, .int 0, .int 0, .int 0, .int 0, .int 0]))] U.heap ∧ va_K (dC, dI) vwCl [] U ∧ va_D (fun _ => True) [(m0, .inr (1, [.null, .null, .null, .null, .int 0, .int 0, .int 0, .int 0, .int 0]))])) (va_Qv (fun (_ : Unit) => True) (fun (_ : Unit) (t : State) => ∃ (b1 b2 b3 : Nat) (g1 g2 g3 : ClassId), va_P (dC, dI) vwCl [(m0, .inr (1, [.ref h0, .ref b1, .ref b2, .ref b3, .int (nI 8), .int (nI 0), .int (nI 0), .int (nI 400), .int (nI 400)])), (b1, .inl (g1, 400, .inl (fun _ => 0))), (b2, .inl (g2, 400, .inl (fun _ => 0))), (b3, .inl (g3, 64, .inl (fun _ => 0)))] t.heap ∧ va_K (dC, dI) vwCl [(g1, .boolean), (g2, .boolean), (g3, .int)] t ∧ va_D (va_A [(m0, .inr (1, [.null, .null, .null, .null, .int 0, .int 0, .int 0, .int 0, .int 0]))] sz) [(m0, .inr (1, [.ref h0, .ref b1, .ref b2, .ref b3, .int (nI 8), .int (nI 0), .int (nI 0), .int (nI 400), .int (nI 400)])), (b1, .inl (g1, 400, .inl (fun _ => 0))), (b2, .inl (g2, 400, .inl (fun _ => 0))), (b3, .inl (g3, 64, .inl (fun _ => 0)))]) (va_A [(m0, .inr (1, [.null, .null, .null, .null, .int 0, .int 0, .int 0, .int 0, .int 0]))] sz)) 3 864 (va_A [(m0, .inr (1, [.null, .null, .null, .null, .int 0, .int 0, .int 0, .int 0, .int 0]))] sz) := by
  refine Met.ofW (cc := cX1_init) (maxL := 2) (ret := (none)) (by decide) rfl ?_
  intro p e s m args below meth c s₁ B hml hv
  obtain ⟨rfl, hsz, hP, hK, hD0⟩ := hv
  have hx := B.exec
  have hb := B.bytes
  have hr := B.returns
  have hts : ∀ w ∈ gw, w.before _ s = true := fun w h => atoms_spec (ws := wsX1_init) B.pre w (List.mem_cons_of_mem _ h)
  have hown : s.vm.findClass RX1 = some m.cls := findClass_of_methodNamed B.named
  have hlocks := B.notSynchronized
  have hin : meth.name = "<init>" := (name_of_methodNamed B.named B.method).1
  subst hsz
  have hD := hD0.self (sz := s.heap.size)
  generalize hAe : va_A [(m0, .inr (1, [.null, .null, .null, .null, .int 0, .int 0, .int 0, .int 0, .int 0]))] s.heap.size = A at hD ⊢
  have hA : ∀ q : Nat, s.heap.size ≤ q → A q := fun q h => by rw [← hAe]; exact Or.inr h
  have hP : va_P (dC, dI) vwCl [(m0, .inr (1, [.null, .null, .null, .null, .int 0, .int 0, .int 0, .int 0, .int 0]))] s.heap := hP
  have hl := lv_entry ([.ref m0, .ref h0]) (n := 2) (Nat.le_of_ble_eq_true rfl)
  rw [lg_entry_eq]
  generalize (lg_sl ([.ref m0, .ref h0]) ++ List.replicate (2 - (lg_sl ([.ref m0, .ref h0])).length) Slot.unset).toArray = ls at hl ⊢
  have hl : lv_has ls 2 [(0, .ref m0), (1, .ref h0)] := hl
  obtain ⟨H, hH⟩ : ∃ H : Heap, H = s.heap := ⟨_, rfl⟩
  rw [← hH]
  rw [← hH] at hP
  have hS : va_S A s.heap H [] := by rw [hH]; exact va_S.rf
  clear hH
  refine lv_aload_n hx hb dX1_init_0 rfl (lv_at hl 0 rfl) ?_
  refine W.objInit hx hb hown (hts _ ml_X1_3) (hts _ mi_obj) (hts _ mc_obj) rfl (by rw [hml]; exact hl.1) rfl dX1_init_1 (Nat.le_of_ble_eq_true rfl) (Nat.le_of_ble_eq_true rfl) ?_
  refine W.eq (g2 := F0 m 4 ls []) rfl ?_
  refine lv_aload_n hx hb dX1_init_4 rfl (lv_at hl 0 rfl) ?_
  refine lv_aload_n hx hb dX1_init_5 rfl (lv_at hl 1 rfl) ?_
  refine va_putF (D := (dC, dI)) (ci := 1) (v := .ref h0) (ty := .object "PileMarker$Heap") (C := RX1) (T := TX1) (N := 9) hx hb hts iw_X1 tyX1 tyX1_ok nmX1 hown hK hP hD hS 0 rfl rfl 0 (by decide) (hts _ mf_X1_9) (fun _ h9 => h9) rfl hin rfl (by decide +kernel) (rfl) (rfl) (Nat.le_of_ble_eq_true rfl) dX1_init_6 (fun H locs hP hD hS => ?_)
  have hP : va_P (dC, dI) vwCl [(m0, .inr (1, [.ref h0, .null, .null, .null, .int 0, .int 0, .int 0, .int 0, .int 0]))] H := hP
  have hD : va_D A [(m0, .inr (1, [.ref h0, .null, .null, .null, .int 0, .int 0, .int 0, .int 0, .int 0]))] := hD
  refine lv_aload_n hx hb dX1_init_9 rfl (lv_at hl 0 rfl) ?_
  refine lv_sipush (v := nI 400) hx hb dX1_init_10 (by decide +kernel) ?_
  refine va_newa (atype := .boolean) (ty := .boolean) (N' := 400) (a0 := (400, .inl (fun _ => 0))) hx hb (hts _ ma_boolean) rfl hK hP hD hS hA (fun _ => rfl) (nI_pos (by decide)) (nI_clamp (by decide)) (by decide) (Nat.le_of_ble_eq_true rfl) (Nat.le_of_ble_eq_true rfl) dX1_init_13 (fun b1 g1 H hK hP hD hS => ?_)
  have hP : va_P (dC, dI) vwCl [(m0, .inr (1, [.ref h0, .null, .null, .null, .int 0, .int 0, .int 0, .int 0, .int 0])), (b1, .inl (g1, 400, .inl (fun _ => 0)))] H := hP
  have hD : va_D A [(m0, .inr (1, [.ref h0, .null, .null, .null, .int 0, .int 0, .int 0, .int 0, .int 0])), (b1, .inl (g1, 400, .inl (fun _ => 0)))] := hD
  have hK : va_K (dC, dI) vwCl [(g1, .boolean)] s := hK
  refine W.widen (k := 1) (n := 400) (by omega) (by omega) ?_
  refine va_putF (D := (dC, dI)) (ci := 1) (v := .ref b1) (ty := .array .boolean) (C := RX1) (T := TX1) (N := 9) hx hb hts iw_X1 tyX1 tyX1_ok nmX1 hown hK hP hD hS 0 rfl rfl 1 (by decide) (hts _ mf_X1_15) (fun _ h9 => h9) rfl hin rfl (by decide +kernel) (rfl) (rfl) (Nat.le_of_ble_eq_true rfl) dX1_init_15 (fun H locs hP hD hS => ?_)
  have hP : va_P (dC, dI) vwCl [(m0, .inr (1, [.ref h0, .ref b1, .null, .null, .int 0, .int 0, .int 0, .int 0, .int 0])), (b1, .inl (g1, 400, .inl (fun _ => 0)))] H := hP
  have hD : va_D A [(m0, .inr (1, [.ref h0, .ref b1, .null, .null, .int 0, .int 0, .int 0, .int 0, .int 0])), (b1, .inl (g1, 400, .inl (fun _ => 0)))] := hD
  refine lv_aload_n hx hb dX1_init_18 rfl (lv_at hl 0 rfl) ?_
  refine lv_sipush (v := nI 400) hx hb dX1_init_19 (by decide +kernel) ?_
  refine va_newa (atype := .boolean) (ty := .boolean) (N' := 400) (a0 := (400, .inl (fun _ => 0))) hx hb (hts _ ma_boolean) rfl hK hP hD hS hA (fun _ => rfl) (nI_pos (by decide)) (nI_clamp (by decide)) (by decide) (Nat.le_of_ble_eq_true rfl) (Nat.le_of_ble_eq_true rfl) dX1_init_22 (fun b2 g2 H hK hP hD hS => ?_)
  have hP : va_P (dC, dI) vwCl [(m0, .inr (1, [.ref h0, .ref b1, .null, .null, .int 0, .int 0, .int 0, .int 0, .int 0])), (b1, .inl (g1, 400, .inl (fun _ => 0))), (b2, .inl (g2, 400, .inl (fun _ => 0)))] H := hP
  have hD : va_D A [(m0, .inr (1, [.ref h0, .ref b1, .null, .null, .int 0, .int 0, .int 0, .int 0, .int 0])), (b1, .inl (g1, 400, .inl (fun _ => 0))), (b2, .inl (g2, 400, .inl (fun _ => 0)))] := hD
  have hK : va_K (dC, dI) vwCl [(g1, .boolean), (g2, .boolean)] s := hK
  refine W.widen (k := 2) (n := 800) (by omega) (by omega) ?_
  refine va_putF (D := (dC, dI)) (ci := 1) (v := .ref b2) (ty := .array .boolean) (C := RX1) (T := TX1) (N := 9) hx hb hts iw_X1 tyX1 tyX1_ok nmX1 hown hK hP hD hS 0 rfl rfl 2 (by decide) (hts _ mf_X1_19) (fun _ h9 => h9) rfl hin rfl (by decide +kernel) (rfl) (rfl) (Nat.le_of_ble_eq_true rfl) dX1_init_24 (fun H locs hP hD hS => ?_)
  have hP : va_P (dC, dI) vwCl [(m0, .inr (1, [.ref h0, .ref b1, .ref b2, .null, .int 0, .int 0, .int 0, .int 0, .int 0])), (b1, .inl (g1, 400, .inl (fun _ => 0))), (b2, .inl (g2, 400, .inl (fun _ => 0)))] H := hP
  have hD : va_D A [(m0, .inr (1, [.ref h0, .ref b1, .ref b2, .null, .int 0, .int 0, .int 0, .int 0, .int 0])), (b1, .inl (g1, 400, .inl (fun _ => 0))), (b2, .inl (g2, 400, .inl (fun _ => 0)))] := hD
  refine lv_aload_n hx hb dX1_init_27 rfl (lv_at hl 0 rfl) ?_
  refine lv_bipush (v := nI 64) hx hb dX1_init_28 (by decide +kernel) ?_
  refine va_newa (atype := .int) (ty := .int) (N' := 64) (a0 := (64, .inl (fun _ => 0))) hx hb (hts _ ma_int) rfl hK hP hD hS hA (fun _ => rfl) (nI_pos (by decide)) (nI_clamp (by decide)) (by decide) (Nat.le_of_ble_eq_true rfl) (Nat.le_of_ble_eq_true rfl) dX1_init_30 (fun b3 g3 H hK hP hD hS => ?_)
  have hP : va_P (dC, dI) vwCl [(m0, .inr (1, [.ref h0, .ref b1, .ref b2, .null, .int 0, .int 0, .int 0, .int 0, .int 0])), (b1, .inl (g1, 400, .inl (fun _ => 0))), (b2, .inl (g2, 400, .inl (fun _ => 0))), (b3, .inl (g3, 64, .inl (fun _ => 0)))] H := hP
  have hD : va_D A [(m0, .inr (1, [.ref h0, .ref b1, .ref b2, .null, .int 0, .int 0, .int 0, .int 0, .int 0])), (b1, .inl (g1, 400, .inl (fun _ => 0))), (b2, .inl (g2, 400, .inl (fun _ => 0))), (b3, .inl (g3, 64, .inl (fun _ => 0)))] := hD
  have hK : va_K (dC, dI) vwCl [(g1, .boolean), (g2, .boolean), (g3, .int)] s := hK
  refine W.widen (k := 3) (n := 864) (by omega) (by omega) ?_
  refine va_putF (D := (dC, dI)) (ci := 1) (v := .ref b3) (ty := .array .int) (C := RX1) (T := TX1) (N := 9) hx hb hts iw_X1 tyX1 tyX1_ok nmX1 hown hK hP hD hS 0 rfl rfl 3 (by decide) (hts _ mf_X1_22) (fun _ h9 => h9) rfl hin rfl (by decide +kernel) (rfl) (rfl) (Nat.le_of_ble_eq_true rfl) dX1_init_32 (fun H locs hP hD hS => ?_)
  have hP : va_P (dC, dI) vwCl [(m0, .inr (1, [.ref h0, .ref b1, .ref b2, .ref b3, .int 0, .int 0, .int 0, .int 0, .int 0])), (b1, .inl (g1, 400, .inl (fun _ => 0))), (b2, .inl (g2, 400, .inl (fun _ => 0))), (b3, .inl (g3, 64, .inl (fun _ => 0)))] H := hP
  have hD : va_D A [(m0, .inr (1, [.ref h0, .ref b1, .ref b2, .ref b3, .int 0, .int 0, .int 0, .int 0, .int 0])), (b1, .inl (g1, 400, .inl (fun _ => 0))), (b2, .inl (g2, 400, .inl (fun _ => 0))), (b3, .inl (g3, 64, .inl (fun _ => 0)))] := hD
  refine lv_aload_n hx hb dX1_init_35 rfl (lv_at hl 0 rfl) ?_
  refine lv_bipush (v := nI 8) hx hb dX1_init_36 (by decide +kernel) ?_
  refine va_put (D := (dC, dI)) (ci := 1) (v := .int (nI 8)) (ty := .int) (C := RX1) (T := TX1) (N := 9) hx hb hts iw_X1 tyX1 tyX1_ok nmX1 hown hK hP hD hS 0 rfl rfl 4 (by decide) (hts _ mf_X1_26) (fun _ h9 => h9) rfl (by decide +kernel) (rfl) (rfl) (Nat.le_of_ble_eq_true rfl) dX1_init_38 (fun H locs hP hD hS => ?_)
  have hP : va_P (dC, dI) vwCl [(m0, .inr (1, [.ref h0, .ref b1, .ref b2, .ref b3, .int (nI 8), .int 0, .int 0, .int 0, .int 0])), (b1, .inl (g1, 400, .inl (fun _ => 0))), (b2, .inl (g2, 400, .inl (fun _ => 0))), (b3, .inl (g3, 64, .inl (fun _ => 0)))] H := hP
  have hD : va_D A [(m0, .inr (1, [.ref h0, .ref b1, .ref b2, .ref b3, .int (nI 8), .int 0, .int 0, .int 0, .int 0])), (b1, .inl (g1, 400, .inl (fun _ => 0))), (b2, .inl (g2, 400, .inl (fun _ => 0))), (b3, .inl (g3, 64, .inl (fun _ => 0)))] := hD
  refine lv_aload_n hx hb dX1_init_41 rfl (lv_at hl 0 rfl) ?_
  refine lv_iconst (v := nI 0) hx hb dX1_init_42 (by decide +kernel) ?_
  refine va_put (D := (dC, dI)) (ci := 1) (v := .int (nI 0)) (ty := .int) (C := RX1) (T := TX1) (N := 9) hx hb hts iw_X1 tyX1 tyX1_ok nmX1 hown hK hP hD hS 0 rfl rfl 5 (by decide) (hts _ mf_X1_30) (fun _ h9 => h9) rfl (by decide +kernel) (rfl) (rfl) (Nat.le_of_ble_eq_true rfl) dX1_init_43 (fun H locs hP hD hS => ?_)
  have hP : va_P (dC, dI) vwCl [(m0, .inr (1, [.ref h0, .ref b1, .ref b2, .ref b3, .int (nI 8), .int (nI 0), .int 0, .int 0, .int 0])), (b1, .inl (g1, 400, .inl (fun _ => 0))), (b2, .inl (g2, 400, .inl (fun _ => 0))), (b3, .inl (g3, 64, .inl (fun _ => 0)))] H := hP
  have hD : va_D A [(m0, .inr (1, [.ref h0, .ref b1, .ref b2, .ref b3, .int (nI 8), .int (nI 0), .int 0, .int 0, .int 0])), (b1, .inl (g1, 400, .inl (fun _ => 0))), (b2, .inl (g2, 400, .inl (fun _ => 0))), (b3, .inl (g3, 64, .inl (fun _ => 0)))] := hD
  refine lv_aload_n hx hb dX1_init_46 rfl (lv_at hl 0 rfl) ?_
  refine lv_iconst (v := nI 0) hx hb dX1_init_47 (by decide +kernel) ?_
  refine va_put (D := (dC, dI)) (ci := 1) (v := .int (nI 0)) (ty := .int) (C := RX1) (T := TX1) (N := 9) hx hb hts iw_X1 tyX1 tyX1_ok nmX1 hown hK hP hD hS 0 rfl rfl 6 (by decide) (hts _ mf_X1_33) (fun _ h9 => h9) rfl (by decide +kernel) (rfl) (rfl) (Nat.le_of_ble_eq_true rfl) dX1_init_48 (fun H locs hP hD hS => ?_)
  have hP : va_P (dC, dI) vwCl [(m0, .inr (1, [.ref h0, .ref b1, .ref b2, .ref b3, .int (nI 8), .int (nI 0), .int (nI 0), .int 0, .int 0])), (b1, .inl (g1, 400, .inl (fun _ => 0))), (b2, .inl (g2, 400, .inl (fun _ => 0))), (b3, .inl (g3, 64, .inl (fun _ => 0)))] H := hP
  have hD : va_D A [(m0, .inr (1, [.ref h0, .ref b1, .ref b2, .ref b3, .int (nI 8), .int (nI 0), .int (nI 0), .int 0, .int 0])), (b1, .inl (g1, 400, .inl (fun _ => 0))), (b2, .inl (g2, 400, .inl (fun _ => 0))), (b3, .inl (g3, 64, .inl (fun _ => 0)))] := hD
  refine lv_aload_n hx hb dX1_init_51 rfl (lv_at hl 0 rfl) ?_
  refine lv_sipush (v := nI 400) hx hb dX1_init_52 (by decide +kernel) ?_
  refine va_put (D := (dC, dI)) (ci := 1) (v := .int (nI 400)) (ty := .int) (C := RX1) (T := TX1) (N := 9) hx hb hts iw_X1 tyX1 tyX1_ok nmX1 hown hK hP hD hS 0 rfl rfl 7 (by decide) (hts _ mf_X1_36) (fun _ h9 => h9) rfl (by decide +kernel) (rfl) (rfl) (Nat.le_of_ble_eq_true rfl) dX1_init_55 (fun H locs hP hD hS => ?_)
  have hP : va_P (dC, dI) vwCl [(m0, .inr (1, [.ref h0, .ref b1, .ref b2, .ref b3, .int (nI 8), .int (nI 0), .int (nI 0), .int (nI 400), .int 0])), (b1, .inl (g1, 400, .inl (fun _ => 0))), (b2, .inl (g2, 400, .inl (fun _ => 0))), (b3, .inl (g3, 64, .inl (fun _ => 0)))] H := hP
  have hD : va_D A [(m0, .inr (1, [.ref h0, .ref b1, .ref b2, .ref b3, .int (nI 8), .int (nI 0), .int (nI 0), .int (nI 400), .int 0])), (b1, .inl (g1, 400, .inl (fun _ => 0))), (b2, .inl (g2, 400, .inl (fun _ => 0))), (b3, .inl (g3, 64, .inl (fun _ => 0)))] := hD
  refine lv_aload_n hx hb dX1_init_58 rfl (lv_at hl 0 rfl) ?_
  refine lv_sipush (v := nI 400) hx hb dX1_init_59 (by decide +kernel) ?_
  refine va_put (D := (dC, dI)) (ci := 1) (v := .int (nI 400)) (ty := .int) (C := RX1) (T := TX1) (N := 9) hx hb hts iw_X1 tyX1 tyX1_ok nmX1 hown hK hP hD hS 0 rfl rfl 8 (by decide) (hts _ mf_X1_39) (fun _ h9 => h9) rfl (by decide +kernel) (rfl) (rfl) (Nat.le_of_ble_eq_true rfl) dX1_init_62 (fun H locs hP hD hS => ?_)
  have hP : va_P (dC, dI) vwCl [(m0, .inr (1, [.ref h0, .ref b1, .ref b2, .ref b3, .int (nI 8), .int (nI 0), .int (nI 0), .int (nI 400), .int (nI 400)])), (b1, .inl (g1, 400, .inl (fun _ => 0))), (b2, .inl (g2, 400, .inl (fun _ => 0))), (b3, .inl (g3, 64, .inl (fun _ => 0)))] H := hP
  have hD : va_D A [(m0, .inr (1, [.ref h0, .ref b1, .ref b2, .ref b3, .int (nI 8), .int (nI 0), .int (nI 0), .int (nI 400), .int (nI 400)])), (b1, .inl (g1, 400, .inl (fun _ => 0))), (b2, .inl (g2, 400, .inl (fun _ => 0))), (b3, .inl (g3, 64, .inl (fun _ => 0)))] := hD
  exact W.vret hx hb hr (fun t ht hW => ⟨⟨(), rfl, trivial, b1, b2, b3, g1, g2, g3, by rw [ht]; exact hP, va_K.moved hW.alike hK, hD⟩, hS.F ht⟩) hS.2.2 dX1_init_65

set_option maxHeartbeats 4000000 in
set_option maxRecDepth 100000 in
/-- Reach(heap) -/
theorem c_R_init (l : Launch) (dC : Nat → ClassId) (dI : Nat → Nat → Nat) (r0 h0 : Nat) (sz : Nat)  : Met l yX2_init wsX2_init ({ frames := 1, cells := 2, slots := 800, locals := 12 }) (va_Pc [.ref r0, .ref h0] (fun U => U.heap.size = sz ∧ va_P (dC, dI) vwCl [(r0, .inr (2, [.null, .null, .null, .int 0]))] U.heap ∧ va_K (dC, dI) vwCl [] U ∧ va_D (fun _ => True) [(r0, .inr (2, [.null, .null, .null, .int 0]))])) (va_Qv (fun (_ : Unit) => True) (fun (_ : Unit) (t : State) => ∃ (d1 d2 : Nat) (e1 e2 : ClassId), va_P (dC, dI) vwCl [(r0, .inr (2, [.ref h0, .ref d1, .ref d2, .int (nI 0)])), (d1, .inl (e1, 400, .inl (fun _ => 0))), (d2, .inl (e2, 400, .inl (fun _ => 0)))] t.heap ∧ va_K (dC, dI) vwCl [(e1, .boolean), (e2, .int)] t ∧ va_D (va_A [(r0, .inr (2, [.null, .null, .null, .int 0]))] sz) [(r0, .inr (2, [.ref h0, .ref d1, .ref d2, .int (nI 0)])), (d1, .inl (e1, 400, .inl (fun _ => 0))), (d2, .inl (e2, 400, .inl (fun _ => 0)))]) (va_A [(r0, .inr (2, [.null, .null, .null, .int 0]))] sz)) 2 800 (va_A [(r0, .inr (2, [.null, .null, .null, .int 0]))] sz) := by
  refine Met.ofW (cc := cX2_init) (maxL := 2) (ret := (none)) (by decide) rfl ?_
  intro p e s m args below meth c s₁ B hml hv
  obtain ⟨rfl, hsz, hP, hK, hD0⟩ := hv
  have hx := B.exec
  have hb := B.bytes
  have hr := B.returns
  have hts : ∀ w ∈ gw, w.before _ s = true := fun w h => atoms_spec (ws := wsX2_init) B.pre w (List.mem_cons_of_mem _ h)
  have hown : s.vm.findClass RX2 = some m.cls := findClass_of_methodNamed B.named
  have hlocks := B.notSynchronized
  have hin : meth.name = "<init>" := (name_of_methodNamed B.named B.method).1
  subst hsz
  have hD := hD0.self (sz := s.heap.size)
  generalize hAe : va_A [(r0, .inr (2, [.null, .null, .null, .int 0]))] s.heap.size = A at hD ⊢
  have hA : ∀ q : Nat, s.heap.size ≤ q → A q := fun q h => by rw [← hAe]; exact Or.inr h
  have hP : va_P (dC, dI) vwCl [(r0, .inr (2, [.null, .null, .null, .int 0]))] s.heap := hP
  have hl := lv_entry ([.ref r0, .ref h0]) (n := 2) (Nat.le_of_ble_eq_true rfl)
  rw [lg_entry_eq]
  generalize (lg_sl ([.ref r0, .ref h0]) ++ List.replicate (2 - (lg_sl ([.ref r0, .ref h0])).length) Slot.unset).toArray = ls at hl ⊢
  have hl : lv_has ls 2 [(0, .ref r0), (1, .ref h0)] := hl
  obtain ⟨H, hH⟩ : ∃ H : Heap, H = s.heap := ⟨_, rfl⟩
  rw [← hH]
  rw [← hH] at hP
  have hS : va_S A s.heap H [] := by rw [hH]; exact va_S.rf
  clear hH
  refine lv_aload_n hx hb dX2_init_0 rfl (lv_at hl 0 rfl) ?_
  refine W.objInit hx hb hown (hts _ ml_X2_3) (hts _ mi_obj) (hts _ mc_obj) rfl (by rw [hml]; exact hl.1) rfl dX2_init_1 (Nat.le_of_ble_eq_true rfl) (Nat.le_of_ble_eq_true rfl) ?_
  refine W.eq (g2 := F0 m 4 ls []) rfl ?_
  refine lv_aload_n hx hb dX2_init_4 rfl (lv_at hl 0 rfl) ?_
  refine lv_aload_n hx hb dX2_init_5 rfl (lv_at hl 1 rfl) ?_
  refine va_putF (D := (dC, dI)) (ci := 2) (v := .ref h0) (ty := .object "PileMarker$Heap") (C := RX2) (T := TX2) (N := 4) hx hb hts iw_X2 tyX2 tyX2_ok nmX2 hown hK hP hD hS 0 rfl rfl 0 (by decide) (hts _ mf_X2_9) (fun _ h9 => h9) rfl hin rfl (by decide +kernel) (rfl) (rfl) (Nat.le_of_ble_eq_true rfl) dX2_init_6 (fun H locs hP hD hS => ?_)
  have hP : va_P (dC, dI) vwCl [(r0, .inr (2, [.ref h0, .null, .null, .int 0]))] H := hP
  have hD : va_D A [(r0, .inr (2, [.ref h0, .null, .null, .int 0]))] := hD
  refine lv_aload_n hx hb dX2_init_9 rfl (lv_at hl 0 rfl) ?_
  refine lv_sipush (v := nI 400) hx hb dX2_init_10 (by decide +kernel) ?_
  refine va_newa (atype := .boolean) (ty := .boolean) (N' := 400) (a0 := (400, .inl (fun _ => 0))) hx hb (hts _ ma_boolean) rfl hK hP hD hS hA (fun _ => rfl) (nI_pos (by decide)) (nI_clamp (by decide)) (by decide) (Nat.le_of_ble_eq_true rfl) (Nat.le_of_ble_eq_true rfl) dX2_init_13 (fun d1 e1 H hK hP hD hS => ?_)
  have hP : va_P (dC, dI) vwCl [(r0, .inr (2, [.ref h0, .null, .null, .int 0])), (d1, .inl (e1, 400, .inl (fun _ => 0)))] H := hP
  have hD : va_D A [(r0, .inr (2, [.ref h0, .null, .null, .int 0])), (d1, .inl (e1, 400, .inl (fun _ => 0)))] := hD
  have hK : va_K (dC, dI) vwCl [(e1, .boolean)] s := hK
  refine W.widen (k := 1) (n := 400) (by omega) (by omega) ?_
  refine va_putF (D := (dC, dI)) (ci := 2) (v := .ref d1) (ty := .array .boolean) (C := RX2) (T := TX2) (N := 4) hx hb hts iw_X2 tyX2 tyX2_ok nmX2 hown hK hP hD hS 0 rfl rfl 1 (by decide) (hts _ mf_X2_15) (fun _ h9 => h9) rfl hin rfl (by decide +kernel) (rfl) (rfl) (Nat.le_of_ble_eq_true rfl) dX2_init_15 (fun H locs hP hD hS => ?_)
  have hP : va_P (dC, dI) vwCl [(r0, .inr (2, [.ref h0, .ref d1, .null, .int 0])), (d1, .inl (e1, 400, .inl (fun _ => 0)))] H := hP
  have hD : va_D A [(r0, .inr (2, [.ref h0, .ref d1, .null, .int 0])), (d1, .inl (e1, 400, .inl (fun _ => 0)))] := hD
  refine lv_aload_n hx hb dX2_init_18 rfl (lv_at hl 0 rfl) ?_
  refine lv_sipush (v := nI 400) hx hb dX2_init_19 (by decide +kernel) ?_
  refine va_newa (atype := .int) (ty := .int) (N' := 400) (a0 := (400, .inl (fun _ => 0))) hx hb (hts _ ma_int) rfl hK hP hD hS hA (fun _ => rfl) (nI_pos (by decide)) (nI_clamp (by decide)) (by decide) (Nat.le_of_ble_eq_true rfl) (Nat.le_of_ble_eq_true rfl) dX2_init_22 (fun d2 e2 H hK hP hD hS => ?_)
  have hP : va_P (dC, dI) vwCl [(r0, .inr (2, [.ref h0, .ref d1, .null, .int 0])), (d1, .inl (e1, 400, .inl (fun _ => 0))), (d2, .inl (e2, 400, .inl (fun _ => 0)))] H := hP
  have hD : va_D A [(r0, .inr (2, [.ref h0, .ref d1, .null, .int 0])), (d1, .inl (e1, 400, .inl (fun _ => 0))), (d2, .inl (e2, 400, .inl (fun _ => 0)))] := hD
  have hK : va_K (dC, dI) vwCl [(e1, .boolean), (e2, .int)] s := hK
  refine W.widen (k := 2) (n := 800) (by omega) (by omega) ?_
  refine va_putF (D := (dC, dI)) (ci := 2) (v := .ref d2) (ty := .array .int) (C := RX2) (T := TX2) (N := 4) hx hb hts iw_X2 tyX2 tyX2_ok nmX2 hown hK hP hD hS 0 rfl rfl 2 (by decide) (hts _ mf_X2_19) (fun _ h9 => h9) rfl hin rfl (by decide +kernel) (rfl) (rfl) (Nat.le_of_ble_eq_true rfl) dX2_init_24 (fun H locs hP hD hS => ?_)
  have hP : va_P (dC, dI) vwCl [(r0, .inr (2, [.ref h0, .ref d1, .ref d2, .int 0])), (d1, .inl (e1, 400, .inl (fun _ => 0))), (d2, .inl (e2, 400, .inl (fun _ => 0)))] H := hP
  have hD : va_D A [(r0, .inr (2, [.ref h0, .ref d1, .ref d2, .int 0])), (d1, .inl (e1, 400, .inl (fun _ => 0))), (d2, .inl (e2, 400, .inl (fun _ => 0)))] := hD
  refine lv_aload_n hx hb dX2_init_27 rfl (lv_at hl 0 rfl) ?_
  refine lv_iconst (v := nI 0) hx hb dX2_init_28 (by decide +kernel) ?_
  refine va_put (D := (dC, dI)) (ci := 2) (v := .int (nI 0)) (ty := .int) (C := RX2) (T := TX2) (N := 4) hx hb hts iw_X2 tyX2 tyX2_ok nmX2 hown hK hP hD hS 0 rfl rfl 3 (by decide) (hts _ mf_X2_23) (fun _ h9 => h9) rfl (by decide +kernel) (rfl) (rfl) (Nat.le_of_ble_eq_true rfl) dX2_init_29 (fun H locs hP hD hS => ?_)
  have hP : va_P (dC, dI) vwCl [(r0, .inr (2, [.ref h0, .ref d1, .ref d2, .int (nI 0)])), (d1, .inl (e1, 400, .inl (fun _ => 0))), (d2, .inl (e2, 400, .inl (fun _ => 0)))] H := hP
  have hD : va_D A [(r0, .inr (2, [.ref h0, .ref d1, .ref d2, .int (nI 0)])), (d1, .inl (e1, 400, .inl (fun _ => 0))), (d2, .inl (e2, 400, .inl (fun _ => 0)))] := hD
  exact W.vret hx hb hr (fun t ht hW => ⟨⟨(), rfl, trivial, d1, d2, e1, e2, by rw [ht]; exact hP, va_K.moved hW.alike hK, hD⟩, hS.F ht⟩) hS.2.2 dX2_init_32
end
section
/-! 'throw new NoSuchElementException("text")': this JDK's constructor calls RuntimeException's by another entry (13) than the rows of the kit take (7): a row of our own, after the library's (BundleOwnThrow, ctorThrowS) and the kit's vx_throwS -/
section
def xz_six : ByteArray := ⟨#[0x2a, 0x2b, 0xb7, 0x00, 0x0d, 0xb1]⟩
theorem xz_six_0 : decode xz_six 0 = .ok (.aload_n 0, 1) := by decide +kernel
theorem xz_six_1 : decode xz_six 1 = .ok (.aload_n 1, 1) := by decide +kernel
theorem xz_six_2 : decode xz_six 2 = .ok (.invokespecial 13, 3) := by decide +kernel
theorem xz_six_5 : decode xz_six 5 = .ok (.return_, 1) := by decide +kernel
def xz_nx : String := "java/util/NoSuchElementException"
def xz_rx : String := "java/lang/RuntimeException"
def xz_ex : List String := ["java/lang/Exception"]
def xz_ow (own : String) (ic : Nat) : List Cond :=
  Bundle.throwableAtoms ++ Bundle.throwableSAtoms ++ (Bundle.passSAtoms xz_nx xz_rx 13 xz_six ++ Bundle.chainSAtoms xz_rx xz_ex) ++
  [.methodLink own ic (Bundle.initS xz_nx), .instantiable xz_nx 6, .castable xz_nx xz_nx, .selects xz_nx Bundle.tFill0 Bundle.tFill0, .selects xz_nx Bundle.tFill Bundle.tFill,
   .lays xz_nx Bundle.tN "cause" "Ljava/lang/Throwable;", .lays xz_nx Bundle.tN "stackTrace" Bundle.steD, .lays xz_nx Bundle.tN "suppressedExceptions" Bundle.listD, .lays xz_nx Bundle.tN "detailMessage" "Ljava/lang/String;",
   .isRef (.static Bundle.tN "UNASSIGNED_STACK" Bundle.steD), .isRef (.static Bundle.tN "SUPPRESSED_SENTINEL" Bundle.listD),
   .fieldLink Bundle.tN 198 Bundle.tN "backtrace" "Ljava/lang/Object;", .lays Bundle.tN Bundle.tN "backtrace" "Ljava/lang/Object;", .lays xz_nx Bundle.tN "backtrace" "Ljava/lang/Object;"]
theorem xz_ch {args : Array Value} {s : State} {pl : Platform} (hpl : pl.magicAccessors = ({} : Platform).magicAccessors) {top : MethodId} (htop : s.methodNamed? (Bundle.initS Bundle.tN) = some top)
    (h : ∀ c ∈ Bundle.passSAtoms xz_nx xz_rx 13 xz_six ++ Bundle.chainSAtoms xz_rx xz_ex, c.before args s = true) :
      ∃ (P1 : PassC) (Ps : List PassC), Ps.length = 2 ∧ P1.LinksS pl s ∧ (∀ P, P ∈ Ps → P.LinksS pl s) ∧ s.methodNamed? (Bundle.initS xz_nx) = some P1.m ∧
        P1.sup = firstOf top (Ps.map (·.toPassT)) ∧ PassesOn top (Ps.map (·.toPassT)) := by
  obtain ⟨P, L, hm, hs⟩ := PassC.ofS_atoms (args := args) (s := s) hpl (X := xz_nx) (Y := xz_rx) (by decide) (by decide) xz_six_0 xz_six_1 xz_six_2 xz_six_5 (fun c hc => h c (List.mem_append_left _ hc))
  obtain ⟨P', Ps, hlen, L', hL, hm', hsup, hpass⟩ := Bundle.chainS (args := args) hpl htop xz_ex xz_rx (by decide) (by decide) (fun c hc => h c (List.mem_append_right _ hc))
  refine ⟨P, P' :: Ps, by simp [hlen, xz_ex], L, ?_, hm, Option.some.inj (hs.symm.trans hm'), hsup, hpass⟩
  intro Q hQ
  rcases List.mem_cons.mp hQ with rfl | hQ
  · exact L'
  · exact hL Q hQ
set_option maxHeartbeats 4000000 in
theorem xz_ctor {p : Program} {l : Launch} {e : Env} {R : Room} {s : State} {m₀ : MethodId} {args : Array Value} {below : List Frame} {meth : Method} {c : Code} {W : State} {locs : List Loc} {cells slots : Nat} (X : Stand p l e R s m₀ args below meth c W locs cells slots) (hexec : p.tables.exec = Jvm.exec) (htr : e.platform.stackTraces = false) {own : String} {ic : Nat}
    (hown : s.vm.findClass own = some m₀.cls) (h : ∀ a ∈ xz_ow own ic, a.before args s = true)
    (hlocs : ∀ x ∈ locs, ∀ cell, s.heap[x.base]? = some cell → cell.vm.isStatics = false)
    {a : Addr} {cX : ClassId} {kX : Class} (hfoundX : s.vm.findClass xz_nx = some cX) (hkX : s.vm.classes[cX]? = some kX) (hcell : W.heap[a]? = some (freshCell cX kX)) (hnew : s.heap.size ≤ a)
    {msg : Value} (hmsg : msg.isRef = true)
    {g : JFrame} (hg : g.method = m₀) (hsize : g.locals.size = c.maxLocals) (hlocked : g.locked = none) (hentered : g.entered = []) {rest : List Value} (hstack : g.stack = msg :: .ref a :: .ref a :: rest)
    (hd6 : decode c.code g.pc = .ok (.invokespecial ic, 3)) (hd9 : decode c.code (g.pc + 3) = .ok (.athrow, 1)) (hout : ∀ x ∈ c.exceptionTable.toList, covers x (g.pc + 3) = false)
    (hRframes : 5 < R.frames) (hRlocals : 2 * g.monitorRoom + ((Value.ref a :: rest).map fun v => v.category).sum + 81 ≤ R.locals) (hlocks : meth.locks = false) :
    ∃ U : State, Steps p.tables e below (W.setTop g) U ∧ U.status = .running ∧ Ended U below (.threw a) ∧ s.WarmedH U.vm ∧ s.sameButNew ({ U with vm := s.vm } : State) locs cells slots ∧
      ∃ ce, U.heap[a]? = some ce ∧ s.vm.findClass xz_nx = some ce.cls ∧ ce.vm = .none := by
  have howns : e.platform.frameOwnsMonitors = true := by rw [X.admits.platform]
  have hfin : e.platform.finalization = false := by rw [X.admits.platform]
  have hpl : e.platform.magicAccessors = ({} : Platform).magicAccessors := by rw [X.admits.platform]
  have a' : ∀ x, x ∈ xz_ow own ic → x.holds args s none s [] = true := fun x hx => h x hx
  obtain ⟨T, Z0, L, -, Y⟩ := ThrowableC.of_atoms (args := args) howns hfin hpl (fun x hx => h x (by simp [xz_ow, hx]))
  obtain ⟨Z, M, LZ, LM, hnZ⟩ := Init0T.ofS_atoms (args := args) hpl L Y (fun x hx => h x (by simp [xz_ow, hx]))
  obtain ⟨P1, Ps, hlen, L1, hL, hP1m, hlink1, hlink⟩ := xz_ch (args := args) hpl hnZ (fun x hx => h x (List.mem_append_left _ (List.mem_append_right _ hx)))
  have hfound : s.vm.findClass xz_nx = some P1.m.cls := findClass_of_methodNamed hP1m
  cases Option.some.inj (hfoundX.symm.trans hfound)
  obtain ⟨c1, kX', hc1, hk, hord, -, -, hn6⟩ := Cond.instantiable_spec (a' (.instantiable xz_nx 6) (by simp [xz_ow]))
  cases Option.some.inj (hc1.symm.trans hfound)
  cases Option.some.inj (hkX.symm.trans hk)
  have hsel0 : selectMethod e.platform s.vm P1.m.cls T.fill0 = .method T.fill0 := by
    obtain ⟨c2, r2, m2, q1, q2, q3, q4, -⟩ := Cond.selects_spec (a' (.selects xz_nx Bundle.tFill0 Bundle.tFill0) (by simp [xz_ow]))
    cases Option.some.inj (q1.symm.trans hfound)
    cases Option.some.inj (q2.symm.trans (State.methodFound?_of_named Y.fill0 (by decide)))
    cases Option.some.inj (q3.symm.trans Y.fill0)
    rw [Launch.admits_selectMethod X.admits]; exact q4
  have hselF : selectMethod e.platform s.vm P1.m.cls T.fill = .method T.fill := by
    obtain ⟨c2, r2, m2, q1, q2, q3, q4, -⟩ := Cond.selects_spec (a' (.selects xz_nx Bundle.tFill Bundle.tFill) (by simp [xz_ow]))
    cases Option.some.inj (q1.symm.trans hfound)
    cases Option.some.inj (q2.symm.trans (State.methodFound?_of_named Y.fill (by decide)))
    cases Option.some.inj (q3.symm.trans Y.fill)
    rw [Launch.admits_selectMethod X.admits]; exact q4
  obtain ⟨cellS0, hcS0, hiss⟩ := Y.statics
  obtain ⟨u0, hu0⟩ := Cond.staticRefV Y.unassigned L.unassignedStatic L.statics hcS0 hiss (a' (.isRef (.static Bundle.tN "UNASSIGNED_STACK" Bundle.steD)) (by simp [xz_ow]))
  obtain ⟨sen, hsen⟩ := Cond.staticRefV Y.sentinel L.sentinelStatic L.statics hcS0 hiss (a' (.isRef (.static Bundle.tN "SUPPRESSED_SENTINEL" Bundle.listD)) (by simp [xz_ow]))
  obtain ⟨ci198, i198, fB, hk198, hg198, ha198, hsB, -, hnB, htB, hffB⟩ := Cond.ownField (t := .object "java/lang/Object") Y.found L.cls (by decide +kernel) (a' (.fieldLink Bundle.tN 198 Bundle.tN "backtrace" "Ljava/lang/Object;") (by simp [xz_ow])) (a' (.lays Bundle.tN Bundle.tN "backtrace" "Ljava/lang/Object;") (by simp [xz_ow])) e.platform hpl
  obtain ⟨cellS, hcS', heS, -, hkeep⟩ := X.same.2.2.2.2.2 T.aS cellS0 hcS0
  have hcellS : W.heap[T.aS]? = some cellS := hcS'
  have hout' : ∀ i, (⟨T.aS, i⟩ : Loc) ∉ locs := fun i hmem => by
    have := hlocs _ hmem cellS0 hcS0
    rw [hiss] at this; cases this
  have hknownS : cellS.vm ≠ .unknown := by
    rw [heS]; intro hu
    rw [show cellS0.vm = .unknown from hu] at hiss
    cases hiss
  have hneS : T.aS ≠ a := Nat.ne_of_lt (Nat.lt_of_lt_of_le (Array.getElem?_eq_some_iff.mp hcS0).1 hnew)
  obtain ⟨iM, hffM⟩ := Y.msg
  obtain ⟨tyC, dC, hdC, hdnC⟩ := Cond.laysAt hfound hk Y.cause (a' (.lays xz_nx Bundle.tN "cause" "Ljava/lang/Throwable;") (by simp [xz_ow]))
  obtain ⟨tyS, dS, hdS, hdnS⟩ := Cond.laysAt hfound hk Y.stack (a' (.lays xz_nx Bundle.tN "stackTrace" Bundle.steD) (by simp [xz_ow]))
  obtain ⟨tyP, dP, hdP, hdnP⟩ := Cond.laysAt hfound hk Y.supp (a' (.lays xz_nx Bundle.tN "suppressedExceptions" Bundle.listD) (by simp [xz_ow]))
  obtain ⟨tyM, dM, hdM, hdnM⟩ := Cond.laysAt hfound hk hffM (a' (.lays xz_nx Bundle.tN "detailMessage" "Ljava/lang/String;") (by simp [xz_ow]))
  obtain ⟨tyB, dB, hdB, hdnB⟩ := Cond.laysAt hfound hk hffB (a' (.lays xz_nx Bundle.tN "backtrace" "Ljava/lang/Object;") (by simp [xz_ow]))
  have bC := Cond.laysApart hdB hdC hdnB hdnC (by rw [hnB, Y.causeName]; decide)
  have bS := Cond.laysApart hdB hdS hdnB hdnS (by rw [hnB, Y.stackName]; decide)
  have bP := Cond.laysApart hdB hdP hdnB hdnP (by rw [hnB, Y.suppName]; decide)
  have hskip : SkipFacts T e.platform s (fun u => u) u0 ((preparedCellV T.toThrowableT (freshCell P1.m.cls kX) a u0 sen).withEntry W.cur) :=
    ⟨{ ci198 := ci198, i198 := i198, fBack := fB }, ⟨hk198, hg198, ha198, hsB⟩, by
      have := fresh_default (c := P1.m.cls) tyB
      rw [htB] at this
      simpa [preparedCellV, Cell.setSlot, Cell.withEntry, Array.getElem?_setIfInBounds, bC, bS, bP, bC.symm, bS.symm, bP.symm, defaultValue] using this, fun _ _ => rfl⟩
  obtain ⟨tm, methC, cdC, kC, vm₁, hnC, -, -, -, -, -, -, -, hW₁, st1⟩ := Steps.initColdS (tb := p.tables) (e := e) (below := below) (s := s) (U := W) X.here hexec X.warmed hpl hown (t := Bundle.initS xz_nx) rfl rfl (by decide)
    (a' (.methodLink own ic (Bundle.initS xz_nx)) (by simp [xz_ow])) (h (.instanceMethod (Bundle.initS xz_nx)) (by simp [xz_ow, Bundle.passSAtoms])) (bytes := xz_six) (maxL := 2) (h (.code (Bundle.initS xz_nx) xz_six 2 none) (by simp [xz_ow, Bundle.passSAtoms]))
    (f := g) hg (a := a) (msg := msg) (rest := .ref a :: rest) hstack hd6
  cases Option.some.inj (hnC.symm.trans hP1m)
  have X₁ := X.noted hW₁
  obtain ⟨vm₂, X₂, st2⟩ := X₁.ctorMessageOffV hexec (g := { g with stack := .ref a :: rest }) hg hsize T L Z LZ M LM (P1 :: Ps)
    (fun P hP => by rcases List.mem_cons.mp hP with rfl | hP; exact L1; exact hL P hP) ⟨hlink1, hlink⟩ (u0 := u0) (sen := sen) (self := a) hmsg (cell := freshCell P1.m.cls kX) (cellS := cellS)
    hcell (fun _ => by simp) (by simp) rfl rfl hsel0 hselF hcellS hneS hknownS (by rw [hkeep _ (hout' _)]; exact hu0) (by rw [hkeep _ (hout' _)]; exact hsen)
    (Takes.of_laid hk hord tyC (by rw [Y.causeType]; rfl)) (Takes.of_laid hk hord tyS (by rw [Y.stackType]; exact fits_refV_array _ u0)) (Takes.of_laid hk hord tyP (by rw [Y.suppType]; exact fits_refV_object _ sen))
    (Takes.of_laid hk hord tyM (by rw [Y.msgType]; exact fits_refV_object _ ⟨msg, hmsg⟩)) Y.objLocals hskip htr [] hd6
    (by simp only [List.length_cons, hlen]; omega) (by simp only [List.length_cons, hlen]; exact hRlocals)
  obtain ⟨hwalk, hrun, hended, hWU, hsame⟩ := X₂.athrowLeaves hexec (g := { g with stack := .ref a :: rest, pc := g.pc + 3 }) hg hlocked hentered hout (a := a) (rest := rest) rfl hd9
  have hlt : a < ((W.setVm vm₁).setVm vm₂).heap.size := (Array.getElem?_eq_some_iff.mp hcell).1
  have hU := heapAt_setCell_self (s := (W.setVm vm₁).setVm vm₂) (plainBareV T.toThrowableT (freshCell P1.m.cls kX) a u0 sen msg) hlt
  refine ⟨_, st1 _ (fun acts => ?_), hrun, hended, hWU, hsame.weaken (fun y hy hlt' => ?_) (Nat.le_refl _) (Nat.le_refl _), _, hU, hfound, rfl⟩
  · rw [doInvoke_state]
    exact st2 _ hwalk
  · rcases List.mem_append.mp hy with h1 | h1
    · exact h1
    · exfalso
      have hb : y.base = a := by
        simp only [List.mem_cons, List.not_mem_nil, or_false] at h1
        rcases h1 with rfl | rfl | rfl | rfl | rfl <;> rfl
      rw [hb] at hlt'
      exact Nat.not_lt.mpr hnew hlt'
end
end
section
theorem dX3_init_0 : decode cX3_init 0 = .ok (.aload_n 0, 1) := by decide +kernel
theorem dX3_init_1 : decode cX3_init 1 = .ok (.invokespecial 1, 3) := by decide +kernel
theorem dX3_init_4 : decode cX3_init 4 = .ok (.aload_n 0, 1) := by decide +kernel
theorem dX3_init_5 : decode cX3_init 5 = .ok (.new 7, 3) := by decide +kernel
theorem dX3_init_8 : decode cX3_init 8 = .ok (.dup, 1) := by decide +kernel
theorem dX3_init_9 : decode cX3_init 9 = .ok (.invokespecial 9, 3) := by decide +kernel
theorem dX3_init_12 : decode cX3_init 12 = .ok (.putfield 10, 3) := by decide +kernel
theorem dX3_init_15 : decode cX3_init 15 = .ok (.aload_n 0, 1) := by decide +kernel
theorem dX3_init_16 : decode cX3_init 16 = .ok (.new 16, 3) := by decide +kernel
theorem dX3_init_19 : decode cX3_init 19 = .ok (.dup, 1) := by decide +kernel
theorem dX3_init_20 : decode cX3_init 20 = .ok (.aload_n 0, 1) := by decide +kernel
theorem dX3_init_21 : decode cX3_init 21 = .ok (.getfield 10, 3) := by decide +kernel
theorem dX3_init_24 : decode cX3_init 24 = .ok (.invokespecial 18, 3) := by decide +kernel
theorem dX3_init_27 : decode cX3_init 27 = .ok (.putfield 21, 3) := by decide +kernel
theorem dX3_init_30 : decode cX3_init 30 = .ok (.aload_n 0, 1) := by decide +kernel
theorem dX3_init_31 : decode cX3_init 31 = .ok (.new 25, 3) := by decide +kernel
theorem dX3_init_34 : decode cX3_init 34 = .ok (.dup, 1) := by decide +kernel
theorem dX3_init_35 : decode cX3_init 35 = .ok (.aload_n 0, 1) := by decide +kernel
theorem dX3_init_36 : decode cX3_init 36 = .ok (.getfield 10, 3) := by decide +kernel
theorem dX3_init_39 : decode cX3_init 39 = .ok (.invokespecial 27, 3) := by decide +kernel
theorem dX3_init_42 : decode cX3_init 42 = .ok (.putfield 28, 3) := by decide +kernel
theorem dX3_init_45 : decode cX3_init 45 = .ok (.aload_n 0, 1) := by decide +kernel
theorem dX3_init_46 : decode cX3_init 46 = .ok (.iconst 0, 1) := by decide +kernel
theorem dX3_init_47 : decode cX3_init 47 = .ok (.putfield 32, 3) := by decide +kernel
theorem dX3_init_50 : decode cX3_init 50 = .ok (.aload_n 0, 1) := by decide +kernel
theorem dX3_init_51 : decode cX3_init 51 = .ok (.iconst 0, 1) := by decide +kernel
theorem dX3_init_52 : decode cX3_init 52 = .ok (.putfield 36, 3) := by decide +kernel
theorem dX3_init_55 : decode cX3_init 55 = .ok (.aload_n 0, 1) := by decide +kernel
theorem dX3_init_56 : decode cX3_init 56 = .ok (.iconst 0, 1) := by decide +kernel
theorem dX3_init_57 : decode cX3_init 57 = .ok (.putfield 39, 3) := by decide +kernel
theorem dX3_init_60 : decode cX3_init 60 = .ok (.aload_n 0, 1) := by decide +kernel
theorem dX3_init_61 : decode cX3_init 61 = .ok (.iconst 0, 1) := by decide +kernel
theorem dX3_init_62 : decode cX3_init 62 = .ok (.putfield 42, 3) := by decide +kernel
theorem dX3_init_65 : decode cX3_init 65 = .ok (.aload_n 0, 1) := by decide +kernel
theorem dX3_init_66 : decode cX3_init 66 = .ok (.iconst 0, 1) := by decide +kernel
theorem dX3_init_67 : decode cX3_init 67 = .ok (.putfield 46, 3) := by decide +kernel
theorem dX3_init_70 : decode cX3_init 70 = .ok (.return_, 1) := by decide +kernel
theorem dX3_make_0 : decode cX3_make 0 = .ok (.iload_n 1, 1) := by decide +kernel
theorem dX3_make_1 : decode cX3_make 1 = .ok (.ifCond .lt 9, 3) := by decide +kernel
theorem dX3_make_4 : decode cX3_make 4 = .ok (.iload_n 1, 1) := by decide +kernel
theorem dX3_make_5 : decode cX3_make 5 = .ok (.bipush 20, 2) := by decide +kernel
theorem dX3_make_7 : decode cX3_make 7 = .ok (.if_icmp .le 13, 3) := by decide +kernel
theorem dX3_make_10 : decode cX3_make 10 = .ok (.new 49, 3) := by decide +kernel
theorem dX3_make_13 : decode cX3_make 13 = .ok (.dup, 1) := by decide +kernel
theorem dX3_make_14 : decode cX3_make 14 = .ok (.ldc 51, 2) := by decide +kernel
theorem dX3_make_16 : decode cX3_make 16 = .ok (.invokespecial 53, 3) := by decide +kernel
theorem dX3_make_19 : decode cX3_make 19 = .ok (.athrow, 1) := by decide +kernel
theorem dX3_make_20 : decode cX3_make 20 = .ok (.aload_n 0, 1) := by decide +kernel
theorem dX3_make_21 : decode cX3_make 21 = .ok (.getfield 10, 3) := by decide +kernel
theorem dX3_make_24 : decode cX3_make 24 = .ok (.invokevirtual 56, 3) := by decide +kernel
theorem dX3_make_27 : decode cX3_make 27 = .ok (.ifCond .eq 13, 3) := by decide +kernel
theorem dX3_make_30 : decode cX3_make 30 = .ok (.new 60, 3) := by decide +kernel
theorem dX3_make_33 : decode cX3_make 33 = .ok (.dup, 1) := by decide +kernel
theorem dX3_make_34 : decode cX3_make 34 = .ok (.ldc 62, 2) := by decide +kernel
theorem dX3_make_36 : decode cX3_make 36 = .ok (.invokespecial 64, 3) := by decide +kernel
theorem dX3_make_39 : decode cX3_make 39 = .ok (.athrow, 1) := by decide +kernel
theorem dX3_make_40 : decode cX3_make 40 = .ok (.aload_n 0, 1) := by decide +kernel
theorem dX3_make_41 : decode cX3_make 41 = .ok (.iconst 1, 1) := by decide +kernel
theorem dX3_make_42 : decode cX3_make 42 = .ok (.putfield 36, 3) := by decide +kernel
theorem dX3_make_45 : decode cX3_make 45 = .ok (.aload_n 0, 1) := by decide +kernel
theorem dX3_make_46 : decode cX3_make 46 = .ok (.getfield 10, 3) := by decide +kernel
theorem dX3_make_49 : decode cX3_make 49 = .ok (.iload_n 1, 1) := by decide +kernel
theorem dX3_make_50 : decode cX3_make 50 = .ok (.invokevirtual 65, 3) := by decide +kernel
theorem dX3_make_53 : decode cX3_make 53 = .ok (.ireturn, 1) := by decide +kernel
theorem dX3_set_0 : decode cX3_set 0 = .ok (.aload_n 0, 1) := by decide +kernel
theorem dX3_set_1 : decode cX3_set 1 = .ok (.getfield 10, 3) := by decide +kernel
theorem dX3_set_4 : decode cX3_set 4 = .ok (.iload_n 1, 1) := by decide +kernel
theorem dX3_set_5 : decode cX3_set 5 = .ok (.iload_n 2, 1) := by decide +kernel
theorem dX3_set_6 : decode cX3_set 6 = .ok (.invokevirtual 69, 3) := by decide +kernel
theorem dX3_set_9 : decode cX3_set 9 = .ok (.ifCond .ne 13, 3) := by decide +kernel
theorem dX3_set_12 : decode cX3_set 12 = .ok (.new 73, 3) := by decide +kernel
theorem dX3_set_15 : decode cX3_set 15 = .ok (.dup, 1) := by decide +kernel
theorem dX3_set_16 : decode cX3_set 16 = .ok (.ldc 75, 2) := by decide +kernel
theorem dX3_set_18 : decode cX3_set 18 = .ok (.invokespecial 77, 3) := by decide +kernel
theorem dX3_set_21 : decode cX3_set 21 = .ok (.athrow, 1) := by decide +kernel
theorem dX3_set_22 : decode cX3_set 22 = .ok (.aload_n 0, 1) := by decide +kernel
theorem dX3_set_23 : decode cX3_set 23 = .ok (.getfield 10, 3) := by decide +kernel
theorem dX3_set_26 : decode cX3_set 26 = .ok (.iload_n 3, 1) := by decide +kernel
theorem dX3_set_27 : decode cX3_set 27 = .ok (.invokevirtual 78, 3) := by decide +kernel
theorem dX3_set_30 : decode cX3_set 30 = .ok (.ifCond .ne 13, 3) := by decide +kernel
theorem dX3_set_33 : decode cX3_set 33 = .ok (.new 73, 3) := by decide +kernel
theorem dX3_set_36 : decode cX3_set 36 = .ok (.dup, 1) := by decide +kernel
theorem dX3_set_37 : decode cX3_set 37 = .ok (.ldc 82, 2) := by decide +kernel
theorem dX3_set_39 : decode cX3_set 39 = .ok (.invokespecial 77, 3) := by decide +kernel
theorem dX3_set_42 : decode cX3_set 42 = .ok (.athrow, 1) := by decide +kernel
theorem dX3_set_43 : decode cX3_set 43 = .ok (.aload_n 0, 1) := by decide +kernel
theorem dX3_set_44 : decode cX3_set 44 = .ok (.iconst 1, 1) := by decide +kernel
theorem dX3_set_45 : decode cX3_set 45 = .ok (.putfield 36, 3) := by decide +kernel
theorem dX3_set_48 : decode cX3_set 48 = .ok (.aload_n 0, 1) := by decide +kernel
theorem dX3_set_49 : decode cX3_set 49 = .ok (.getfield 32, 3) := by decide +kernel
theorem dX3_set_52 : decode cX3_set 52 = .ok (.ifCond .eq 11, 3) := by decide +kernel
theorem dX3_set_55 : decode cX3_set 55 = .ok (.aload_n 0, 1) := by decide +kernel
theorem dX3_set_56 : decode cX3_set 56 = .ok (.getfield 21, 3) := by decide +kernel
theorem dX3_set_59 : decode cX3_set 59 = .ok (.iload_n 1, 1) := by decide +kernel
theorem dX3_set_60 : decode cX3_set 60 = .ok (.invokevirtual 84, 3) := by decide +kernel
theorem dX3_set_63 : decode cX3_set 63 = .ok (.aload_n 0, 1) := by decide +kernel
theorem dX3_set_64 : decode cX3_set 64 = .ok (.getfield 10, 3) := by decide +kernel
theorem dX3_set_67 : decode cX3_set 67 = .ok (.iload_n 1, 1) := by decide +kernel
theorem dX3_set_68 : decode cX3_set 68 = .ok (.iload_n 2, 1) := by decide +kernel
theorem dX3_set_69 : decode cX3_set 69 = .ok (.iload_n 3, 1) := by decide +kernel
theorem dX3_set_70 : decode cX3_set 70 = .ok (.invokevirtual 88, 3) := by decide +kernel
theorem dX3_set_73 : decode cX3_set 73 = .ok (.ireturn, 1) := by decide +kernel
theorem dX3_get_0 : decode cX3_get 0 = .ok (.aload_n 0, 1) := by decide +kernel
theorem dX3_get_1 : decode cX3_get 1 = .ok (.getfield 10, 3) := by decide +kernel
theorem dX3_get_4 : decode cX3_get 4 = .ok (.iload_n 1, 1) := by decide +kernel
theorem dX3_get_5 : decode cX3_get 5 = .ok (.iload_n 2, 1) := by decide +kernel
theorem dX3_get_6 : decode cX3_get 6 = .ok (.invokevirtual 69, 3) := by decide +kernel
theorem dX3_get_9 : decode cX3_get 9 = .ok (.ifCond .ne 13, 3) := by decide +kernel
theorem dX3_get_12 : decode cX3_get 12 = .ok (.new 73, 3) := by decide +kernel
theorem dX3_get_15 : decode cX3_get 15 = .ok (.dup, 1) := by decide +kernel
theorem dX3_get_16 : decode cX3_get 16 = .ok (.ldc 75, 2) := by decide +kernel
theorem dX3_get_18 : decode cX3_get 18 = .ok (.invokespecial 77, 3) := by decide +kernel
theorem dX3_get_21 : decode cX3_get 21 = .ok (.athrow, 1) := by decide +kernel
theorem dX3_get_22 : decode cX3_get 22 = .ok (.aload_n 0, 1) := by decide +kernel
theorem dX3_get_23 : decode cX3_get 23 = .ok (.getfield 10, 3) := by decide +kernel
theorem dX3_get_26 : decode cX3_get 26 = .ok (.iload_n 1, 1) := by decide +kernel
theorem dX3_get_27 : decode cX3_get 27 = .ok (.iload_n 2, 1) := by decide +kernel
theorem dX3_get_28 : decode cX3_get 28 = .ok (.invokevirtual 92, 3) := by decide +kernel
theorem dX3_get_31 : decode cX3_get 31 = .ok (.ireturn, 1) := by decide +kernel
theorem dX3_root_0 : decode cX3_root 0 = .ok (.aload_n 0, 1) := by decide +kernel
theorem dX3_root_1 : decode cX3_root 1 = .ok (.getfield 10, 3) := by decide +kernel
theorem dX3_root_4 : decode cX3_root 4 = .ok (.iload_n 1, 1) := by decide +kernel
theorem dX3_root_5 : decode cX3_root 5 = .ok (.invokevirtual 96, 3) := by decide +kernel
theorem dX3_root_8 : decode cX3_root 8 = .ok (.ifCond .ne 13, 3) := by decide +kernel
theorem dX3_root_11 : decode cX3_root 11 = .ok (.new 73, 3) := by decide +kernel
theorem dX3_root_14 : decode cX3_root 14 = .ok (.dup, 1) := by decide +kernel
theorem dX3_root_15 : decode cX3_root 15 = .ok (.ldc 99, 2) := by decide +kernel
theorem dX3_root_17 : decode cX3_root 17 = .ok (.invokespecial 77, 3) := by decide +kernel
theorem dX3_root_20 : decode cX3_root 20 = .ok (.athrow, 1) := by decide +kernel
theorem dX3_root_21 : decode cX3_root 21 = .ok (.aload_n 0, 1) := by decide +kernel
theorem dX3_root_22 : decode cX3_root 22 = .ok (.getfield 10, 3) := by decide +kernel
theorem dX3_root_25 : decode cX3_root 25 = .ok (.iload_n 2, 1) := by decide +kernel
theorem dX3_root_26 : decode cX3_root 26 = .ok (.invokevirtual 78, 3) := by decide +kernel
theorem dX3_root_29 : decode cX3_root 29 = .ok (.ifCond .ne 13, 3) := by decide +kernel
theorem dX3_root_32 : decode cX3_root 32 = .ok (.new 73, 3) := by decide +kernel
theorem dX3_root_35 : decode cX3_root 35 = .ok (.dup, 1) := by decide +kernel
theorem dX3_root_36 : decode cX3_root 36 = .ok (.ldc 101, 2) := by decide +kernel
theorem dX3_root_38 : decode cX3_root 38 = .ok (.invokespecial 77, 3) := by decide +kernel
theorem dX3_root_41 : decode cX3_root 41 = .ok (.athrow, 1) := by decide +kernel
theorem dX3_root_42 : decode cX3_root 42 = .ok (.aload_n 0, 1) := by decide +kernel
theorem dX3_root_43 : decode cX3_root 43 = .ok (.iconst 1, 1) := by decide +kernel
theorem dX3_root_44 : decode cX3_root 44 = .ok (.putfield 36, 3) := by decide +kernel
theorem dX3_root_47 : decode cX3_root 47 = .ok (.aload_n 0, 1) := by decide +kernel
theorem dX3_root_48 : decode cX3_root 48 = .ok (.getfield 10, 3) := by decide +kernel
theorem dX3_root_51 : decode cX3_root 51 = .ok (.iload_n 1, 1) := by decide +kernel
theorem dX3_root_52 : decode cX3_root 52 = .ok (.iload_n 2, 1) := by decide +kernel
theorem dX3_root_53 : decode cX3_root 53 = .ok (.invokevirtual 103, 3) := by decide +kernel
theorem dX3_root_56 : decode cX3_root 56 = .ok (.ireturn, 1) := by decide +kernel
theorem dX3_pile_0 : decode cX3_pile 0 = .ok (.iload_n 1, 1) := by decide +kernel
theorem dX3_pile_1 : decode cX3_pile 1 = .ok (.iconst 1, 1) := by decide +kernel
end
section
theorem dX3_pile_2 : decode cX3_pile 2 = .ok (.if_icmp .lt 9, 3) := by decide +kernel
theorem dX3_pile_5 : decode cX3_pile 5 = .ok (.iload_n 1, 1) := by decide +kernel
theorem dX3_pile_6 : decode cX3_pile 6 = .ok (.bipush 64, 2) := by decide +kernel
theorem dX3_pile_8 : decode cX3_pile 8 = .ok (.if_icmp .le 13, 3) := by decide +kernel
theorem dX3_pile_11 : decode cX3_pile 11 = .ok (.new 49, 3) := by decide +kernel
theorem dX3_pile_14 : decode cX3_pile 14 = .ok (.dup, 1) := by decide +kernel
theorem dX3_pile_15 : decode cX3_pile 15 = .ok (.ldc 106, 2) := by decide +kernel
theorem dX3_pile_17 : decode cX3_pile 17 = .ok (.invokespecial 53, 3) := by decide +kernel
theorem dX3_pile_20 : decode cX3_pile 20 = .ok (.athrow, 1) := by decide +kernel
theorem dX3_pile_21 : decode cX3_pile 21 = .ok (.aload_n 0, 1) := by decide +kernel
theorem dX3_pile_22 : decode cX3_pile 22 = .ok (.getfield 32, 3) := by decide +kernel
theorem dX3_pile_25 : decode cX3_pile 25 = .ok (.ifCond .eq 13, 3) := by decide +kernel
theorem dX3_pile_28 : decode cX3_pile 28 = .ok (.new 60, 3) := by decide +kernel
theorem dX3_pile_31 : decode cX3_pile 31 = .ok (.dup, 1) := by decide +kernel
theorem dX3_pile_32 : decode cX3_pile 32 = .ok (.ldc 108, 2) := by decide +kernel
theorem dX3_pile_34 : decode cX3_pile 34 = .ok (.invokespecial 64, 3) := by decide +kernel
theorem dX3_pile_37 : decode cX3_pile 37 = .ok (.athrow, 1) := by decide +kernel
theorem dX3_pile_38 : decode cX3_pile 38 = .ok (.aload_n 0, 1) := by decide +kernel
theorem dX3_pile_39 : decode cX3_pile 39 = .ok (.getfield 21, 3) := by decide +kernel
theorem dX3_pile_42 : decode cX3_pile 42 = .ok (.iload_n 1, 1) := by decide +kernel
theorem dX3_pile_43 : decode cX3_pile 43 = .ok (.invokevirtual 110, 3) := by decide +kernel
theorem dX3_pile_46 : decode cX3_pile 46 = .ok (.ireturn, 1) := by decide +kernel
theorem dX3_begin_0 : decode cX3_begin 0 = .ok (.aload_n 0, 1) := by decide +kernel
theorem dX3_begin_1 : decode cX3_begin 1 = .ok (.getfield 32, 3) := by decide +kernel
theorem dX3_begin_4 : decode cX3_begin 4 = .ok (.ifCond .eq 13, 3) := by decide +kernel
theorem dX3_begin_7 : decode cX3_begin 7 = .ok (.new 60, 3) := by decide +kernel
theorem dX3_begin_10 : decode cX3_begin 10 = .ok (.dup, 1) := by decide +kernel
theorem dX3_begin_11 : decode cX3_begin 11 = .ok (.ldc 108, 2) := by decide +kernel
theorem dX3_begin_13 : decode cX3_begin 13 = .ok (.invokespecial 64, 3) := by decide +kernel
theorem dX3_begin_16 : decode cX3_begin 16 = .ok (.athrow, 1) := by decide +kernel
theorem dX3_begin_17 : decode cX3_begin 17 = .ok (.aload_n 0, 1) := by decide +kernel
theorem dX3_begin_18 : decode cX3_begin 18 = .ok (.getfield 21, 3) := by decide +kernel
theorem dX3_begin_21 : decode cX3_begin 21 = .ok (.invokevirtual 113, 3) := by decide +kernel
theorem dX3_begin_24 : decode cX3_begin 24 = .ok (.aload_n 0, 1) := by decide +kernel
theorem dX3_begin_25 : decode cX3_begin 25 = .ok (.iconst 1, 1) := by decide +kernel
theorem dX3_begin_26 : decode cX3_begin 26 = .ok (.putfield 32, 3) := by decide +kernel
theorem dX3_begin_29 : decode cX3_begin 29 = .ok (.aload_n 0, 1) := by decide +kernel
theorem dX3_begin_30 : decode cX3_begin 30 = .ok (.iconst 0, 1) := by decide +kernel
theorem dX3_begin_31 : decode cX3_begin 31 = .ok (.putfield 36, 3) := by decide +kernel
theorem dX3_begin_34 : decode cX3_begin 34 = .ok (.return_, 1) := by decide +kernel
theorem dX3_mark_0 : decode cX3_mark 0 = .ok (.iload_n 1, 1) := by decide +kernel
theorem dX3_mark_1 : decode cX3_mark 1 = .ok (.invokestatic 116, 3) := by decide +kernel
theorem dX3_mark_4 : decode cX3_mark 4 = .ok (.ifCond .ne 13, 3) := by decide +kernel
theorem dX3_mark_7 : decode cX3_mark 7 = .ok (.new 49, 3) := by decide +kernel
theorem dX3_mark_10 : decode cX3_mark 10 = .ok (.dup, 1) := by decide +kernel
theorem dX3_mark_11 : decode cX3_mark 11 = .ok (.ldc 119, 2) := by decide +kernel
theorem dX3_mark_13 : decode cX3_mark 13 = .ok (.invokespecial 53, 3) := by decide +kernel
theorem dX3_mark_16 : decode cX3_mark 16 = .ok (.athrow, 1) := by decide +kernel
theorem dX3_mark_17 : decode cX3_mark 17 = .ok (.aload_n 0, 1) := by decide +kernel
theorem dX3_mark_18 : decode cX3_mark 18 = .ok (.getfield 32, 3) := by decide +kernel
theorem dX3_mark_21 : decode cX3_mark 21 = .ok (.ifCond .eq 11, 3) := by decide +kernel
theorem dX3_mark_24 : decode cX3_mark 24 = .ok (.aload_n 0, 1) := by decide +kernel
theorem dX3_mark_25 : decode cX3_mark 25 = .ok (.getfield 21, 3) := by decide +kernel
theorem dX3_mark_28 : decode cX3_mark 28 = .ok (.iload_n 1, 1) := by decide +kernel
theorem dX3_mark_29 : decode cX3_mark 29 = .ok (.invokevirtual 121, 3) := by decide +kernel
theorem dX3_mark_32 : decode cX3_mark 32 = .ok (.return_, 1) := by decide +kernel
theorem dX3_isStepCount_0 : decode cX3_isStepCount 0 = .ok (.iload_n 0, 1) := by decide +kernel
theorem dX3_isStepCount_1 : decode cX3_isStepCount 1 = .ok (.ifCond .lt 14, 3) := by decide +kernel
theorem dX3_isStepCount_4 : decode cX3_isStepCount 4 = .ok (.iload_n 0, 1) := by decide +kernel
theorem dX3_isStepCount_5 : decode cX3_isStepCount 5 = .ok (.sipush 5000, 3) := by decide +kernel
theorem dX3_isStepCount_8 : decode cX3_isStepCount 8 = .ok (.if_icmp .gt 7, 3) := by decide +kernel
theorem dX3_isStepCount_11 : decode cX3_isStepCount 11 = .ok (.iconst 1, 1) := by decide +kernel
theorem dX3_isStepCount_12 : decode cX3_isStepCount 12 = .ok (.goto 4, 3) := by decide +kernel
theorem dX3_isStepCount_15 : decode cX3_isStepCount 15 = .ok (.iconst 0, 1) := by decide +kernel
theorem dX3_isStepCount_16 : decode cX3_isStepCount 16 = .ok (.ireturn, 1) := by decide +kernel
theorem dX3_preclean_0 : decode cX3_preclean 0 = .ok (.iload_n 1, 1) := by decide +kernel
theorem dX3_preclean_1 : decode cX3_preclean 1 = .ok (.invokestatic 116, 3) := by decide +kernel
theorem dX3_preclean_4 : decode cX3_preclean 4 = .ok (.ifCond .ne 13, 3) := by decide +kernel
theorem dX3_preclean_7 : decode cX3_preclean 7 = .ok (.new 49, 3) := by decide +kernel
theorem dX3_preclean_10 : decode cX3_preclean 10 = .ok (.dup, 1) := by decide +kernel
theorem dX3_preclean_11 : decode cX3_preclean 11 = .ok (.ldc 119, 2) := by decide +kernel
theorem dX3_preclean_13 : decode cX3_preclean 13 = .ok (.invokespecial 53, 3) := by decide +kernel
theorem dX3_preclean_16 : decode cX3_preclean 16 = .ok (.athrow, 1) := by decide +kernel
theorem dX3_preclean_17 : decode cX3_preclean 17 = .ok (.aload_n 0, 1) := by decide +kernel
theorem dX3_preclean_18 : decode cX3_preclean 18 = .ok (.getfield 32, 3) := by decide +kernel
theorem dX3_preclean_21 : decode cX3_preclean 21 = .ok (.ifCond .eq 11, 3) := by decide +kernel
theorem dX3_preclean_24 : decode cX3_preclean 24 = .ok (.aload_n 0, 1) := by decide +kernel
theorem dX3_preclean_25 : decode cX3_preclean 25 = .ok (.getfield 21, 3) := by decide +kernel
theorem dX3_preclean_28 : decode cX3_preclean 28 = .ok (.iload_n 1, 1) := by decide +kernel
theorem dX3_preclean_29 : decode cX3_preclean 29 = .ok (.invokevirtual 124, 3) := by decide +kernel
theorem dX3_preclean_32 : decode cX3_preclean 32 = .ok (.return_, 1) := by decide +kernel
theorem dX3_finish_0 : decode cX3_finish 0 = .ok (.aload_n 0, 1) := by decide +kernel
theorem dX3_finish_1 : decode cX3_finish 1 = .ok (.getfield 32, 3) := by decide +kernel
theorem dX3_finish_4 : decode cX3_finish 4 = .ok (.ifCond .ne 13, 3) := by decide +kernel
theorem dX3_finish_7 : decode cX3_finish 7 = .ok (.new 60, 3) := by decide +kernel
theorem dX3_finish_10 : decode cX3_finish 10 = .ok (.dup, 1) := by decide +kernel
theorem dX3_finish_11 : decode cX3_finish 11 = .ok (.ldc 127, 2) := by decide +kernel
theorem dX3_finish_13 : decode cX3_finish 13 = .ok (.invokespecial 64, 3) := by decide +kernel
theorem dX3_finish_16 : decode cX3_finish 16 = .ok (.athrow, 1) := by decide +kernel
theorem dX3_finish_17 : decode cX3_finish 17 = .ok (.aload_n 0, 1) := by decide +kernel
theorem dX3_finish_18 : decode cX3_finish 18 = .ok (.getfield 21, 3) := by decide +kernel
theorem dX3_finish_21 : decode cX3_finish 21 = .ok (.invokevirtual 129, 3) := by decide +kernel
theorem dX3_finish_24 : decode cX3_finish 24 = .ok (.aload_n 0, 1) := by decide +kernel
theorem dX3_finish_25 : decode cX3_finish 25 = .ok (.iconst 0, 1) := by decide +kernel
theorem dX3_finish_26 : decode cX3_finish 26 = .ok (.putfield 32, 3) := by decide +kernel
theorem dX3_finish_29 : decode cX3_finish 29 = .ok (.aload_n 0, 1) := by decide +kernel
theorem dX3_finish_30 : decode cX3_finish 30 = .ok (.dup, 1) := by decide +kernel
theorem dX3_finish_31 : decode cX3_finish 31 = .ok (.getfield 42, 3) := by decide +kernel
theorem dX3_finish_34 : decode cX3_finish 34 = .ok (.iconst 1, 1) := by decide +kernel
theorem dX3_finish_35 : decode cX3_finish 35 = .ok (.iadd, 1) := by decide +kernel
theorem dX3_finish_36 : decode cX3_finish 36 = .ok (.putfield 42, 3) := by decide +kernel
theorem dX3_finish_39 : decode cX3_finish 39 = .ok (.aload_n 0, 1) := by decide +kernel
theorem dX3_finish_40 : decode cX3_finish 40 = .ok (.aload_n 0, 1) := by decide +kernel
theorem dX3_finish_41 : decode cX3_finish 41 = .ok (.getfield 36, 3) := by decide +kernel
theorem dX3_finish_44 : decode cX3_finish 44 = .ok (.ifCond .ne 7, 3) := by decide +kernel
theorem dX3_finish_47 : decode cX3_finish 47 = .ok (.iconst 1, 1) := by decide +kernel
theorem dX3_finish_48 : decode cX3_finish 48 = .ok (.goto 4, 3) := by decide +kernel
theorem dX3_finish_51 : decode cX3_finish 51 = .ok (.iconst 0, 1) := by decide +kernel
theorem dX3_finish_52 : decode cX3_finish 52 = .ok (.putfield 39, 3) := by decide +kernel
theorem dX3_finish_55 : decode cX3_finish 55 = .ok (.aload_n 0, 1) := by decide +kernel
theorem dX3_finish_56 : decode cX3_finish 56 = .ok (.iconst 0, 1) := by decide +kernel
theorem dX3_finish_57 : decode cX3_finish 57 = .ok (.putfield 36, 3) := by decide +kernel
theorem dX3_finish_60 : decode cX3_finish 60 = .ok (.aload_n 0, 1) := by decide +kernel
theorem dX3_finish_61 : decode cX3_finish 61 = .ok (.getfield 39, 3) := by decide +kernel
theorem dX3_finish_64 : decode cX3_finish 64 = .ok (.ifCond .ne 5, 3) := by decide +kernel
theorem dX3_finish_67 : decode cX3_finish 67 = .ok (.iconst (-1), 1) := by decide +kernel
theorem dX3_finish_68 : decode cX3_finish 68 = .ok (.ireturn, 1) := by decide +kernel
theorem dX3_finish_69 : decode cX3_finish 69 = .ok (.aload_n 0, 1) := by decide +kernel
theorem dX3_finish_70 : decode cX3_finish 70 = .ok (.dup, 1) := by decide +kernel
theorem dX3_finish_71 : decode cX3_finish 71 = .ok (.getfield 46, 3) := by decide +kernel
theorem dX3_finish_74 : decode cX3_finish 74 = .ok (.iconst 1, 1) := by decide +kernel
theorem dX3_finish_75 : decode cX3_finish 75 = .ok (.iadd, 1) := by decide +kernel
theorem dX3_finish_76 : decode cX3_finish 76 = .ok (.putfield 46, 3) := by decide +kernel
theorem dX3_finish_79 : decode cX3_finish 79 = .ok (.aload_n 0, 1) := by decide +kernel
theorem dX3_finish_80 : decode cX3_finish 80 = .ok (.getfield 21, 3) := by decide +kernel
theorem dX3_finish_83 : decode cX3_finish 83 = .ok (.invokevirtual 132, 3) := by decide +kernel
theorem dX3_finish_86 : decode cX3_finish 86 = .ok (.ireturn, 1) := by decide +kernel
theorem dX3_marked_0 : decode cX3_marked 0 = .ok (.aload_n 0, 1) := by decide +kernel
theorem dX3_marked_1 : decode cX3_marked 1 = .ok (.getfield 10, 3) := by decide +kernel
theorem dX3_marked_4 : decode cX3_marked 4 = .ok (.iload_n 1, 1) := by decide +kernel
theorem dX3_marked_5 : decode cX3_marked 5 = .ok (.invokevirtual 136, 3) := by decide +kernel
theorem dX3_marked_8 : decode cX3_marked 8 = .ok (.ifCond .ne 13, 3) := by decide +kernel
theorem dX3_marked_11 : decode cX3_marked 11 = .ok (.new 73, 3) := by decide +kernel
theorem dX3_marked_14 : decode cX3_marked 14 = .ok (.dup, 1) := by decide +kernel
theorem dX3_marked_15 : decode cX3_marked 15 = .ok (.ldc 101, 2) := by decide +kernel
theorem dX3_marked_17 : decode cX3_marked 17 = .ok (.invokespecial 77, 3) := by decide +kernel
theorem dX3_marked_20 : decode cX3_marked 20 = .ok (.athrow, 1) := by decide +kernel
theorem dX3_marked_21 : decode cX3_marked 21 = .ok (.aload_n 0, 1) := by decide +kernel
theorem dX3_marked_22 : decode cX3_marked 22 = .ok (.invokevirtual 139, 3) := by decide +kernel
theorem dX3_marked_25 : decode cX3_marked 25 = .ok (.ifCond .eq 10, 3) := by decide +kernel
theorem dX3_marked_28 : decode cX3_marked 28 = .ok (.aload_n 0, 1) := by decide +kernel
theorem dX3_marked_29 : decode cX3_marked 29 = .ok (.getfield 39, 3) := by decide +kernel
theorem dX3_marked_32 : decode cX3_marked 32 = .ok (.ifCond .ne 13, 3) := by decide +kernel
theorem dX3_marked_35 : decode cX3_marked 35 = .ok (.new 60, 3) := by decide +kernel
theorem dX3_marked_38 : decode cX3_marked 38 = .ok (.dup, 1) := by decide +kernel
theorem dX3_marked_39 : decode cX3_marked 39 = .ok (.ldc 142, 2) := by decide +kernel
theorem dX3_marked_41 : decode cX3_marked 41 = .ok (.invokespecial 64, 3) := by decide +kernel
theorem dX3_marked_44 : decode cX3_marked 44 = .ok (.athrow, 1) := by decide +kernel
theorem dX3_marked_45 : decode cX3_marked 45 = .ok (.aload_n 0, 1) := by decide +kernel
theorem dX3_marked_46 : decode cX3_marked 46 = .ok (.getfield 21, 3) := by decide +kernel
end
section
theorem dX3_marked_49 : decode cX3_marked 49 = .ok (.iload_n 1, 1) := by decide +kernel
theorem dX3_marked_50 : decode cX3_marked 50 = .ok (.invokevirtual 144, 3) := by decide +kernel
theorem dX3_marked_53 : decode cX3_marked 53 = .ok (.ireturn, 1) := by decide +kernel
theorem dX3_latestCycleStillHolds_0 : decode cX3_latestCycleStillHolds 0 = .ok (.aload_n 0, 1) := by decide +kernel
theorem dX3_latestCycleStillHolds_1 : decode cX3_latestCycleStillHolds 1 = .ok (.getfield 32, 3) := by decide +kernel
theorem dX3_latestCycleStillHolds_4 : decode cX3_latestCycleStillHolds 4 = .ok (.ifCond .ne 21, 3) := by decide +kernel
theorem dX3_latestCycleStillHolds_7 : decode cX3_latestCycleStillHolds 7 = .ok (.aload_n 0, 1) := by decide +kernel
theorem dX3_latestCycleStillHolds_8 : decode cX3_latestCycleStillHolds 8 = .ok (.getfield 42, 3) := by decide +kernel
theorem dX3_latestCycleStillHolds_11 : decode cX3_latestCycleStillHolds 11 = .ok (.ifCond .le 14, 3) := by decide +kernel
theorem dX3_latestCycleStillHolds_14 : decode cX3_latestCycleStillHolds 14 = .ok (.aload_n 0, 1) := by decide +kernel
theorem dX3_latestCycleStillHolds_15 : decode cX3_latestCycleStillHolds 15 = .ok (.getfield 36, 3) := by decide +kernel
theorem dX3_latestCycleStillHolds_18 : decode cX3_latestCycleStillHolds 18 = .ok (.ifCond .ne 7, 3) := by decide +kernel
theorem dX3_latestCycleStillHolds_21 : decode cX3_latestCycleStillHolds 21 = .ok (.iconst 1, 1) := by decide +kernel
theorem dX3_latestCycleStillHolds_22 : decode cX3_latestCycleStillHolds 22 = .ok (.goto 4, 3) := by decide +kernel
theorem dX3_latestCycleStillHolds_25 : decode cX3_latestCycleStillHolds 25 = .ok (.iconst 0, 1) := by decide +kernel
theorem dX3_latestCycleStillHolds_26 : decode cX3_latestCycleStillHolds 26 = .ok (.ireturn, 1) := by decide +kernel
theorem dX3_lost_0 : decode cX3_lost 0 = .ok (.aload_n 0, 1) := by decide +kernel
theorem dX3_lost_1 : decode cX3_lost 1 = .ok (.invokevirtual 139, 3) := by decide +kernel
theorem dX3_lost_4 : decode cX3_lost 4 = .ok (.ifCond .ne 13, 3) := by decide +kernel
theorem dX3_lost_7 : decode cX3_lost 7 = .ok (.new 60, 3) := by decide +kernel
theorem dX3_lost_10 : decode cX3_lost 10 = .ok (.dup, 1) := by decide +kernel
theorem dX3_lost_11 : decode cX3_lost 11 = .ok (.ldc 147, 2) := by decide +kernel
theorem dX3_lost_13 : decode cX3_lost 13 = .ok (.invokespecial 64, 3) := by decide +kernel
theorem dX3_lost_16 : decode cX3_lost 16 = .ok (.athrow, 1) := by decide +kernel
theorem dX3_lost_17 : decode cX3_lost 17 = .ok (.aload_n 0, 1) := by decide +kernel
theorem dX3_lost_18 : decode cX3_lost 18 = .ok (.getfield 28, 3) := by decide +kernel
theorem dX3_lost_21 : decode cX3_lost 21 = .ok (.invokevirtual 149, 3) := by decide +kernel
theorem dX3_lost_24 : decode cX3_lost 24 = .ok (.iconst 0, 1) := by decide +kernel
theorem dX3_lost_25 : decode cX3_lost 25 = .ok (.istore_n 1, 1) := by decide +kernel
theorem dX3_lost_26 : decode cX3_lost 26 = .ok (.iconst 0, 1) := by decide +kernel
theorem dX3_lost_27 : decode cX3_lost 27 = .ok (.istore_n 2, 1) := by decide +kernel
theorem dX3_lost_28 : decode cX3_lost 28 = .ok (.iload_n 2, 1) := by decide +kernel
theorem dX3_lost_29 : decode cX3_lost 29 = .ok (.sipush 400, 3) := by decide +kernel
theorem dX3_lost_32 : decode cX3_lost 32 = .ok (.if_icmp .ge 34, 3) := by decide +kernel
theorem dX3_lost_35 : decode cX3_lost 35 = .ok (.aload_n 0, 1) := by decide +kernel
theorem dX3_lost_36 : decode cX3_lost 36 = .ok (.getfield 28, 3) := by decide +kernel
theorem dX3_lost_39 : decode cX3_lost 39 = .ok (.iload_n 2, 1) := by decide +kernel
theorem dX3_lost_40 : decode cX3_lost 40 = .ok (.invokevirtual 152, 3) := by decide +kernel
theorem dX3_lost_43 : decode cX3_lost 43 = .ok (.ifCond .eq 17, 3) := by decide +kernel
theorem dX3_lost_46 : decode cX3_lost 46 = .ok (.aload_n 0, 1) := by decide +kernel
theorem dX3_lost_47 : decode cX3_lost 47 = .ok (.getfield 21, 3) := by decide +kernel
theorem dX3_lost_50 : decode cX3_lost 50 = .ok (.iload_n 2, 1) := by decide +kernel
theorem dX3_lost_51 : decode cX3_lost 51 = .ok (.invokevirtual 144, 3) := by decide +kernel
theorem dX3_lost_54 : decode cX3_lost 54 = .ok (.ifCond .ne 6, 3) := by decide +kernel
theorem dX3_lost_57 : decode cX3_lost 57 = .ok (.iinc 1 1, 3) := by decide +kernel
theorem dX3_lost_60 : decode cX3_lost 60 = .ok (.iinc 2 1, 3) := by decide +kernel
theorem dX3_lost_63 : decode cX3_lost 63 = .ok (.goto (-35), 3) := by decide +kernel
theorem dX3_lost_66 : decode cX3_lost 66 = .ok (.iload_n 1, 1) := by decide +kernel
theorem dX3_lost_67 : decode cX3_lost 67 = .ok (.ireturn, 1) := by decide +kernel
theorem dX3_count_0 : decode cX3_count 0 = .ok (.iload_n 1, 1) := by decide +kernel
theorem dX3_count_1 : decode cX3_count 1 = .ok (.tableswitch 93 0 5 #[39, 47, 55, 70, 75, 80], 39) := by decide +kernel
theorem dX3_count_40 : decode cX3_count 40 = .ok (.aload_n 0, 1) := by decide +kernel
theorem dX3_count_41 : decode cX3_count 41 = .ok (.getfield 10, 3) := by decide +kernel
theorem dX3_count_44 : decode cX3_count 44 = .ok (.invokevirtual 155, 3) := by decide +kernel
theorem dX3_count_47 : decode cX3_count 47 = .ok (.ireturn, 1) := by decide +kernel
theorem dX3_count_48 : decode cX3_count 48 = .ok (.aload_n 0, 1) := by decide +kernel
theorem dX3_count_49 : decode cX3_count 49 = .ok (.getfield 10, 3) := by decide +kernel
theorem dX3_count_52 : decode cX3_count 52 = .ok (.invokevirtual 158, 3) := by decide +kernel
theorem dX3_count_55 : decode cX3_count 55 = .ok (.ireturn, 1) := by decide +kernel
theorem dX3_count_56 : decode cX3_count 56 = .ok (.aload_n 0, 1) := by decide +kernel
theorem dX3_count_57 : decode cX3_count 57 = .ok (.getfield 28, 3) := by decide +kernel
theorem dX3_count_60 : decode cX3_count 60 = .ok (.invokevirtual 149, 3) := by decide +kernel
theorem dX3_count_63 : decode cX3_count 63 = .ok (.aload_n 0, 1) := by decide +kernel
theorem dX3_count_64 : decode cX3_count 64 = .ok (.getfield 28, 3) := by decide +kernel
theorem dX3_count_67 : decode cX3_count 67 = .ok (.invokevirtual 161, 3) := by decide +kernel
theorem dX3_count_70 : decode cX3_count 70 = .ok (.ireturn, 1) := by decide +kernel
theorem dX3_count_71 : decode cX3_count 71 = .ok (.aload_n 0, 1) := by decide +kernel
theorem dX3_count_72 : decode cX3_count 72 = .ok (.getfield 42, 3) := by decide +kernel
theorem dX3_count_75 : decode cX3_count 75 = .ok (.ireturn, 1) := by decide +kernel
theorem dX3_count_76 : decode cX3_count 76 = .ok (.aload_n 0, 1) := by decide +kernel
theorem dX3_count_77 : decode cX3_count 77 = .ok (.getfield 46, 3) := by decide +kernel
theorem dX3_count_80 : decode cX3_count 80 = .ok (.ireturn, 1) := by decide +kernel
theorem dX3_count_81 : decode cX3_count 81 = .ok (.aload_n 0, 1) := by decide +kernel
theorem dX3_count_82 : decode cX3_count 82 = .ok (.getfield 32, 3) := by decide +kernel
theorem dX3_count_85 : decode cX3_count 85 = .ok (.ifCond .eq 7, 3) := by decide +kernel
theorem dX3_count_88 : decode cX3_count 88 = .ok (.iconst 1, 1) := by decide +kernel
theorem dX3_count_89 : decode cX3_count 89 = .ok (.goto 4, 3) := by decide +kernel
theorem dX3_count_92 : decode cX3_count 92 = .ok (.iconst 0, 1) := by decide +kernel
theorem dX3_count_93 : decode cX3_count 93 = .ok (.ireturn, 1) := by decide +kernel
theorem dX3_count_94 : decode cX3_count 94 = .ok (.new 49, 3) := by decide +kernel
theorem dX3_count_97 : decode cX3_count 97 = .ok (.dup, 1) := by decide +kernel
theorem dX3_count_98 : decode cX3_count 98 = .ok (.ldc 164, 2) := by decide +kernel
theorem dX3_count_100 : decode cX3_count 100 = .ok (.invokespecial 53, 3) := by decide +kernel
theorem dX3_count_103 : decode cX3_count 103 = .ok (.athrow, 1) := by decide +kernel
end
section
/-! WHAT A THROW ASKS beside the good words: words of castable and declares, the class's String constants, two statics of Throwable -/
def xz_c (w : Cond) : Bool := match w with
  | .castable _ _ => true
  | .declares _ => true
  | _ => false
def xz_B : List Cond := lw_tbl.filter xz_c
def xz_W (U : State) : Prop := ∀ w ∈ xz_B, w.before #[] U = true
theorem xz_on {w : Cond} (h : xz_c w = true) : w.onTables = true := by
  cases w <;> first | rfl | (simp [xz_c] at h)
theorem xz_W.moved {u U : State} (hvm : u.vm.Alike U.vm) (h : xz_W u) : xz_W U := by
  intro w hw
  have hc : xz_c w = true := (List.mem_filter.mp hw).2
  have h1 : w.before #[] (u.setVm U.vm) = true := by
    have h0 := h w hw
    cases w <;> first | (simp [xz_c] at hc; done) | (rw [Cond.castable_setVm hvm]; exact h0) | (rw [Cond.declares_setVm hvm]; exact h0)
  exact va_tabs (u := u.setVm U.vm) (xz_on hc) rfl h1
def xz_str : List (Nat × String) := [(51, "fields is not 0 .. 20"), (62, "there are 400 objects"), (75, "no such object or field"), (82, "no such other object"), (99, "no such root"), (101, "no such object"), (106, "n is not 1 .. 64"), (108, "there is a cycle"), (119, "n is not 0 .. 5000"), (127, "there is no cycle"), (142, "no quiet cycle is the latest, or it no longer holds"), (147, "no cycle was finished, or it no longer holds"), (164, "what is not 0 .. 5")]
def xz_T (U : State) : Prop := ∀ q ∈ xz_str, ∃ sa : Nat, vk_R RX3 q.1 q.2 sa U
theorem xz_T.warm {u U : State} (hW : u.WarmedH U.vm) (h : xz_T u) : xz_T U := fun q hq => by
  obtain ⟨sa, h1⟩ := h q hq
  exact ⟨sa, vk_R.warm hW h1⟩
theorem xz_T.same {u U : State} (hv : U.vm = u.vm) (h : xz_T u) : xz_T U := fun q hq => by
  obtain ⟨sa, h1⟩ := h q hq
  exact ⟨sa, vk_R.same hv h1⟩
def xz_P (A : Nat → Prop) (U : State) (H : Heap) : Prop := xz_W U ∧ xz_T U ∧ vx_Zq Bundle.tN "UNASSIGNED_STACK" Bundle.steD A U H ∧ vx_Zq Bundle.tN "SUPPRESSED_SENTINEL" Bundle.listD A U H
theorem xz_P.same {A : Nat → Prop} {u U : State} {H : Heap} (hv : U.vm = u.vm) (h : xz_P A u H) : xz_P A U H := by
  have ha : u.vm.Alike U.vm := by rw [hv]; exact Vm.Alike.refl u.vm
  exact ⟨h.1.moved ha, h.2.1.same hv, h.2.2.1.moved ha, h.2.2.2.moved ha⟩
/-- for a callee: its cells lie among ours, nothing else has changed -/
theorem xz_P.call {A B : Nat → Prop} {s U : State} {H : Heap} {locs : List Loc} (h : xz_P A s s.heap) (hS : va_S A s.heap H locs) (hAB : ∀ q, B q → A q) (hW : s.WarmedH U.vm) (hU : U.heap = H) : xz_P B U U.heap := by
  have hk : ∀ a : Nat, a < s.heap.size → ¬ A a → H[a]? = s.heap[a]? := fun a h1 h2 => hS.2.1 a h1 h2
  refine ⟨h.1.moved hW.alike, h.2.1.warm hW, ?_, ?_⟩
  · rw [hU]; exact ((h.2.2.1.kept hk).narrow hAB).moved hW.alike
  · rw [hU]; exact ((h.2.2.2.kept hk).narrow hAB).moved hW.alike
theorem xz_keep {D : va_G} {cl : List vw_C} {ws : va_W} {H H1 : Heap} (h : va_P D cl ws H) (hk : ∀ q : Nat, q < H.size → H1[q]? = H[q]?) : va_P D cl ws H1 := h.kept (fun k q hq => hk q.1 ((h k q hq).lt))
theorem xz_F {A : Nat → Prop} {s t : State} {H : Heap} {locs : List Loc} (hS : va_S A s.heap H locs) (hz : H.size ≤ t.heap.size) (hk : ∀ q : Nat, q < H.size → t.heap[q]? = H[q]?) : va_F A s t :=
  ⟨Nat.le_trans hS.1 hz, fun q h1 h2 => (hk q (Nat.lt_of_lt_of_le h1 hS.1)).trans (hS.2.1 q h1 h2)⟩
theorem xz_h53 : ∀ w ∈ (vx_atS RX3 53 "java/lang/IllegalArgumentException" ["java/lang/RuntimeException", "java/lang/Exception"]).filter goodWord, w ∈ lw_tbl := by decide +kernel
theorem xz_g53 : ∀ w ∈ (vx_atS RX3 53 "java/lang/IllegalArgumentException" ["java/lang/RuntimeException", "java/lang/Exception"]).filter goodWord, w ∈ gw := fun w h => List.mem_filter.mpr ⟨xz_h53 w h, (List.mem_filter.mp h).2⟩
theorem xz_n53 : ∀ w ∈ (vx_atS RX3 53 "java/lang/IllegalArgumentException" ["java/lang/RuntimeException", "java/lang/Exception"]).filter (fun w => !goodWord w), w ∈ xz_B := by decide +kernel
theorem xz_o53 : ∀ w ∈ Cond.classLink RX3 49 "java/lang/IllegalArgumentException" :: Cond.initialized "java/lang/IllegalArgumentException" :: vx_atS RX3 53 "java/lang/IllegalArgumentException" ["java/lang/RuntimeException", "java/lang/Exception"], vx_ot w = true := by decide +kernel
theorem xz_a53 {args : Array Value} {s : State} (hts : ∀ w ∈ gw, w.before args s = true) (hW : xz_W s) : ∀ w ∈ vx_atS RX3 53 "java/lang/IllegalArgumentException" ["java/lang/RuntimeException", "java/lang/Exception"], w.before args s = true := fun w h => by
  by_cases g : goodWord w = true
  · exact hts w (xz_g53 w (List.mem_filter.mpr ⟨h, g⟩))
  · have hb := xz_n53 w (List.mem_filter.mpr ⟨h, by simp [g]⟩)
    exact va_tabs (xz_on (List.mem_filter.mp hb).2) rfl (hW w hb)
theorem xz_h64 : ∀ w ∈ (vx_atS RX3 64 "java/lang/IllegalStateException" ["java/lang/RuntimeException", "java/lang/Exception"]).filter goodWord, w ∈ lw_tbl := by decide +kernel
theorem xz_g64 : ∀ w ∈ (vx_atS RX3 64 "java/lang/IllegalStateException" ["java/lang/RuntimeException", "java/lang/Exception"]).filter goodWord, w ∈ gw := fun w h => List.mem_filter.mpr ⟨xz_h64 w h, (List.mem_filter.mp h).2⟩
theorem xz_n64 : ∀ w ∈ (vx_atS RX3 64 "java/lang/IllegalStateException" ["java/lang/RuntimeException", "java/lang/Exception"]).filter (fun w => !goodWord w), w ∈ xz_B := by decide +kernel
theorem xz_o64 : ∀ w ∈ Cond.classLink RX3 60 "java/lang/IllegalStateException" :: Cond.initialized "java/lang/IllegalStateException" :: vx_atS RX3 64 "java/lang/IllegalStateException" ["java/lang/RuntimeException", "java/lang/Exception"], vx_ot w = true := by decide +kernel
theorem xz_a64 {args : Array Value} {s : State} (hts : ∀ w ∈ gw, w.before args s = true) (hW : xz_W s) : ∀ w ∈ vx_atS RX3 64 "java/lang/IllegalStateException" ["java/lang/RuntimeException", "java/lang/Exception"], w.before args s = true := fun w h => by
  by_cases g : goodWord w = true
  · exact hts w (xz_g64 w (List.mem_filter.mpr ⟨h, g⟩))
  · have hb := xz_n64 w (List.mem_filter.mpr ⟨h, by simp [g]⟩)
    exact va_tabs (xz_on (List.mem_filter.mp hb).2) rfl (hW w hb)
theorem xz_h77 : ∀ w ∈ ((xz_ow RX3 77).filter vx_no).filter goodWord, w ∈ lw_tbl := by decide +kernel
theorem xz_g77 : ∀ w ∈ ((xz_ow RX3 77).filter vx_no).filter goodWord, w ∈ gw := fun w h => List.mem_filter.mpr ⟨xz_h77 w h, (List.mem_filter.mp h).2⟩
theorem xz_n77 : ∀ w ∈ ((xz_ow RX3 77).filter vx_no).filter (fun w => !goodWord w), w ∈ xz_B := by decide +kernel
theorem xz_o77 : ∀ w ∈ Cond.classLink RX3 73 "java/util/NoSuchElementException" :: Cond.initialized "java/util/NoSuchElementException" :: (xz_ow RX3 77).filter vx_no, vx_ot w = true := by decide +kernel
theorem xz_a77 {args : Array Value} {s : State} (hts : ∀ w ∈ gw, w.before args s = true) (hW : xz_W s) : ∀ w ∈ (xz_ow RX3 77).filter vx_no, w.before args s = true := fun w h => by
  by_cases g : goodWord w = true
  · exact hts w (xz_g77 w (List.mem_filter.mpr ⟨h, g⟩))
  · have hb := xz_n77 w (List.mem_filter.mpr ⟨h, by simp [g]⟩)
    exact va_tabs (xz_on (List.mem_filter.mp hb).2) rfl (hW w hb)
end
section
section
variable {p : Program} {l : Launch} {e : Env} {R : Room} {s : State} {m : MethodId} {args : Array Value} {below : List Frame} {meth : Method} {c : Code} {H : Heap} {locs : List Loc} {cells slots : Nat}
variable {free : Addr → Prop} {ls : Array Slot} {rest : List Value} {Qc : Array Value → State → Outcome → State → Prop} {XC : String → State → State → Prop}
/-- 'throw new NoSuchElementException("text")', after vx_throwS -/
theorem xz_throwN {cc : ByteArray} {pc : Nat} (hexec : p.tables.exec = Jvm.exec) (hb : c.code = cc) (hl : l.stackTraces = false) {own text : String} {ik is ic mc ms sa : Nat} {A : Nat → Prop}
    (hown : s.vm.findClass own = some m.cls)
    (hk : (Cond.classLink own ik xz_nx).before args s = true) (hini : (Cond.initialized xz_nx).before args s = true) (hstr : vk_R own is text sa s) (hat : ∀ w ∈ (xz_ow own ic).filter vx_no, w.before args s = true)
    (hgood : ∀ w ∈ Cond.classLink own ik xz_nx :: Cond.initialized xz_nx :: (xz_ow own ic).filter vx_no, vx_ot w = true)
    (hU : vx_Zq Bundle.tN "UNASSIGNED_STACK" Bundle.steD A s s.heap) (hN : vx_Zq Bundle.tN "SUPPRESSED_SENTINEL" Bundle.listD A s s.heap) (hS : va_S A s.heap H locs) (hsize : ls.size = c.maxLocals)
    (d0 : decode cc pc = .ok (.new ik, 3)) (d3 : decode cc (pc + 3) = .ok (.dup, 1)) (d4 : decode cc (pc + 4) = .ok (.ldc is, 2)) (d6 : decode cc (pc + 6) = .ok (.invokespecial ic, 3)) (d9 : decode cc (pc + 9) = .ok (.athrow, 1))
    (hout : ∀ x ∈ c.exceptionTable.toList, covers x (pc + 9) = false)
    (hRframes : 5 < R.frames) (hRlocals : (rest.map fun v => v.category).sum + 82 ≤ R.locals) (hRcells : cells + 1 ≤ R.cells) (hRslots : slots + 6 ≤ R.slots) (hlocks : meth.locks = false)
    (hx : ∀ t : State, s.vm.Alike t.vm → H.size ≤ t.heap.size → (∀ q : Nat, q < H.size → t.heap[q]? = H[q]?) → XC xz_nx s t)
    (hf : ∀ z ∈ locs, free z.base) (hc : cells + 1 ≤ mc) (hs : slots + 6 ≤ ms) :
    W p l e R s m args below meth c H locs cells slots (vx_MQ below Qc XC args s mc ms free) (F0 m pc ls rest) := by
  intro T hT X
  have htr : e.platform.stackTraces = false := (show e.platform.stackTraces = l.stackTraces by rw [X.admits.platform]).trans hl
  have Y := vx_rebase X (R' := { frames := R.frames, locals := R.locals, cells := 1, slots := 6 }) (Nat.le_refl _) (Nat.le_refl _) hRcells hRslots
  obtain ⟨s', hA⟩ : ∃ z, z = (T.setVm s.vm).setFrames (.invoking m args :: below) := ⟨_, rfl⟩
  rw [← hA] at Y
  have hvm : s'.vm = s.vm := by rw [hA]; rfl
  have hhp : s'.heap = H := by rw [hA]; exact hT
  have hW0 : s.WarmedH s'.vm := by rw [hvm]; exact State.WarmedH.refl s
  have hat' : ∀ w ∈ (xz_ow own ic).filter vx_no, w.before args s' = true := fun w hw => vx_ot_at hW0 hvm.symm (hgood w (List.mem_cons_of_mem _ (List.mem_cons_of_mem _ hw))) (hat w hw)
  have hk' : (Cond.classLink own ik xz_nx).before args s' = true := vx_ot_at hW0 hvm.symm (hgood _ List.mem_cons_self) hk
  have hini' : (Cond.initialized xz_nx).before args s' = true := vx_ot_at hW0 hvm.symm (hgood _ (List.mem_cons_of_mem _ List.mem_cons_self)) hini
  have hU' : vx_Zq Bundle.tN "UNASSIGNED_STACK" Bundle.steD A s' s'.heap := by rw [hhp]; exact vx_Zq.moved hW0.alike (hU.kept hS.2.1)
  have hN' : vx_Zq Bundle.tN "SUPPRESSED_SENTINEL" Bundle.listD A s' s'.heap := by rw [hhp]; exact vx_Zq.moved hW0.alike (hN.kept hS.2.1)
  have h : ∀ w ∈ xz_ow own ic, w.before args s' = true := vx_own hat' (vx_isRefq hU'.1) (vx_isRefq hN'.1) hU'.2.word hN'.2.word
  have hown' : s'.vm.findClass own = some m.cls := by rw [hvm]; exact hown
  have hins : (Cond.instantiable xz_nx 6).before args s' = true := h _ (by simp [xz_ow])
  obtain ⟨vm₁, cX, kX, hfX, hkX, -, -, X₁, st1⟩ := Y.newCold hexec (own := own) (C := xz_nx) (index := ik) (n := 6) hown' hk' hins hini'
    (g := F0 m pc ls rest) rfl (by rw [hb]; exact d0) (Nat.le_refl _) (Nat.le_refl _)
  generalize hT1 : (T.setVm vm₁).pushCell { cls := cX, slots := kX.instanceTypes.map defaultValue, vm := .none } = T1 at X₁ st1
  have hcat : (Value.ref T.heap.size).category = 1 := rfl
  have hcellA : T1.heap[T.heap.size]? = some (freshCell cX kX) := by rw [← hT1]; exact State.heap_pushCell_size _ _
  have d3' : decode c.code (pc + 3) = .ok (.dup, 1) := by rw [hb]; exact d3
  have d4' : decode c.code (pc + 4) = .ok (.ldc is, 2) := by rw [hb]; exact d4
  have hstr' : vk_R own is text sa s' := vk_R.warm hW0 hstr
  obtain ⟨U, hsteps, hrun, hend, hW, hsame, ce, hce, hOc, hOv⟩ := xz_ctor X₁ hexec htr (own := own) (ic := ic) hown' h (fun x hx => nomatch hx) hfX hkX hcellA (by rw [hhp, hT]; exact Nat.le_refl _) (msg := .ref sa) rfl
    (g := { method := m, pc := pc + 6, locals := ls, stack := .ref sa :: .ref T.heap.size :: .ref T.heap.size :: rest, locked := none }) rfl hsize rfl rfl (rest := rest) rfl
    (by rw [hb]; exact d6) (by rw [hb]; exact d9) hout hRframes (by simp only [List.map_cons, List.sum_cons, hcat]; omega) hlocks
  obtain ⟨f1, f2⟩ := vx_frame hsame
  rw [hhp] at f1 f2
  have hWs : s.WarmedH U.vm := State.WarmedH.trans hW0 hW
  have hcl : s.vm.findClass xz_nx = some ce.cls := by
    have h9 := hOc
    rw [hvm] at h9
    exact h9
  have hall : s.sameButNew ({ U with vm := s.vm } : State) locs mc ms := by
    subst hA
    obtain ⟨e1, e2⟩ := hsame
    rw [State.setFrames_setFrames] at e1
    have h2 : (T.setVm s.vm).sameButNew ({ U with vm := s.vm } : State) [] (0 + 1) (0 + 6) := ⟨e1, e2⟩
    have h3 := X.same.trans h2
    rw [List.append_nil] at h3
    exact h3.mono hc hs
  refine ⟨U, ?_, .threw T.heap.size, hrun, hend, Or.inr ⟨T.heap.size, rfl, xz_nx, ce, locs, hx U hWs.alike f1 (fun q hq => f2 q hq (fun z hz => nomatch hz)), hce, hOv, hcl, hWs, hall, hf⟩⟩
  refine st1 _ ?_
  show Steps p.tables e below (T1.setTop { method := m, pc := pc + 3, locals := ls, stack := .ref T.heap.size :: rest, locked := none }) _
  jvm_step X₁.here [X₁.here.top, hexec, d3', Value.category]
  exact X₁.ldcString hexec (own := own) (text := text) (index := is) (a := sa) hown' hstr'.1 hstr'.2
    (g := { method := m, pc := pc + 4, locals := ls, stack := .ref T.heap.size :: .ref T.heap.size :: rest, locked := none }) rfl d4' _ hsteps
end
end
section
/-! ranges of ints, as both classes look at them -/
section
def pm_rng (a b : Nat) (x : Int32) : Bool := decide (nI a ≤ x) && decide (x ≤ nI b)
theorem pm_rng_t {a b : Nat} {x : Int32} (h : nI a ≤ x) (h2 : x ≤ nI b) : pm_rng a b x = true := by simp [pm_rng, h, h2]
theorem pm_rng_f1 {a b : Nat} {x : Int32} (h : ¬ nI a ≤ x) : pm_rng a b x = false := by simp [pm_rng, h]
theorem pm_rng_f2 {a b : Nat} {x : Int32} (h : ¬ x ≤ nI b) : pm_rng a b x = false := by simp [pm_rng, h]
theorem pm_nle {x y : Int32} (h : x < y) : ¬ y ≤ x := by
  rw [Int32.le_iff_toInt_le]
  rw [Int32.lt_iff_toInt_lt] at h
  omega
theorem pm_len {x y : Int32} (h : ¬ x < y) : y ≤ x := by
  rw [Int32.le_iff_toInt_le]
  rw [Int32.lt_iff_toInt_lt] at h
  omega
theorem pm_rng_of {a b : Nat} {x : Int32} (ha : a < 2 ^ 31) (hb : b < 2 ^ 31) (h : pm_rng a b x = true) : ∃ j : Nat, a ≤ j ∧ j ≤ b ∧ x = nI j := by
  simp only [pm_rng, Bool.and_eq_true, decide_eq_true_eq] at h
  have h3 : (nI a).toInt ≤ x.toInt := by
    have := h.1
    rw [Int32.le_iff_toInt_le] at this
    exact this
  have h4 : x.toInt ≤ (nI b).toInt := by
    have := h.2
    rw [Int32.le_iff_toInt_le] at this
    exact this
  rw [nI_toInt hb] at h4
  rw [nI_toInt ha] at h3
  have h0 : ¬ x < 0 := by
    rw [Int32.lt_iff_toInt_lt, Int32.toInt_zero]
    omega
  obtain ⟨j, hj, rfl⟩ := nI_of h0
  rw [nI_toInt hj] at h3 h4
  exact ⟨j, by omega, by omega, rfl⟩
theorem pm_ge0 {x : Int32} (h : ¬ x < 0) : nI 0 ≤ x := by rw [nI_0]; exact pm_len h
theorem pm_lt0 {x : Int32} (h : x < 0) : ¬ nI 0 ≤ x := by rw [nI_0]; exact pm_nle h
theorem gw_S2 {own : String} {i : Nat} {y : MethodName} {c : Cond} (h1 : Cond.methodLink own i y ∈ gw) (h2 : Cond.static y ∈ gw) (h3 : Cond.initialized own ∈ gw) (h5 : c ∈ gw) : GoodIn gw (wsS own i y (c :: gw)) := by
  intro w hw
  simp only [wsS, List.cons_append, List.nil_append, List.mem_cons] at hw
  rcases hw with rfl | rfl | rfl | rfl | hw
  · exact gw_ok h1
  · exact gw_ok h2
  · exact gw_ok h3
  · exact gw_ok h5
  · exact gw_ok hw
/-- whether the latest cycle still holds -/
def pm_still (iC tc : Bool) (fn : Nat) : Bool := !iC && (decide (0 < fn) && !tc)
/-- found and not marked, of the first n -/
def pm_ls (N : Nat) (fd mr : Nat → Int32) : Nat → Nat
  | 0 => 0
  | k + 1 => pm_ls N fd mr k + (if (pm_hm N fd (nI k) && !pm_hm N mr (nI k)) = true then 1 else 0)
theorem pm_ls_t {N : Nat} {fd mr : Nat → Int32} {k : Nat} (h : pm_hm N fd (nI k) = true) (h2 : pm_hm N mr (nI k) = false) : pm_ls N fd mr (k + 1) = pm_ls N fd mr k + 1 := by
  simp only [pm_ls, h, h2]; rfl
theorem pm_ls_f1 {N : Nat} {fd mr : Nat → Int32} {k : Nat} (h : pm_hm N fd (nI k) = false) : pm_ls N fd mr (k + 1) = pm_ls N fd mr k := by
  simp only [pm_ls, h, Bool.false_and]; rfl
theorem pm_ls_f2 {N : Nat} {fd mr : Nat → Int32} {k : Nat} (h2 : pm_hm N mr (nI k) = true) : pm_ls N fd mr (k + 1) = pm_ls N fd mr k := by
  simp only [pm_ls, h2, Bool.not_true, Bool.and_false]; rfl
theorem pm_ls_0 {N : Nat} {fd mr : Nat → Int32} : ∀ n, (∀ k, k < n → pm_hm N fd (nI k) = true → pm_hm N mr (nI k) = true) → pm_ls N fd mr n = 0 := by
  intro n
  induction n with
  | zero => intro _; rfl
  | succ n ih =>
    intro h
    have h1 := ih (fun k hk => h k (by omega))
    rcases pm_tf (pm_hm N fd (nI n)) with q | q
    · rw [pm_ls_f2 (h n (by omega) q)]; exact h1
    · rw [pm_ls_f1 q]; exact h1
end
end
section
set_option maxHeartbeats 4000000 in
set_option maxRecDepth 100000 in
/-- make(fields) -/
theorem c_P_make (l : Launch) (hl9 : l.stackTraces = false) (dC : Nat → ClassId) (dI : Nat → Nat → Nat) (x0 : Nat) (iC tc lq : Bool) (fn qn : Nat) (m0 b1 b2 b3 : Nat) (g1 g2 g3 : ClassId) (mr ch kp : Nat → Int32) (lim kc nr nf nc : Nat) (r0 d1 d2 : Nat) (e1 e2 : ClassId) (fd od : Nat → Int32) (fc : Nat) (h0 a1 a2 a3 : Nat) (k1 k2 k3 : ClassId) (N : Nat) (cn : Nat → Nat) (fl rt : Nat → Int32) (fa : Int32) (p0 : Int32) (sz : Nat) (hO : pm_Ok N cn fl rt) : vx_Met l yX3_make wsX3_make ({ frames := 6, cells := 1, slots := 6, locals := 140 }) (va_Pc [.ref x0, .int p0] (fun U => U.heap.size = sz ∧ va_P (dC, dI) vwCl [(x0, .inr (3, [.ref h0, .ref m0, .ref r0, .int (pm_b iC), .int (pm_b tc), .int (pm_b lq), .int (nI fn), .int (nI qn)])), (m0, .inr (1, [.ref h0, .ref b1, .ref b2, .ref b3, .int (nI lim), .int (nI kc), .int (nI nr), .int (nI nf), .int (nI nc)])), (b1, .inl (g1, 400, .inl mr)), (b2, .inl (g2, 400, .inl ch)), (b3, .inl (g3, 64, .inl kp)), (r0, .inr (2, [.ref h0, .ref d1, .ref d2, .int (nI fc)])), (d1, .inl (e1, 400, .inl fd)), (d2, .inl (e2, 400, .inl od)), (h0, .inr (0, [.ref a1, .ref a2, .ref a3, .int (nI N), .int fa])), (a1, .inl (k1, 400, .inl (pm_nf9 cn))), (a2, .inl (k2, 8000, .inl fl)), (a3, .inl (k3, 16, .inl rt))] U.heap ∧ va_K (dC, dI) vwCl [(g1, .boolean), (g2, .boolean), (g3, .int), (e1, .boolean), (e2, .int), (k1, .int), (k2, .int), (k3, .int)] U ∧ va_D (fun _ => True) [(x0, .inr (3, [.ref h0, .ref m0, .ref r0, .int (pm_b iC), .int (pm_b tc), .int (pm_b lq), .int (nI fn), .int (nI qn)])), (m0, .inr (1, [.ref h0, .ref b1, .ref b2, .ref b3, .int (nI lim), .int (nI kc), .int (nI nr), .int (nI nf), .int (nI nc)])), (b1, .inl (g1, 400, .inl mr)), (b2, .inl (g2, 400, .inl ch)), (b3, .inl (g3, 64, .inl kp)), (r0, .inr (2, [.ref h0, .ref d1, .ref d2, .int (nI fc)])), (d1, .inl (e1, 400, .inl fd)), (d2, .inl (e2, 400, .inl od)), (h0, .inr (0, [.ref a1, .ref a2, .ref a3, .int (nI N), .int fa])), (a1, .inl (k1, 400, .inl (pm_nf9 cn))), (a2, .inl (k2, 8000, .inl fl)), (a3, .inl (k3, 16, .inl rt))] ∧ xz_P (va_A [(x0, .inr (3, [.ref h0, .ref m0, .ref r0, .int (pm_b iC), .int (pm_b tc), .int (pm_b lq), .int (nI fn), .int (nI qn)])), (m0, .inr (1, [.ref h0, .ref b1, .ref b2, .ref b3, .int (nI lim), .int (nI kc), .int (nI nr), .int (nI nf), .int (nI nc)])), (b1, .inl (g1, 400, .inl mr)), (b2, .inl (g2, 400, .inl ch)), (b3, .inl (g3, 64, .inl kp)), (r0, .inr (2, [.ref h0, .ref d1, .ref d2, .int (nI fc)])), (d1, .inl (e1, 400, .inl fd)), (d2, .inl (e2, 400, .inl od)), (h0, .inr (0, [.ref a1, .ref a2, .ref a3, .int (nI N), .int fa])), (a1, .inl (k1, 400, .inl (pm_nf9 cn))), (a2, .inl (k2, 8000, .inl fl)), (a3, .inl (k3, 16, .inl rt))] sz) U U.heap)) (va_Qi (fun (r : Int32) (u : Nat) => u ≤ 20 ∧ p0 = nI u ∧ N < 400 ∧ r = nI N) (fun (u : Nat) (t : State) => va_P (dC, dI) vwCl [(x0, .inr (3, [.ref h0, .ref m0, .ref r0, .int (pm_b iC), .int (pm_b true), .int (pm_b lq), .int (nI fn), .int (nI qn)])), (m0, .inr (1, [.ref h0, .ref b1, .ref b2, .ref b3, .int (nI lim), .int (nI kc), .int (nI nr), .int (nI nf), .int (nI nc)])), (b1, .inl (g1, 400, .inl mr)), (b2, .inl (g2, 400, .inl ch)), (b3, .inl (g3, 64, .inl kp)), (r0, .inr (2, [.ref h0, .ref d1, .ref d2, .int (nI fc)])), (d1, .inl (e1, 400, .inl fd)), (d2, .inl (e2, 400, .inl od)), (h0, .inr (0, [.ref a1, .ref a2, .ref a3, .int (nI ((N + 1))), .int (fa + nI u)])), (a1, .inl (k1, 400, .inl (pm_nf9 ((pm_un cn N u))))), (a2, .inl (k2, 8000, .inl (pm_fill fl (N * 20) u))), (a3, .inl (k3, 16, .inl rt))] t.heap ∧ va_K (dC, dI) vwCl [(g1, .boolean), (g2, .boolean), (g3, .int), (e1, .boolean), (e2, .int), (k1, .int), (k2, .int), (k3, .int)] t ∧ va_D (va_A [(x0, .inr (3, [.ref h0, .ref m0, .ref r0, .int (pm_b iC), .int (pm_b tc), .int (pm_b lq), .int (nI fn), .int (nI qn)])), (m0, .inr (1, [.ref h0, .ref b1, .ref b2, .ref b3, .int (nI lim), .int (nI kc), .int (nI nr), .int (nI nf), .int (nI nc)])), (b1, .inl (g1, 400, .inl mr)), (b2, .inl (g2, 400, .inl ch)), (b3, .inl (g3, 64, .inl kp)), (r0, .inr (2, [.ref h0, .ref d1, .ref d2, .int (nI fc)])), (d1, .inl (e1, 400, .inl fd)), (d2, .inl (e2, 400, .inl od)), (h0, .inr (0, [.ref a1, .ref a2, .ref a3, .int (nI N), .int fa])), (a1, .inl (k1, 400, .inl (pm_nf9 cn))), (a2, .inl (k2, 8000, .inl fl)), (a3, .inl (k3, 16, .inl rt))] sz) [(x0, .inr (3, [.ref h0, .ref m0, .ref r0, .int (pm_b iC), .int (pm_b true), .int (pm_b lq), .int (nI fn), .int (nI qn)])), (m0, .inr (1, [.ref h0, .ref b1, .ref b2, .ref b3, .int (nI lim), .int (nI kc), .int (nI nr), .int (nI nf), .int (nI nc)])), (b1, .inl (g1, 400, .inl mr)), (b2, .inl (g2, 400, .inl ch)), (b3, .inl (g3, 64, .inl kp)), (r0, .inr (2, [.ref h0, .ref d1, .ref d2, .int (nI fc)])), (d1, .inl (e1, 400, .inl fd)), (d2, .inl (e2, 400, .inl od)), (h0, .inr (0, [.ref a1, .ref a2, .ref a3, .int (nI ((N + 1))), .int (fa + nI u)])), (a1, .inl (k1, 400, .inl (pm_nf9 ((pm_un cn N u))))), (a2, .inl (k2, 8000, .inl (pm_fill fl (N * 20) u))), (a3, .inl (k3, 16, .inl rt))]) (va_A [(x0, .inr (3, [.ref h0, .ref m0, .ref r0, .int (pm_b iC), .int (pm_b tc), .int (pm_b lq), .int (nI fn), .int (nI qn)])), (m0, .inr (1, [.ref h0, .ref b1, .ref b2, .ref b3, .int (nI lim), .int (nI kc), .int (nI nr), .int (nI nf), .int (nI nc)])), (b1, .inl (g1, 400, .inl mr)), (b2, .inl (g2, 400, .inl ch)), (b3, .inl (g3, 64, .inl kp)), (r0, .inr (2, [.ref h0, .ref d1, .ref d2, .int (nI fc)])), (d1, .inl (e1, 400, .inl fd)), (d2, .inl (e2, 400, .inl od)), (h0, .inr (0, [.ref a1, .ref a2, .ref a3, .int (nI N), .int fa])), (a1, .inl (k1, 400, .inl (pm_nf9 cn))), (a2, .inl (k2, 8000, .inl fl)), (a3, .inl (k3, 16, .inl rt))] sz)) (vx_X (fun _ : Unit => True) (fun (E : String) (_ : Unit) (t : State) => ((E = "java/lang/IllegalArgumentException" ∧ pm_rng 0 20 p0 = false) ∨ (E = "java/lang/IllegalStateException" ∧ pm_rng 0 20 p0 = true ∧ 400 ≤ N)) ∧ va_P (dC, dI) vwCl [(x0, .inr (3, [.ref h0, .ref m0, .ref r0, .int (pm_b iC), .int (pm_b tc), .int (pm_b lq), .int (nI fn), .int (nI qn)])), (m0, .inr (1, [.ref h0, .ref b1, .ref b2, .ref b3, .int (nI lim), .int (nI kc), .int (nI nr), .int (nI nf), .int (nI nc)])), (b1, .inl (g1, 400, .inl mr)), (b2, .inl (g2, 400, .inl ch)), (b3, .inl (g3, 64, .inl kp)), (r0, .inr (2, [.ref h0, .ref d1, .ref d2, .int (nI fc)])), (d1, .inl (e1, 400, .inl fd)), (d2, .inl (e2, 400, .inl od)), (h0, .inr (0, [.ref a1, .ref a2, .ref a3, .int (nI N), .int fa])), (a1, .inl (k1, 400, .inl (pm_nf9 cn))), (a2, .inl (k2, 8000, .inl fl)), (a3, .inl (k3, 16, .inl rt))] t.heap ∧ va_K (dC, dI) vwCl [(g1, .boolean), (g2, .boolean), (g3, .int), (e1, .boolean), (e2, .int), (k1, .int), (k2, .int), (k3, .int)] t ∧ va_D (va_A [(x0, .inr (3, [.ref h0, .ref m0, .ref r0, .int (pm_b iC), .int (pm_b tc), .int (pm_b lq), .int (nI fn), .int (nI qn)])), (m0, .inr (1, [.ref h0, .ref b1, .ref b2, .ref b3, .int (nI lim), .int (nI kc), .int (nI nr), .int (nI nf), .int (nI nc)])), (b1, .inl (g1, 400, .inl mr)), (b2, .inl (g2, 400, .inl ch)), (b3, .inl (g3, 64, .inl kp)), (r0, .inr (2, [.ref h0, .ref d1, .ref d2, .int (nI fc)])), (d1, .inl (e1, 400, .inl fd)), (d2, .inl (e2, 400, .inl od)), (h0, .inr (0, [.ref a1, .ref a2, .ref a3, .int (nI N), .int fa])), (a1, .inl (k1, 400, .inl (pm_nf9 cn))), (a2, .inl (k2, 8000, .inl fl)), (a3, .inl (k3, 16, .inl rt))] sz) [(x0, .inr (3, [.ref h0, .ref m0, .ref r0, .int (pm_b iC), .int (pm_b tc), .int (pm_b lq), .int (nI fn), .int (nI qn)])), (m0, .inr (1, [.ref h0, .ref b1, .ref b2, .ref b3, .int (nI lim), .int (nI kc), .int (nI nr), .int (nI nf), .int (nI nc)])), (b1, .inl (g1, 400, .inl mr)), (b2, .inl (g2, 400, .inl ch)), (b3, .inl (g3, 64, .inl kp)), (r0, .inr (2, [.ref h0, .ref d1, .ref d2, .int (nI fc)])), (d1, .inl (e1, 400, .inl fd)), (d2, .inl (e2, 400, .inl od)), (h0, .inr (0, [.ref a1, .ref a2, .ref a3, .int (nI N), .int fa])), (a1, .inl (k1, 400, .inl (pm_nf9 cn))), (a2, .inl (k2, 8000, .inl fl)), (a3, .inl (k3, 16, .inl rt))]) (va_A [(x0, .inr (3, [.ref h0, .ref m0, .ref r0, .int (pm_b iC), .int (pm_b tc), .int (pm_b lq), .int (nI fn), .int (nI qn)])), (m0, .inr (1, [.ref h0, .ref b1, .ref b2, .ref b3, .int (nI lim), .int (nI kc), .int (nI nr), .int (nI nf), .int (nI nc)])), (b1, .inl (g1, 400, .inl mr)), (b2, .inl (g2, 400, .inl ch)), (b3, .inl (g3, 64, .inl kp)), (r0, .inr (2, [.ref h0, .ref d1, .ref d2, .int (nI fc)])), (d1, .inl (e1, 400, .inl fd)), (d2, .inl (e2, 400, .inl od)), (h0, .inr (0, [.ref a1, .ref a2, .ref a3, .int (nI N), .int fa])), (a1, .inl (k1, 400, .inl (pm_nf9 cn))), (a2, .inl (k2, 8000, .inl fl)), (a3, .inl (k3, 16, .inl rt))] sz)) 1 6 (va_A [(x0, .inr (3, [.ref h0, .ref m0, .ref r0, .int (pm_b iC), .int (pm_b tc), .int (pm_b lq), .int (nI fn), .int (nI qn)])), (m0, .inr (1, [.ref h0, .ref b1, .ref b2, .ref b3, .int (nI lim), .int (nI kc), .int (nI nr), .int (nI nf), .int (nI nc)])), (b1, .inl (g1, 400, .inl mr)), (b2, .inl (g2, 400, .inl ch)), (b3, .inl (g3, 64, .inl kp)), (r0, .inr (2, [.ref h0, .ref d1, .ref d2, .int (nI fc)])), (d1, .inl (e1, 400, .inl fd)), (d2, .inl (e2, 400, .inl od)), (h0, .inr (0, [.ref a1, .ref a2, .ref a3, .int (nI N), .int fa])), (a1, .inl (k1, 400, .inl (pm_nf9 cn))), (a2, .inl (k2, 8000, .inl fl)), (a3, .inl (k3, 16, .inl rt))] sz) := by
  refine vx_ofW (cc := cX3_make) (maxL := 2) (ret := (some .int)) (by decide) rfl ?_
  intro p e s m args below meth c s₁ B hml hEx hv
  obtain ⟨rfl, hsz, hP, hK, hD0, hX⟩ := hv
  have hx := B.exec
  have hb := B.bytes
  have hr := B.returns
  have hts : ∀ w ∈ gw, w.before _ s = true := fun w h => atoms_spec (ws := wsX3_make) B.pre w (List.mem_cons_of_mem _ h)
  have hown : s.vm.findClass RX3 = some m.cls := findClass_of_methodNamed B.named
  have hlocks := B.notSynchronized
  subst hsz
  have hD := hD0.self (sz := s.heap.size)
  generalize hAe : va_A [(x0, .inr (3, [.ref h0, .ref m0, .ref r0, .int (pm_b iC), .int (pm_b tc), .int (pm_b lq), .int (nI fn), .int (nI qn)])), (m0, .inr (1, [.ref h0, .ref b1, .ref b2, .ref b3, .int (nI lim), .int (nI kc), .int (nI nr), .int (nI nf), .int (nI nc)])), (b1, .inl (g1, 400, .inl mr)), (b2, .inl (g2, 400, .inl ch)), (b3, .inl (g3, 64, .inl kp)), (r0, .inr (2, [.ref h0, .ref d1, .ref d2, .int (nI fc)])), (d1, .inl (e1, 400, .inl fd)), (d2, .inl (e2, 400, .inl od)), (h0, .inr (0, [.ref a1, .ref a2, .ref a3, .int (nI N), .int fa])), (a1, .inl (k1, 400, .inl (pm_nf9 cn))), (a2, .inl (k2, 8000, .inl fl)), (a3, .inl (k3, 16, .inl rt))] s.heap.size = A at hD hX ⊢
  have hA : ∀ q : Nat, s.heap.size ≤ q → A q := fun q h => by rw [← hAe]; exact Or.inr h
  have hP : va_P (dC, dI) vwCl [(x0, .inr (3, [.ref h0, .ref m0, .ref r0, .int (pm_b iC), .int (pm_b tc), .int (pm_b lq), .int (nI fn), .int (nI qn)])), (m0, .inr (1, [.ref h0, .ref b1, .ref b2, .ref b3, .int (nI lim), .int (nI kc), .int (nI nr), .int (nI nf), .int (nI nc)])), (b1, .inl (g1, 400, .inl mr)), (b2, .inl (g2, 400, .inl ch)), (b3, .inl (g3, 64, .inl kp)), (r0, .inr (2, [.ref h0, .ref d1, .ref d2, .int (nI fc)])), (d1, .inl (e1, 400, .inl fd)), (d2, .inl (e2, 400, .inl od)), (h0, .inr (0, [.ref a1, .ref a2, .ref a3, .int (nI N), .int fa])), (a1, .inl (k1, 400, .inl (pm_nf9 cn))), (a2, .inl (k2, 8000, .inl fl)), (a3, .inl (k3, 16, .inl rt))] s.heap := hP
  have hl := lv_entry ([.ref x0, .int p0]) (n := 2) (Nat.le_of_ble_eq_true rfl)
  rw [lg_entry_eq]
  generalize (lg_sl ([.ref x0, .int p0]) ++ List.replicate (2 - (lg_sl ([.ref x0, .int p0])).length) Slot.unset).toArray = ls at hl ⊢
  have hl : lv_has ls 2 [(0, .ref x0), (1, .int p0)] := hl
  obtain ⟨H, hH⟩ : ∃ H : Heap, H = s.heap := ⟨_, rfl⟩
  rw [← hH]
  rw [← hH] at hP
  have hS : va_S A s.heap H [] := by rw [hH]; exact va_S.rf
  clear hH
  have hN := hO.1
  have hc := hO.2.1
  refine lv_iload_n hx hb dX3_make_0 rfl (lv_at hl 1 rfl) ?_
  refine lv_if_lt (tgt := 10) hx hb dX3_make_1 (by decide) (fun c_1 => ?_) (fun c_1 => ?_)
  · obtain ⟨sa, hstr⟩ := hX.2.1 (51, "fields is not 0 .. 20") (by decide +kernel)
    exact vx_throwS (own := RX3) (cls := "java/lang/IllegalArgumentException") (names := ["java/lang/RuntimeException", "java/lang/Exception"]) (A := A) hx hb hl9 hown (by decide) (by decide) (hts _ mk_X3_49) (hts _ mn_IllegalArgumentException) hstr (xz_a53 hts hX.1) xz_o53 hX.2.2.1 hX.2.2.2 hS (by rw [hml]; exact hl.1) dX3_make_10 dX3_make_13 dX3_make_14 dX3_make_16 dX3_make_19 (fun x h => (hEx x h).elim) (Nat.le_of_ble_eq_true rfl) (Nat.le_of_ble_eq_true rfl) (Nat.le_of_ble_eq_true rfl) (Nat.le_of_ble_eq_true rfl) hlocks (fun t hvm hz hk => ⟨(), trivial, ⟨Or.inl ⟨rfl, pm_rng_f1 (pm_lt0 c_1)⟩, xz_keep hP hk, va_K.moved hvm hK, hD⟩, xz_F hS hz hk⟩) hS.2.2 (Nat.le_of_ble_eq_true rfl) (Nat.le_of_ble_eq_true rfl)
  · refine lv_iload_n hx hb dX3_make_4 rfl (lv_at hl 1 rfl) ?_
    refine lv_bipush (v := nI 20) hx hb dX3_make_5 (by decide +kernel) ?_
    refine lv_icmp_le (tgt := 20) hx hb dX3_make_7 (by decide) (fun c_7 => ?_) (fun c_7 => ?_)
    · refine lv_aload_n hx hb dX3_make_20 rfl (lv_at hl 0 rfl) ?_
      refine va_get (D := (dC, dI)) (ci := 3) (v := .ref h0) (C := RX3) (T := TX3) (N := 8) hx hb hts iw_X3 hown hK hP 0 rfl rfl 0 (by decide) (hts _ mf_X3_10) (fun _ h9 => h9) rfl dX3_make_21 ?_
      have hPc := hP.sub (ws' := [(h0, .inr (0, [.ref a1, .ref a2, .ref a3, .int (nI N), .int fa])), (a1, .inl (k1, 400, .inl (pm_nf9 cn))), (a2, .inl (k2, 8000, .inl fl)), (a3, .inl (k3, 16, .inl rt))]) [8, 9, 10, 11] rfl
      have hDc := hD.sub (ws' := [(h0, .inr (0, [.ref a1, .ref a2, .ref a3, .int (nI N), .int fa])), (a1, .inl (k1, 400, .inl (pm_nf9 cn))), (a2, .inl (k2, 8000, .inl fl)), (a3, .inl (k3, 16, .inl rt))]) [8, 9, 10, 11] (by decide) rfl
      have hKc := hK.sub (tys' := [(k1, .int), (k2, .int), (k3, .int)]) [5, 6, 7] rfl
      have hFc := va_free (wc := [(h0, .inr (0, [.ref a1, .ref a2, .ref a3, .int (nI N), .int fa])), (a1, .inl (k1, 400, .inl (pm_nf9 cn))), (a2, .inl (k2, 8000, .inl fl)), (a3, .inl (k3, 16, .inl rt))]) hD hS hA [8, 9, 10, 11] rfl
      refine va_calli (va_runV (As := []) (rest := []) ⟨hx, hb, hml, hown, hts⟩ (c_H_isFull l dC dI h0 a1 a2 a3 k1 k2 k3 N cn fl rt fa H.size (hN)) (cwV 0 hts (gw_V ml_X3_56 mi_X0_isFull ms_X0_isFull mn_X0 mc_X0_isFull) rfl rfl rfl (by decide +kernel) ⟨Nat.le_of_ble_eq_true rfl, Nat.le_of_ble_eq_true rfl⟩) ⟨fun a U g mk q => by obtain ⟨q0, q1, qP, qK, qD⟩ := q; exact ⟨q0, q1, qP, va_K.moved (u := U) (U := U.calling g mk a) (Vm.Alike.refl U.vm) qK, qD⟩, va_recv hKc hPc (ci := 0) (q0 := 0) rfl rfl, fun U hU hW => ⟨rfl, by rw [hU], by rw [hU]; exact hPc, va_K.moved hW.alike hKc, hDc.weaken (fun _ _ _ _ => trivial)⟩⟩ rfl rfl hl.1 rfl (lv_room (Nat.le_of_ble_eq_true rfl)) dX3_make_24 ⟨Nat.le_of_ble_eq_true rfl, Nat.le_of_ble_eq_true rfl⟩) hS (fun q _ h => hFc q h) hFc (fun r_1 u t H1 locs ht hvm hw hB hz1 hk1 hS => ?_)
      obtain ⟨hP1, hK1, hD1⟩ := hB
      rw [ht] at hP1
      have hK1 := va_K.moved hvm.symm hK1
      obtain ⟨hP, hD⟩ := va_join (wr := [(x0, .inr (3, [.ref h0, .ref m0, .ref r0, .int (pm_b iC), .int (pm_b tc), .int (pm_b lq), .int (nI fn), .int (nI qn)])), (m0, .inr (1, [.ref h0, .ref b1, .ref b2, .ref b3, .int (nI lim), .int (nI kc), .int (nI nr), .int (nI nf), .int (nI nc)])), (b1, .inl (g1, 400, .inl mr)), (b2, .inl (g2, 400, .inl ch)), (b3, .inl (g3, 64, .inl kp)), (r0, .inr (2, [.ref h0, .ref d1, .ref d2, .int (nI fc)])), (d1, .inl (e1, 400, .inl fd)), (d2, .inl (e2, 400, .inl od))]) (w1 := [(h0, .inr (0, [.ref a1, .ref a2, .ref a3, .int (nI N), .int fa])), (a1, .inl (k1, 400, .inl (pm_nf9 cn))), (a2, .inl (k2, 8000, .inl fl)), (a3, .inl (k3, 16, .inl rt))]) hP hD [8, 9, 10, 11] [0, 1, 2, 3, 4, 5, 6, 7] rfl rfl (by decide) (by decide) hk1 hFc hP1 hD1
      clear hPc hDc hKc hFc hP1 hK1 hD1
      generalize H1 = H at hP hS ⊢
      have hP : va_P (dC, dI) vwCl [(x0, .inr (3, [.ref h0, .ref m0, .ref r0, .int (pm_b iC), .int (pm_b tc), .int (pm_b lq), .int (nI fn), .int (nI qn)])), (m0, .inr (1, [.ref h0, .ref b1, .ref b2, .ref b3, .int (nI lim), .int (nI kc), .int (nI nr), .int (nI nf), .int (nI nc)])), (b1, .inl (g1, 400, .inl mr)), (b2, .inl (g2, 400, .inl ch)), (b3, .inl (g3, 64, .inl kp)), (r0, .inr (2, [.ref h0, .ref d1, .ref d2, .int (nI fc)])), (d1, .inl (e1, 400, .inl fd)), (d2, .inl (e2, 400, .inl od)), (h0, .inr (0, [.ref a1, .ref a2, .ref a3, .int (nI N), .int fa])), (a1, .inl (k1, 400, .inl (pm_nf9 cn))), (a2, .inl (k2, 8000, .inl fl)), (a3, .inl (k3, 16, .inl rt))] H := hP.sub [0, 1, 2, 3, 4, 5, 6, 7, 8, 9, 10, 11] rfl
      have hD : va_D A [(x0, .inr (3, [.ref h0, .ref m0, .ref r0, .int (pm_b iC), .int (pm_b tc), .int (pm_b lq), .int (nI fn), .int (nI qn)])), (m0, .inr (1, [.ref h0, .ref b1, .ref b2, .ref b3, .int (nI lim), .int (nI kc), .int (nI nr), .int (nI nf), .int (nI nc)])), (b1, .inl (g1, 400, .inl mr)), (b2, .inl (g2, 400, .inl ch)), (b3, .inl (g3, 64, .inl kp)), (r0, .inr (2, [.ref h0, .ref d1, .ref d2, .int (nI fc)])), (d1, .inl (e1, 400, .inl fd)), (d2, .inl (e2, 400, .inl od)), (h0, .inr (0, [.ref a1, .ref a2, .ref a3, .int (nI N), .int fa])), (a1, .inl (k1, 400, .inl (pm_nf9 cn))), (a2, .inl (k2, 8000, .inl fl)), (a3, .inl (k3, 16, .inl rt))] := hD.sub [0, 1, 2, 3, 4, 5, 6, 7, 8, 9, 10, 11] (by decide) rfl
      rcases pm_tf (decide (400 ≤ N)) with hh_24 | hh_24
      · obtain rfl : r_1 = nI 1 := hw.trans (by rw [hh_24]; rfl)
        have h4 : 400 ≤ N := of_decide_eq_true hh_24
        refine lv_if_eq (tgt := 40) hx hb dX3_make_27 (by decide) (fun c_27 => absurd c_27 (by decide +kernel)) (fun c_27 => ?_)
        obtain ⟨sa, hstr⟩ := hX.2.1 (62, "there are 400 objects") (by decide +kernel)
        exact vx_throwS (own := RX3) (cls := "java/lang/IllegalStateException") (names := ["java/lang/RuntimeException", "java/lang/Exception"]) (A := A) hx hb hl9 hown (by decide) (by decide) (hts _ mk_X3_60) (hts _ mn_IllegalStateException) hstr (xz_a64 hts hX.1) xz_o64 hX.2.2.1 hX.2.2.2 hS (by rw [hml]; exact hl.1) dX3_make_30 dX3_make_33 dX3_make_34 dX3_make_36 dX3_make_39 (fun x h => (hEx x h).elim) (Nat.le_of_ble_eq_true rfl) (Nat.le_of_ble_eq_true rfl) (Nat.le_of_ble_eq_true rfl) (Nat.le_of_ble_eq_true rfl) hlocks (fun t hvm hz hk => ⟨(), trivial, ⟨Or.inr ⟨rfl, pm_rng_t (pm_ge0 c_1) c_7, h4⟩, xz_keep hP hk, va_K.moved hvm hK, hD⟩, xz_F hS hz hk⟩) hS.2.2 (Nat.le_of_ble_eq_true rfl) (Nat.le_of_ble_eq_true rfl)
      · obtain rfl : r_1 = nI 0 := hw.trans (by rw [hh_24]; rfl)
        have h4 : ¬ 400 ≤ N := of_decide_eq_false hh_24
        have hg := pm_rng_t (pm_ge0 c_1) c_7
        obtain ⟨F, -, hF, rfl⟩ := pm_rng_of (by omega) (by omega) hg
        refine lv_if_eq (tgt := 40) hx hb dX3_make_27 (by decide) (fun c_27 => ?_) (fun c_27 => absurd c_27 (by decide +kernel))
        refine lv_aload_n hx hb dX3_make_40 rfl (lv_at hl 0 rfl) ?_
        refine lv_iconst (v := nI 1) hx hb dX3_make_41 (by decide +kernel) ?_
        refine va_put (D := (dC, dI)) (ci := 3) (v := .int (nI 1)) (ty := .boolean) (C := RX3) (T := TX3) (N := 8) hx hb hts iw_X3 tyX3 tyX3_ok nmX3 hown hK hP hD hS 0 rfl rfl 4 (by decide) (hts _ mf_X3_36) (fun _ h9 => h9) rfl (by decide +kernel) (rfl) (rfl) (Nat.le_of_ble_eq_true rfl) dX3_make_42 (fun H locs hP hD hS => ?_)
        have hP : va_P (dC, dI) vwCl [(x0, .inr (3, [.ref h0, .ref m0, .ref r0, .int (pm_b iC), .int (nI 1), .int (pm_b lq), .int (nI fn), .int (nI qn)])), (m0, .inr (1, [.ref h0, .ref b1, .ref b2, .ref b3, .int (nI lim), .int (nI kc), .int (nI nr), .int (nI nf), .int (nI nc)])), (b1, .inl (g1, 400, .inl mr)), (b2, .inl (g2, 400, .inl ch)), (b3, .inl (g3, 64, .inl kp)), (r0, .inr (2, [.ref h0, .ref d1, .ref d2, .int (nI fc)])), (d1, .inl (e1, 400, .inl fd)), (d2, .inl (e2, 400, .inl od)), (h0, .inr (0, [.ref a1, .ref a2, .ref a3, .int (nI N), .int fa])), (a1, .inl (k1, 400, .inl (pm_nf9 cn))), (a2, .inl (k2, 8000, .inl fl)), (a3, .inl (k3, 16, .inl rt))] H := hP
        have hD : va_D A [(x0, .inr (3, [.ref h0, .ref m0, .ref r0, .int (pm_b iC), .int (nI 1), .int (pm_b lq), .int (nI fn), .int (nI qn)])), (m0, .inr (1, [.ref h0, .ref b1, .ref b2, .ref b3, .int (nI lim), .int (nI kc), .int (nI nr), .int (nI nf), .int (nI nc)])), (b1, .inl (g1, 400, .inl mr)), (b2, .inl (g2, 400, .inl ch)), (b3, .inl (g3, 64, .inl kp)), (r0, .inr (2, [.ref h0, .ref d1, .ref d2, .int (nI fc)])), (d1, .inl (e1, 400, .inl fd)), (d2, .inl (e2, 400, .inl od)), (h0, .inr (0, [.ref a1, .ref a2, .ref a3, .int (nI N), .int fa])), (a1, .inl (k1, 400, .inl (pm_nf9 cn))), (a2, .inl (k2, 8000, .inl fl)), (a3, .inl (k3, 16, .inl rt))] := hD
        refine lv_aload_n hx hb dX3_make_45 rfl (lv_at hl 0 rfl) ?_
        refine va_get (D := (dC, dI)) (ci := 3) (v := .ref h0) (C := RX3) (T := TX3) (N := 8) hx hb hts iw_X3 hown hK hP 0 rfl rfl 0 (by decide) (hts _ mf_X3_10) (fun _ h9 => h9) rfl dX3_make_46 ?_
        refine lv_iload_n hx hb dX3_make_49 rfl (lv_at hl 1 rfl) ?_
        have hPc := hP.sub (ws' := [(h0, .inr (0, [.ref a1, .ref a2, .ref a3, .int (nI N), .int fa])), (a1, .inl (k1, 400, .inl (pm_nf9 cn))), (a2, .inl (k2, 8000, .inl fl)), (a3, .inl (k3, 16, .inl rt))]) [8, 9, 10, 11] rfl
        have hDc := hD.sub (ws' := [(h0, .inr (0, [.ref a1, .ref a2, .ref a3, .int (nI N), .int fa])), (a1, .inl (k1, 400, .inl (pm_nf9 cn))), (a2, .inl (k2, 8000, .inl fl)), (a3, .inl (k3, 16, .inl rt))]) [8, 9, 10, 11] (by decide) rfl
        have hKc := hK.sub (tys' := [(k1, .int), (k2, .int), (k3, .int)]) [5, 6, 7] rfl
        have hFc := va_free (wc := [(h0, .inr (0, [.ref a1, .ref a2, .ref a3, .int (nI N), .int fa])), (a1, .inl (k1, 400, .inl (pm_nf9 cn))), (a2, .inl (k2, 8000, .inl fl)), (a3, .inl (k3, 16, .inl rt))]) hD hS hA [8, 9, 10, 11] rfl
        refine va_calli (va_runV (As := [.int (nI F)]) (rest := []) ⟨hx, hb, hml, hown, hts⟩ (c_H_addObject l dC dI h0 a1 a2 a3 k1 k2 k3 N cn fl rt fa F H.size (by omega) (hF)) (cwV 1 hts (gw_V ml_X3_65 mi_X0_addObject ms_X0_addObject mn_X0 mc_X0_addObject) rfl rfl rfl (by decide +kernel) ⟨Nat.le_of_ble_eq_true rfl, Nat.le_of_ble_eq_true rfl⟩) ⟨fun a U g mk q => by obtain ⟨q0, q1, qP, qK, qD⟩ := q; exact ⟨q0, q1, qP, va_K.moved (u := U) (U := U.calling g mk a) (Vm.Alike.refl U.vm) qK, qD⟩, va_recv hKc hPc (ci := 0) (q0 := 0) rfl rfl, fun U hU hW => ⟨rfl, by rw [hU], by rw [hU]; exact hPc, va_K.moved hW.alike hKc, hDc.weaken (fun _ _ _ _ => trivial)⟩⟩ rfl rfl hl.1 rfl (lv_room (Nat.le_of_ble_eq_true rfl)) dX3_make_50 ⟨Nat.le_of_ble_eq_true rfl, Nat.le_of_ble_eq_true rfl⟩) hS (fun q _ h => hFc q h) hFc (fun r_2 u t H1 locs ht hvm hw hB hz1 hk1 hS => ?_)
        obtain ⟨hP1, hK1, hD1⟩ := hB
        rw [ht] at hP1
        have hK1 := va_K.moved hvm.symm hK1
        obtain ⟨hP, hD⟩ := va_join (wr := [(x0, .inr (3, [.ref h0, .ref m0, .ref r0, .int (pm_b iC), .int (nI 1), .int (pm_b lq), .int (nI fn), .int (nI qn)])), (m0, .inr (1, [.ref h0, .ref b1, .ref b2, .ref b3, .int (nI lim), .int (nI kc), .int (nI nr), .int (nI nf), .int (nI nc)])), (b1, .inl (g1, 400, .inl mr)), (b2, .inl (g2, 400, .inl ch)), (b3, .inl (g3, 64, .inl kp)), (r0, .inr (2, [.ref h0, .ref d1, .ref d2, .int (nI fc)])), (d1, .inl (e1, 400, .inl fd)), (d2, .inl (e2, 400, .inl od))]) (w1 := [(h0, .inr (0, [.ref a1, .ref a2, .ref a3, .int (nI ((N + 1))), .int (fa + nI F)])), (a1, .inl (k1, 400, .inl (pm_nf9 ((pm_un cn N F))))), (a2, .inl (k2, 8000, .inl (pm_fill fl (N * 20) F))), (a3, .inl (k3, 16, .inl rt))]) hP hD [8, 9, 10, 11] [0, 1, 2, 3, 4, 5, 6, 7] rfl rfl (by decide) (by decide) hk1 hFc hP1 hD1
        clear hPc hDc hKc hFc hP1 hK1 hD1
        generalize H1 = H at hP hS ⊢
        have hP : va_P (dC, dI) vwCl [(x0, .inr (3, [.ref h0, .ref m0, .ref r0, .int (pm_b iC), .int (nI 1), .int (pm_b lq), .int (nI fn), .int (nI qn)])), (m0, .inr (1, [.ref h0, .ref b1, .ref b2, .ref b3, .int (nI lim), .int (nI kc), .int (nI nr), .int (nI nf), .int (nI nc)])), (b1, .inl (g1, 400, .inl mr)), (b2, .inl (g2, 400, .inl ch)), (b3, .inl (g3, 64, .inl kp)), (r0, .inr (2, [.ref h0, .ref d1, .ref d2, .int (nI fc)])), (d1, .inl (e1, 400, .inl fd)), (d2, .inl (e2, 400, .inl od)), (h0, .inr (0, [.ref a1, .ref a2, .ref a3, .int (nI ((N + 1))), .int (fa + nI F)])), (a1, .inl (k1, 400, .inl (pm_nf9 ((pm_un cn N F))))), (a2, .inl (k2, 8000, .inl (pm_fill fl (N * 20) F))), (a3, .inl (k3, 16, .inl rt))] H := hP.sub [0, 1, 2, 3, 4, 5, 6, 7, 8, 9, 10, 11] rfl
        have hD : va_D A [(x0, .inr (3, [.ref h0, .ref m0, .ref r0, .int (pm_b iC), .int (nI 1), .int (pm_b lq), .int (nI fn), .int (nI qn)])), (m0, .inr (1, [.ref h0, .ref b1, .ref b2, .ref b3, .int (nI lim), .int (nI kc), .int (nI nr), .int (nI nf), .int (nI nc)])), (b1, .inl (g1, 400, .inl mr)), (b2, .inl (g2, 400, .inl ch)), (b3, .inl (g3, 64, .inl kp)), (r0, .inr (2, [.ref h0, .ref d1, .ref d2, .int (nI fc)])), (d1, .inl (e1, 400, .inl fd)), (d2, .inl (e2, 400, .inl od)), (h0, .inr (0, [.ref a1, .ref a2, .ref a3, .int (nI ((N + 1))), .int (fa + nI F)])), (a1, .inl (k1, 400, .inl (pm_nf9 ((pm_un cn N F))))), (a2, .inl (k2, 8000, .inl (pm_fill fl (N * 20) F))), (a3, .inl (k3, 16, .inl rt))] := hD.sub [0, 1, 2, 3, 4, 5, 6, 7, 8, 9, 10, 11] (by decide) rfl
        refine vx_ret ?_
        refine W.widen (k := 1) (n := 6) (by omega) (by omega) ?_
        exact W.iret (v := r_2) hx hb hr (fun t ht hW => ⟨⟨r_2, F, rfl, ⟨hF, rfl, by omega, hw⟩, by rw [ht]; exact hP, va_K.moved hW.alike hK, hD⟩, hS.F ht⟩) hS.2.2 dX3_make_53
    · obtain ⟨sa, hstr⟩ := hX.2.1 (51, "fields is not 0 .. 20") (by decide +kernel)
      exact vx_throwS (own := RX3) (cls := "java/lang/IllegalArgumentException") (names := ["java/lang/RuntimeException", "java/lang/Exception"]) (A := A) hx hb hl9 hown (by decide) (by decide) (hts _ mk_X3_49) (hts _ mn_IllegalArgumentException) hstr (xz_a53 hts hX.1) xz_o53 hX.2.2.1 hX.2.2.2 hS (by rw [hml]; exact hl.1) dX3_make_10 dX3_make_13 dX3_make_14 dX3_make_16 dX3_make_19 (fun x h => (hEx x h).elim) (Nat.le_of_ble_eq_true rfl) (Nat.le_of_ble_eq_true rfl) (Nat.le_of_ble_eq_true rfl) (Nat.le_of_ble_eq_true rfl) hlocks (fun t hvm hz hk => ⟨(), trivial, ⟨Or.inl ⟨rfl, pm_rng_f2 c_7⟩, xz_keep hP hk, va_K.moved hvm hK, hD⟩, xz_F hS hz hk⟩) hS.2.2 (Nat.le_of_ble_eq_true rfl) (Nat.le_of_ble_eq_true rfl)
end
