section
/-! the whole library is named here, so that the rounds read it from the first part on -/
theorem wide_0 : FP.Core.Good FP.Core.b64 := FP.Core.good_b64
end
section
-- ===== PART A: goes FIRST, ahead of the names: the tables' words, and 'selects' of the private methods out of them =====
/-- a private method of a class that the tables say can be made, by its rows of tables_1 -/
def lw_okq (q : MethodName × Nat) : Prop := (q.1.cls ≠ "java/lang/invoke/MethodHandle" ∧ q.1.cls ≠ "java/lang/invoke/VarHandle") ∧ Cond.instantiable q.1.cls q.2 ∈ tables_1 ∧ Cond.privateMethod q.1 ∈ tables_1 ∧ Cond.instanceMethod q.1 ∈ tables_1
theorem lw_p0 : lw_okq (⟨"java/lang/Throwable", "fillInStackTrace", "(I)Ljava/lang/Throwable;"⟩, 6) := ⟨⟨by decide +kernel, by decide +kernel⟩, List.mem_of_getElem? (i := 304) (by decide +kernel), List.mem_of_getElem? (i := 302) (by decide +kernel), List.mem_of_getElem? (i := 303) (by decide +kernel)⟩
theorem lw_p1 : lw_okq (⟨"SlideMills$Packer", "packCheaply", "(LSlideMills$Sack;)V"⟩, 2) := ⟨⟨by decide +kernel, by decide +kernel⟩, List.mem_of_getElem? (i := 194) (by decide +kernel), List.mem_of_getElem? (i := 439) (by decide +kernel), List.mem_of_getElem? (i := 440) (by decide +kernel)⟩
theorem lw_p2 : lw_okq (⟨"SlideMills$Packer", "setCost", "(II)V"⟩, 2) := ⟨⟨by decide +kernel, by decide +kernel⟩, List.mem_of_getElem? (i := 194) (by decide +kernel), List.mem_of_getElem? (i := 447) (by decide +kernel), List.mem_of_getElem? (i := 448) (by decide +kernel)⟩
theorem lw_p3 : lw_okq (⟨"SlideMills$Packer", "costAt", "(I)I"⟩, 2) := ⟨⟨by decide +kernel, by decide +kernel⟩, List.mem_of_getElem? (i := 194) (by decide +kernel), List.mem_of_getElem? (i := 451) (by decide +kernel), List.mem_of_getElem? (i := 452) (by decide +kernel)⟩
theorem lw_p4 : lw_okq (⟨"SlideMills$Packer", "cheapestLength", "(I)I"⟩, 2) := ⟨⟨by decide +kernel, by decide +kernel⟩, List.mem_of_getElem? (i := 194) (by decide +kernel), List.mem_of_getElem? (i := 467) (by decide +kernel), List.mem_of_getElem? (i := 468) (by decide +kernel)⟩
theorem lw_p5 : lw_okq (⟨"SlideMills$Packer", "putTokenAt", "(IILSlideMills$Sack;)I"⟩, 2) := ⟨⟨by decide +kernel, by decide +kernel⟩, List.mem_of_getElem? (i := 194) (by decide +kernel), List.mem_of_getElem? (i := 471) (by decide +kernel), List.mem_of_getElem? (i := 472) (by decide +kernel)⟩
theorem lw_p6 : lw_okq (⟨"SlideMills$Packer", "packByLongest", "(LSlideMills$Sack;Z)V"⟩, 2) := ⟨⟨by decide +kernel, by decide +kernel⟩, List.mem_of_getElem? (i := 194) (by decide +kernel), List.mem_of_getElem? (i := 484) (by decide +kernel), List.mem_of_getElem? (i := 485) (by decide +kernel)⟩
theorem lw_p7 : lw_okq (⟨"SlideMills$Unpacking", "whyWrong", "(II)I"⟩, 3) := ⟨⟨by decide +kernel, by decide +kernel⟩, List.mem_of_getElem? (i := 209) (by decide +kernel), List.mem_of_getElem? (i := 602) (by decide +kernel), List.mem_of_getElem? (i := 603) (by decide +kernel)⟩
theorem lw_p8 : lw_okq (⟨"SlideMills$Unpacking", "unpackToken", "(LSlideMills$Sack;I)V"⟩, 3) := ⟨⟨by decide +kernel, by decide +kernel⟩, List.mem_of_getElem? (i := 209) (by decide +kernel), List.mem_of_getElem? (i := 606) (by decide +kernel), List.mem_of_getElem? (i := 607) (by decide +kernel)⟩
theorem lw_p9 : lw_okq (⟨"SlideMills$Dictionary", "note", "(II)V"⟩, 3) := ⟨⟨by decide +kernel, by decide +kernel⟩, List.mem_of_getElem? (i := 165) (by decide +kernel), List.mem_of_getElem? (i := 654) (by decide +kernel), List.mem_of_getElem? (i := 655) (by decide +kernel)⟩
theorem lw_p10 : lw_okq (⟨"SlideMills$Packer", "lower", "(II)V"⟩, 2) := ⟨⟨by decide +kernel, by decide +kernel⟩, List.mem_of_getElem? (i := 194) (by decide +kernel), List.mem_of_getElem? (i := 737) (by decide +kernel), List.mem_of_getElem? (i := 738) (by decide +kernel)⟩
def lw_privs_1 : List (MethodName × Nat) := [(⟨"java/lang/Throwable", "fillInStackTrace", "(I)Ljava/lang/Throwable;"⟩, 6), (⟨"SlideMills$Packer", "packCheaply", "(LSlideMills$Sack;)V"⟩, 2), (⟨"SlideMills$Packer", "setCost", "(II)V"⟩, 2), (⟨"SlideMills$Packer", "costAt", "(I)I"⟩, 2), (⟨"SlideMills$Packer", "cheapestLength", "(I)I"⟩, 2), (⟨"SlideMills$Packer", "putTokenAt", "(IILSlideMills$Sack;)I"⟩, 2), (⟨"SlideMills$Packer", "packByLongest", "(LSlideMills$Sack;Z)V"⟩, 2), (⟨"SlideMills$Unpacking", "whyWrong", "(II)I"⟩, 3), (⟨"SlideMills$Unpacking", "unpackToken", "(LSlideMills$Sack;I)V"⟩, 3), (⟨"SlideMills$Dictionary", "note", "(II)V"⟩, 3), (⟨"SlideMills$Packer", "lower", "(II)V"⟩, 2)]
theorem lw_r1 : ∀ q ∈ lw_privs_1, lw_okq q := List.forall_mem_cons.mpr ⟨lw_p0, List.forall_mem_cons.mpr ⟨lw_p1, List.forall_mem_cons.mpr ⟨lw_p2, List.forall_mem_cons.mpr ⟨lw_p3, List.forall_mem_cons.mpr ⟨lw_p4, List.forall_mem_cons.mpr ⟨lw_p5, List.forall_mem_cons.mpr ⟨lw_p6, List.forall_mem_cons.mpr ⟨lw_p7, List.forall_mem_cons.mpr ⟨lw_p8, List.forall_mem_cons.mpr ⟨lw_p9, List.forall_mem_cons.mpr ⟨lw_p10, fun _ h => absurd h List.not_mem_nil⟩⟩⟩⟩⟩⟩⟩⟩⟩⟩⟩
def lw_privs : List (MethodName × Nat) := lw_privs_1
def lw_tbl : List Cond := k2_sels lw_privs ++ tables_1
theorem lw_privs_ok : ∀ q ∈ lw_privs, lw_okq q := lw_r1
/-- the streams that the claim lets the run draw from -/
abbrev lw_cs : List Choice := [Jvm.Choice.named "NaN.bits"]
theorem lw_bits : nanBits ∈ lw_cs := by first | decide | exact List.mem_cons_self | simp [lw_cs, nanBits]
-- ===== end of PART A; then your names; then what follows =====
/-! ===== BEGIN words of one list among another's, by their places ===== -/
theorem goodIn_r {big : List Cond} (ws : List Cond) (ps : List Nat) (hp : ws = ps.filterMap (fun i => big[i]?)) (h : ws.all goodWord = true) : GoodIn big ws := by
  intro w hw
  have h1 := List.all_eq_true.mp h w hw
  rw [hp] at hw
  obtain ⟨i, -, hi⟩ := List.mem_filterMap.mp hw
  have hm : w ∈ big := by first | exact List.mem_of_getElem? hi | exact List.getElem?_mem hi
  exact ⟨hm, good_of_word h1⟩
theorem goodIn_app {big a b : List Cond} (ha : GoodIn big a) (hb : GoodIn big b) : GoodIn big (a ++ b) := fun w h => (List.mem_append.mp h).elim (ha w) (hb w)
theorem goodIn_ca {big a b : List Cond} {c : Cond} (ha : GoodIn big (c :: a)) (hb : GoodIn big b) : GoodIn big (c :: (a ++ b)) := fun w h => (List.mem_cons.mp h).elim (fun e => ha w (List.mem_cons.mpr (Or.inl e))) (fun h => (List.mem_append.mp h).elim (fun h => ha w (List.mem_cons.mpr (Or.inr h))) (hb w))
theorem goodIn_sub {big ws : List Cond} (hm : ∀ w ∈ ws, w ∈ big) (h : ws.all goodWord = true) : GoodIn big ws := fun w hw => ⟨hm w hw, good_of_word (List.all_eq_true.mp h w hw)⟩
/-! ===== END ===== -/

/-! ===== BEGIN exceptions that leave a method, and their catching by the caller (launches without stack traces) ===== -/
section VXA
/-! The laws vx_back, vx_callV, vx_callS, vx_callSW, vx_throw0, vx_throwS follow proofs of the library, with one case more: JvmDerived/Free/Laws.lean (Back.of_free), Shelf42/LK1.lean (callV, callS), Shelf/KitTraced.lean (throwNew0V, throwNewS). -/
/-- where a method has thrown q: the class by its name, the cell, what was written, the world -/
def vx_T (XC : String → State → State → Prop) (st : State) (q : Addr) (t : State) (mc ms : Nat) (free : Addr → Prop) : Prop :=
  ∃ (E : String) (ce : Cell) (L : List Loc), XC E st t ∧ t.heap[q]? = some ce ∧ ce.vm = .none ∧ st.vm.findClass E = some ce.cls ∧ st.WarmedH t.vm ∧ st.sameButNew ({ t with vm := st.vm } : State) L mc ms ∧ ∀ z ∈ L, free z.base
def vx_Q (Qc : Array Value → State → Outcome → State → Prop) (XC : String → State → State → Prop) (mc ms : Nat) (free : Addr → Prop) : Array Value → State → Outcome → State → Prop := fun a st o t =>
  (Qc a st o t ∧ ∃ L, FrameEnd st o t L mc ms ∧ ∀ q ∈ L, free q.base) ∨ ∃ q, o = .threw q ∧ vx_T XC st q t mc ms free
/-- a callee that returns or throws -/
def vx_Met (l : Launch) (y : MethodName) (ws : List Cond) (rm : Room) (Pc : Array Value → State → Prop) (Qc : Array Value → State → Outcome → State → Prop) (XC : String → State → State → Prop) (mc ms : Nat) (free : Addr → Prop) : Prop :=
  MetFree l y (headSpec ws rm) Pc (fun _ _ _ _ _ => True) (vx_Q Qc XC mc ms free)
def vx_Post (XC : String → State → State → Prop) (mc ms : Nat) (free : Addr → Prop) : Pt → Array Value → Addr → Pt → Prop := fun A a q B =>
  ∃ (g : JFrame) (mk : MethodId) (t : State) (L : List Loc) (E : String) (ce : Cell), B.U.heap = t.heap ∧ B.U.vm = t.vm ∧ XC E (A.U.calling g mk a) t ∧ t.heap[q]? = some ce ∧ ce.vm = .none ∧ A.U.vm.findClass E = some ce.cls ∧ B.locs = A.locs ++ L ∧ (∀ z ∈ L, free z.base) ∧ B.cells = A.cells + mc ∧ B.slots = A.slots + ms
def vx_Back (l : Launch) (R : Room) (p : Program) (e : Env) (below : List Frame) (s : State) (sargs : Array Value) (y : MethodName) (len W9 : Nat)
    (Pre : Pt → Array Value → Prop) (Post : Pt → Array Value → Option Value → Pt → Prop) (PostX : Pt → Array Value → Addr → Pt → Prop) : Prop :=
  ∀ (m : MethodId) (meth : Method) (c : Code) (A : Pt) (g : JFrame) (ig : Instr) (mk : MethodId) (a : Array Value),
    Stand p l e R s m sargs below meth c A.U A.locs A.cells A.slots → g.method = m → g.locals.size = c.maxLocals → decode c.code g.pc = .ok (ig, len) →
    2 * g.monitorRoom + (g.stack.map fun v => v.category).sum ≤ W9 → A.U.methodNamed? y = some mk → Pre A a →
    (∃ (v : Option Value) (B : Pt), Stand p l e R s m sargs below meth c B.U B.locs B.cells B.slots ∧ Post A a v B ∧
      Steps p.tables e below (doInvoke e (A.U.setTop g) [] mk a).1 (B.U.setTop { g with pc := g.pc + len, stack := v.toList ++ g.stack })) ∨
    (∃ (q : Addr) (B : Pt), Stand p l e R s m sargs below meth c B.U B.locs B.cells B.slots ∧ PostX A a q B ∧
      Steps p.tables e below (doInvoke e (A.U.setTop g) [] mk a).1 ((B.U.setTop g).pushFrame (.throwing q)))
section Payer
variable {l : Launch} {R : Room} {p : Program} {e : Env} {below : List Frame} {s : State} {sargs : Array Value} {y : MethodName} {len W9 : Nat}
theorem vx_back {ws : List Cond} {rm : Room} {Pc : Array Value → State → Prop} {Qc : Array Value → State → Outcome → State → Prop} {XC : String → State → State → Prop} {mc ms : Nat} {free : Addr → Prop} {bytes : ByteArray} {maxL : Nat} {ret : Option FieldType}
    (hM : vx_Met l y ws rm Pc Qc XC mc ms free) (hblind : FrameBlind Pc) (hrc : rm.cells = mc) (hrs : rm.slots = ms)
    (hframes : rm.frames + 1 ≤ R.frames) (hlocals : W9 + (maxL + 11) + rm.locals ≤ R.locals)
    (hws : ∀ w ∈ ws, ∀ a' U, s.WarmedH U.vm → w.before a' U = true) (hcode : Cond.code y bytes maxL ret ∈ ws) (hinit : ∀ a' U, s.WarmedH U.vm → (Cond.initialized y.cls).before a' U = true) :
    vx_Back l R p e below s sargs y len W9 (PreOf R mc ms Pc) (PostOf Qc mc ms free) (vx_Post XC mc ms free) := by
  intro m meth c A g ig mk a X hg hsize hdg hW hn hp
  have h1 : (headSpec ws rm).pre.before a A.U = true := atoms_intro fun w hw => hws w hw _ _ X.warmed
  have h2 : (Cond.code y bytes maxL ret).before a A.U = true := hws _ hcode _ _ X.warmed
  have h3 : (Cond.initialized y.cls).before a A.U = true := hinit _ _ X.warmed
  have h4 : A.cells + (headSpec ws rm).room.cells ≤ R.cells := by rw [show (headSpec ws rm).room.cells = mc from hrc]; exact hp.1
  have h5 : A.slots + (headSpec ws rm).room.slots ≤ R.slots := by rw [show (headSpec ws rm).room.slots = ms from hrs]; exact hp.2.1
  have hPc : Pc a (A.U.calling g mk a) := hblind _ _ _ _ hp.2.2
  obtain ⟨U, Ls, c0, s0⟩ := A
  dsimp only [Pt.U, Pt.locs, Pt.cells, Pt.slots] at h1 h2 h3 h4 h5 X hn hPc ⊢
  obtain ⟨methY, cY, hmY, hcY, -, hlY, -, -, -, -⟩ := Cond.code_spec hn h2
  obtain ⟨kY, hkY, -⟩ := className_of_methodNamed hn
  have hinitY : kY.init = .initialized := Cond.initialized_spec (findClass_of_methodNamed hn) hkY h3
  have h : At U g.method c below := by rw [hg]; exact X.here
  have hlocals9 : W9 + (maxL + 11) + (headSpec ws rm).room.locals ≤ R.locals := hlocals
  have happ : (headSpec ws rm).appliesLoose y e.platform (U.calling g mk a) = true :=
    Spec.appliesLoose_calling (g := g) h hdg hn hkY hinitY
      (X.room_calling (g := g) (R' := (headSpec ws rm).room) hsize hmY hcY hframes (by rw [hlY]; omega) h4 h5) h1
  obtain ⟨mid, hmid⟩ := h.above
  have hfr : (U.setTop g).frames = (.java g :: mid) ++ below := by rw [State.frames_setTop' g h.top, hmid]; rfl
  obtain ⟨o, s₂, hsteps, -, hend, hq⟩ := Steps.callFree hM p X.admits X.cas X.clock (acts := []) hfr happ hPc trivial
  have hq' : vx_Q Qc XC mc ms free a (U.calling g mk a) o s₂ := hq
  rw [State.frames_setTop' g h.top] at hend
  obtain ⟨g₀, hg0⟩ := Option.isSome_iff_exists.mp h.top
  obtain ⟨r, hr⟩ := State.topJava?_eq_some.mp hg0
  have hr' : (({ U with heap := s₂.heap, slotsUsed := s₂.slotsUsed } : State).setVm s₂.vm).frames = .java g₀ :: r := hr
  rcases hq' with ⟨hqc, L, hfe, hL⟩ | ⟨q, rfl, E, ce, L, hx, hce, hcv, hcl, hW₂, hsm, hL⟩
  · obtain ⟨⟨v, rfl⟩, hW₂, e2, q2, q3, q4, q5, q6⟩ := id hfe
    have e3 : s₂ = ({ (U.calling g mk a).setFrames s₂.frames with heap := s₂.heap, slotsUsed := s₂.slotsUsed } : State).setVm s₂.vm := by
      have : s₂ = ({ s₂ with vm := (U.calling g mk a).vm } : State).setVm s₂.vm := rfl
      rw [e2] at this
      exact this
    obtain ⟨c₂, i₂, len₂, hc₂, hd₂, hf₂⟩ := hend
    have hW' : U.WarmedH s₂.vm := hW₂
    have hcc : c₂ = c := by
      have h1 : s₂.code? g.method = U.code? g.method := by
        rw [State.code?_eq, State.code?_eq, hW'.alike.method?]
      exact Option.some.inj (hc₂.symm.trans (h1.trans h.code))
    subst hcc
    have hlen : len₂ = len := by rw [hdg] at hd₂; cases hd₂; rfl
    subst hlen
    have hs₂ : s₂ = (({ U with heap := s₂.heap, slotsUsed := s₂.slotsUsed } : State).setVm s₂.vm).setTop { g with pc := g.pc + len₂, stack := v.toList ++ g.stack } := by
      refine e3.trans ?_
      rw [hf₂, State.calling_eq h.top, State.setFrames_setFrames, State.setTop_of_frames _ hr', hr]
      rfl
    have hsame : U.sameButNew ({ U with heap := s₂.heap, slotsUsed := s₂.slotsUsed } : State) L mc ms := by
      refine ⟨?_, q2, q3, q4, q5, q6⟩
      obtain ⟨t, ht, -⟩ := State.frames_cons hr
      show ({ U with heap := s₂.heap, slotsUsed := s₂.slotsUsed } : State) = { U.setFrames U.frames with heap := s₂.heap, slotsUsed := s₂.slotsUsed }
      rw [State.setFrames_self ht]
    subst hg
    refine Or.inl ⟨v, ⟨(({ U with heap := s₂.heap, slotsUsed := s₂.slotsUsed } : State).setVm s₂.vm), Ls ++ L, c0 + mc, s0 + ms⟩,
      ⟨X.admits, X.cas, X.clock, X.frames, X.room, X.hears, X.method, X.code, (X.here.setHeapUsed s₂.heap s₂.slotsUsed).setVm hW'.alike, X.tail, State.WarmedH.trans X.warmed hW', X.limits, X.bytes, X.same.trans (hsame.setVm s.vm)⟩,
      ⟨g, mk, s₂, L, rfl, rfl, hqc, rfl, hL, rfl, rfl⟩, ?_⟩
    show Steps p.tables e below _ ((({ U with heap := s₂.heap, slotsUsed := s₂.slotsUsed } : State).setVm s₂.vm).setTop { g with pc := g.pc + len₂, stack := v.toList ++ g.stack })
    rw [← hs₂]
    exact hsteps
  · obtain ⟨e2, q2, q3, q4, q5, q6⟩ := id hsm
    have e3 : s₂ = ({ (U.calling g mk a).setFrames s₂.frames with heap := s₂.heap, slotsUsed := s₂.slotsUsed } : State).setVm s₂.vm := by
      have : s₂ = ({ s₂ with vm := (U.calling g mk a).vm } : State).setVm s₂.vm := rfl
      rw [e2] at this
      exact this
    have hf₂ : s₂.frames = .throwing q :: .java g :: U.frames.tail := hend
    have hW' : U.WarmedH s₂.vm := hW₂
    have hs₂ : s₂ = ((({ U with heap := s₂.heap, slotsUsed := s₂.slotsUsed } : State).setVm s₂.vm).setTop g).pushFrame (.throwing q) := by
      refine e3.trans ?_
      rw [hf₂, State.calling_eq h.top, State.setFrames_setFrames, State.pushFrame, State.frames_setTop _ hr', State.setTop_of_frames _ hr', State.setFrames_setFrames, hr]
      rfl
    have hsame : U.sameButNew ({ U with heap := s₂.heap, slotsUsed := s₂.slotsUsed } : State) L mc ms := by
      refine ⟨?_, q2, q3, q4, q5, q6⟩
      obtain ⟨t, ht, -⟩ := State.frames_cons hr
      show ({ U with heap := s₂.heap, slotsUsed := s₂.slotsUsed } : State) = { U.setFrames U.frames with heap := s₂.heap, slotsUsed := s₂.slotsUsed }
      rw [State.setFrames_self ht]
    subst hg
    refine Or.inr ⟨q, ⟨(({ U with heap := s₂.heap, slotsUsed := s₂.slotsUsed } : State).setVm s₂.vm), Ls ++ L, c0 + mc, s0 + ms⟩,
      ⟨X.admits, X.cas, X.clock, X.frames, X.room, X.hears, X.method, X.code, (X.here.setHeapUsed s₂.heap s₂.slotsUsed).setVm hW'.alike, X.tail, State.WarmedH.trans X.warmed hW', X.limits, X.bytes, X.same.trans (hsame.setVm s.vm)⟩,
      ⟨g, mk, s₂, L, E, ce, rfl, rfl, hx, hce, hcv, hcl, rfl, hL, rfl, rfl⟩, ?_⟩
    show Steps p.tables e below _ (((({ U with heap := s₂.heap, slotsUsed := s₂.slotsUsed } : State).setVm s₂.vm).setTop g).pushFrame (.throwing q))
    rw [← hs₂]
    exact hsteps
end Payer
section Calls
variable {p : Program} {l : Launch} {e : Env} {R : Room} {s : State} {m : MethodId} {args : Array Value} {below : List Frame} {meth : Method} {c : Code} {T : State} {locs : List Loc} {cells slots : Nat}
theorem vx_callV (X : Stand p l e R s m args below meth c T locs cells slots) (hexec : p.tables.exec = Jvm.exec) {own C : String} {index : Nat} {y : MethodName} {bytes : ByteArray} {maxL : Nat} {ret : Option FieldType}
    (hown : s.vm.findClass own = some m.cls) (hlink : (Cond.methodLink own index y).before args s = true) (hinst : (Cond.instanceMethod y).before args s = true) (hsel : (Cond.selects C y y).before args s = true)
    (hcode : (Cond.code y bytes maxL ret).before args s = true) (hy : y.cls ≠ "java/lang/invoke/MethodHandle" ∧ y.cls ≠ "java/lang/invoke/VarHandle")
    {W9 : Nat} {Pre : Pt → Array Value → Prop} {Post : Pt → Array Value → Option Value → Pt → Prop} {PostX : Pt → Array Value → Addr → Pt → Prop} (hK : vx_Back l R p e below s args y 3 W9 Pre Post PostX)
    {b : Addr} {cellB : Cell} (hcell : T.heap[b]? = some cellB) (hobj : cellB.vm.isStatics = false) (hcls : s.vm.findClass C = some cellB.cls)
    {g : JFrame} (hg : g.method = m) (hsize : g.locals.size = c.maxLocals) {argsL rest : List Value} (hlen : ∀ sig, parseMethodDescriptor y.desc = some sig → argsL.length = sig.parameters.length)
    (hstack : g.stack = argsL.reverse ++ .ref b :: rest) (hW : 2 * g.monitorRoom + (rest.map fun v => v.category).sum ≤ W9) (hdg : decode c.code g.pc = .ok (.invokevirtual index, 3))
    (hpre : ∀ vm₁, s.WarmedH vm₁ → Pre ⟨T.setVm vm₁, locs, cells, slots⟩ (Value.ref b :: argsL).toArray) :
    (∃ (v : Option Value) (vm₁ : Vm) (B : Pt), s.WarmedH vm₁ ∧ Stand p l e R s m args below meth c B.U B.locs B.cells B.slots ∧ Post ⟨T.setVm vm₁, locs, cells, slots⟩ (Value.ref b :: argsL).toArray v B ∧
      ∀ target, Steps p.tables e below (B.U.setTop { g with pc := g.pc + 3, stack := v.toList ++ rest }) target → Steps p.tables e below (T.setTop g) target) ∨
    (∃ (q : Addr) (vm₁ : Vm) (B : Pt), s.WarmedH vm₁ ∧ Stand p l e R s m args below meth c B.U B.locs B.cells B.slots ∧ PostX ⟨T.setVm vm₁, locs, cells, slots⟩ (Value.ref b :: argsL).toArray q B ∧
      Steps p.tables e below (T.setTop g) ((B.U.setTop { g with stack := rest }).pushFrame (.throwing q))) := by
  obtain ⟨mk, methM, hnamed, hmethM, hstM, habM⟩ := Cond.instanceMethod_spec hinst
  obtain ⟨methM', cM, hmethM', -, -, -, -, -, -, hsigM⟩ := Cond.code_spec hnamed hcode
  cases hmethM.symm.trans hmethM'
  obtain ⟨c2, r2, m2, q1, q2, q3, q4, kP, hkP, hkPi⟩ := Cond.selects_spec hsel
  cases hcls.symm.trans q1
  cases (State.methodFound?_of_named hnamed hy).symm.trans q2
  cases hnamed.symm.trans q3
  have hselP : selectMethod e.platform s.vm cellB.cls mk = .method mk := by rw [Launch.admits_selectMethod X.admits]; exact q4
  obtain ⟨vm₁, X₁, hstep₁⟩ := X.invokevirtual hexec hown hlink hnamed hmethM hstM hkP hkPi hy (a := b) (cell := cellB) hcell
    (fun z h => by rw [h] at hobj; cases hobj) hselP hmethM habM hkP hkPi (g := g) hg (argsL := argsL) (rest := rest) (hlen _ hsigM) hstack hdg
  rcases hK m meth c ⟨T.setVm vm₁, locs, cells, slots⟩ { g with stack := rest } (.invokevirtual index) mk (Value.ref b :: argsL).toArray X₁ hg hsize hdg hW (X₁.named hnamed) (hpre vm₁ X₁.warmed) with ⟨v, B, X', hpost, hsteps⟩ | ⟨q, B, X', hpost, hsteps⟩
  · exact Or.inl ⟨v, vm₁, B, X₁.warmed, X', hpost, fun target h => hstep₁ _ fun acts => by rw [doInvoke_state]; exact hsteps.trans h⟩
  · exact Or.inr ⟨q, vm₁, B, X₁.warmed, X', hpost, hstep₁ _ fun acts => by rw [doInvoke_state]; exact hsteps⟩
theorem vx_callS (X : Stand p l e R s m args below meth c T locs cells slots) (hexec : p.tables.exec = Jvm.exec) {own : String} {index : Nat} {y : MethodName} {bytes : ByteArray} {maxL : Nat} {ret : Option FieldType}
    (hown : s.vm.findClass own = some m.cls) (hlink : (Cond.methodLink own index y).before args s = true) (hstat : (Cond.static y).before args s = true) (hinit : (Cond.initialized y.cls).before args s = true)
    (hcode : (Cond.code y bytes maxL ret).before args s = true) (hy : y.cls ≠ "java/lang/invoke/MethodHandle" ∧ y.cls ≠ "java/lang/invoke/VarHandle")
    {W9 : Nat} {Pre : Pt → Array Value → Prop} {Post : Pt → Array Value → Option Value → Pt → Prop} {PostX : Pt → Array Value → Addr → Pt → Prop} (hK : vx_Back l R p e below s args y 3 W9 Pre Post PostX)
    {g : JFrame} (hg : g.method = m) (hsize : g.locals.size = c.maxLocals) {argsL rest : List Value} (hlen : ∀ sig, parseMethodDescriptor y.desc = some sig → argsL.length = sig.parameters.length)
    (hstack : g.stack = argsL.reverse ++ rest) (hW : 2 * g.monitorRoom + (rest.map fun v => v.category).sum ≤ W9) (hdg : decode c.code g.pc = .ok (.invokestatic index, 3))
    (hpre : ∀ vm₁, s.WarmedH vm₁ → Pre ⟨T.setVm vm₁, locs, cells, slots⟩ argsL.toArray) :
    (∃ (v : Option Value) (vm₁ : Vm) (B : Pt), s.WarmedH vm₁ ∧ Stand p l e R s m args below meth c B.U B.locs B.cells B.slots ∧ Post ⟨T.setVm vm₁, locs, cells, slots⟩ argsL.toArray v B ∧
      ∀ target, Steps p.tables e below (B.U.setTop { g with pc := g.pc + 3, stack := v.toList ++ rest }) target → Steps p.tables e below (T.setTop g) target) ∨
    (∃ (q : Addr) (vm₁ : Vm) (B : Pt), s.WarmedH vm₁ ∧ Stand p l e R s m args below meth c B.U B.locs B.cells B.slots ∧ PostX ⟨T.setVm vm₁, locs, cells, slots⟩ argsL.toArray q B ∧
      Steps p.tables e below (T.setTop g) ((B.U.setTop { g with stack := rest }).pushFrame (.throwing q))) := by
  obtain ⟨mk, hnamed⟩ := Cond.code_named hcode
  obtain ⟨methM, cM, hmethM, -, -, -, -, -, -, hsigM⟩ := Cond.code_spec hnamed hcode
  have hstatic : methM.isStatic = true := Cond.static_spec hnamed hmethM hstat
  obtain ⟨kP, hkP, -⟩ := className_of_methodNamed hnamed
  have hinitP : kP.init = .initialized := Cond.initialized_spec (findClass_of_methodNamed hnamed) hkP hinit
  obtain ⟨vm₁, X₁, hstep₁⟩ := X.invokestatic hexec hown hlink hnamed hmethM hstatic hkP hinitP hy (g := g) hg (argsL := argsL) (rest := rest) (hlen _ hsigM) hstack hdg
  rcases hK m meth c ⟨T.setVm vm₁, locs, cells, slots⟩ { g with stack := rest } (.invokestatic index) mk argsL.toArray X₁ hg hsize hdg hW (X₁.named hnamed) (hpre vm₁ X₁.warmed) with ⟨v, B, X', hpost, hsteps⟩ | ⟨q, B, X', hpost, hsteps⟩
  · exact Or.inl ⟨v, vm₁, B, X₁.warmed, X', hpost, fun target h => hstep₁ _ fun acts => by rw [doInvoke_state]; exact hsteps.trans h⟩
  · exact Or.inr ⟨q, vm₁, B, X₁.warmed, X', hpost, hstep₁ _ fun acts => by rw [doInvoke_state]; exact hsteps⟩
end Calls
theorem vx_cls {s : State} {T : State} {vm₁ : Vm} {E : String} {k : ClassId} (hW : s.WarmedH vm₁) (h : (T.setVm vm₁).vm.findClass E = some k) : s.vm.findClass E = some k := by
  have h1 : vm₁.findClass E = some k := h
  rw [hW.alike.findClass] at h1
  exact h1
/-- the method's frame g, with q thrown over it -/
def vx_W (p : Program) (l : Launch) (e : Env) (R : Room) (s : State) (m : MethodId) (args : Array Value) (below : List Frame) (meth : Method) (c : Code) (H : Heap) (locs : List Loc) (cells slots : Nat) (Q : State → Prop) (g : JFrame) (q : Addr) : Prop :=
  ∀ T : State, T.heap = H → Stand p l e R s m args below meth c T locs cells slots → ∃ t, Steps p.tables e below ((T.setTop g).pushFrame (.throwing q)) t ∧ Q t
def vx_Run (p : Program) (l : Launch) (e : Env) (R : Room) (s : State) (m : MethodId) (args : Array Value) (below : List Frame) (meth : Method) (c : Code) (H : Heap) (locs : List Loc) (cells slots mc ms : Nat) (g : JFrame) (rest : List Value) (Qa : State → Outcome → State → Prop) (XC : String → State → State → Prop) (free : Addr → Prop) : Prop :=
  ∀ T : State, T.heap = H → Stand p l e R s m args below meth c T locs cells slots →
    (∃ (v : Option Value) (st₀ t T' : State) (L : List Loc), st₀.heap = H ∧ Stand p l e R s m args below meth c T' (locs ++ L) (cells + mc) (slots + ms) ∧ (∀ q ∈ L, free q.base) ∧ T'.heap = t.heap ∧ T'.vm = t.vm ∧ Qa st₀ (.returned v) t ∧
      Goes p e below T g T' { g with pc := g.pc + 3, stack := v.toList ++ rest }) ∨
    (∃ (q : Addr) (st₀ t T' : State) (L : List Loc) (E : String) (ce : Cell), st₀.heap = H ∧ Stand p l e R s m args below meth c T' (locs ++ L) (cells + mc) (slots + ms) ∧ (∀ z ∈ L, free z.base) ∧ T'.heap = t.heap ∧ T'.vm = t.vm ∧ XC E st₀ t ∧ t.heap[q]? = some ce ∧ ce.vm = .none ∧ s.vm.findClass E = some ce.cls ∧
      Steps p.tables e below (T.setTop g) ((T'.setTop { g with stack := rest }).pushFrame (.throwing q)))
def vx_X {S : Type} (px : S → Prop) (B : String → S → State → Prop) (A : Nat → Prop) : String → State → State → Prop := fun E st t => ∃ u : S, px u ∧ B E u t ∧ va_F A st t
section Runs
variable {p : Program} {l : Launch} {e : Env} {R : Room} {s : State} {m : MethodId} {args : Array Value} {below : List Frame} {meth : Method} {c : Code} {H : Heap} {locs : List Loc} {cells slots : Nat}
variable {y : MethodName} {bytes cc : ByteArray} {maxL nL mc ms n index : Nat} {ret : Option FieldType} {ws : List Cond} {rm : Room} {Pc : Array Value → State → Prop} {Qc : Array Value → State → Outcome → State → Prop} {XC : String → State → State → Prop} {free : Addr → Prop} {Ts : List Cond} {own C : String} {b : Addr} {As rest : List Value} {g : JFrame}
theorem vx_callBack (cb : CallB R s args own index y bytes maxL ret ws rm mc ms n) (hM : vx_Met l y ws rm Pc Qc XC mc ms free) (hbl : FrameBlind Pc) : vx_Back l R p e below s args y 3 8 (PreOf R mc ms Pc) (PostOf Qc mc ms free) (vx_Post XC mc ms free) := by
  obtain ⟨hrc, hrs, hfr, hlo, hws, hcw, -, hini, -⟩ := cb
  exact vx_back (bytes := bytes) (maxL := maxL) (ret := ret) hM hbl hrc hrs hfr hlo hws hcw (fun a' U hW => word_at hW (Or.inl (by first | rfl | simp [Cond.onTables, Cond.keeps, Cond.steady])) hini)
theorem vx_runV (S : CallFix p m c cc nL s args Ts own) (hM : vx_Met l y ws rm Pc Qc XC mc ms free) (cw : CallW R s args own C index y bytes maxL ret ws rm mc ms n) (hp : PreV s H C b Pc As)
    (hg : g.method = m) (hn : As.length = n) (hsize : g.locals.size = nL) (hstack : g.stack = As.reverse ++ .ref b :: rest) (hW : 2 * g.monitorRoom + (rest.map fun v => v.category).sum ≤ 8) (hdg : decode cc g.pc = .ok (.invokevirtual index, 3)) (hf : cells + mc ≤ R.cells ∧ slots + ms ≤ R.slots) :
    vx_Run p l e R s m args below meth c H locs cells slots mc ms g rest (Qc (Value.ref b :: As).toArray) XC free := by
  have hK : vx_Back l R p e below s args y 3 8 (PreOf R mc ms Pc) (PostOf Qc mc ms free) (vx_Post XC mc ms free) := vx_callBack cw.1 hM hp.1
  obtain ⟨⟨-, -, -, -, -, -, hcode, -, hy, hlen, hl⟩, hin, hse⟩ := cw
  obtain ⟨hx, hb, hml, ho, -⟩ := S
  obtain ⟨-, ⟨cellB, hcB, hoB, hclB⟩, hPc⟩ := hp
  intro T hT X
  rcases vx_callV X hx (C := C) (bytes := bytes) (maxL := maxL) (ret := ret) ho hl hin hse hcode hy hK (by rw [hT]; exact hcB) hoB hclB hg (hsize.trans hml.symm) (argsL := As) (rest := rest) (fun sig h => hn.trans (hlen sig h)) hstack hW (by rw [hb]; exact hdg)
    (fun vm₁ hW₁ => ⟨hf.1, hf.2, hPc (T.setVm vm₁) hT hW₁⟩) with ⟨v, vm₁, ⟨U', l2, c2, s2⟩, hW₁, X', ⟨g', mk, t, L, e1, e2, hq, h1, hL, h2, h3⟩, st⟩ | ⟨q, vm₁, ⟨U', l2, c2, s2⟩, hW₁, X', ⟨g', mk, t, L, E, ce, e1, e2, hq, hce, hcv, hcl, h1, hL, h2, h3⟩, st⟩
  · dsimp only [Pt.U, Pt.locs, Pt.cells, Pt.slots] at X' e1 e2 h1 h2 h3 st
    subst h1; subst h2; subst h3
    exact Or.inl ⟨v, (T.setVm vm₁).calling g' mk (Value.ref b :: As).toArray, t, U', L, hT, X', hL, e1, e2, hq, st⟩
  · dsimp only [Pt.U, Pt.locs, Pt.cells, Pt.slots] at X' e1 e2 h1 h2 h3 st hcl
    subst h1; subst h2; subst h3
    exact Or.inr ⟨q, (T.setVm vm₁).calling g' mk (Value.ref b :: As).toArray, t, U', L, E, ce, hT, X', hL, e1, e2, hq, hce, hcv, vx_cls hW₁ hcl, st⟩
theorem vx_runS (S : CallFix p m c cc nL s args Ts own) (hM : vx_Met l y ws rm Pc Qc XC mc ms free) (cw : CallB R s args own index y bytes maxL ret ws rm mc ms n ∧ (Cond.static y).before args s = true) (hp : PreS s H Pc As)
    (hg : g.method = m) (hn : As.length = n) (hsize : g.locals.size = nL) (hstack : g.stack = As.reverse ++ rest) (hW : 2 * g.monitorRoom + (rest.map fun v => v.category).sum ≤ 8) (hdg : decode cc g.pc = .ok (.invokestatic index, 3)) (hf : cells + mc ≤ R.cells ∧ slots + ms ≤ R.slots) :
    vx_Run p l e R s m args below meth c H locs cells slots mc ms g rest (Qc As.toArray) XC free := by
  have hK : vx_Back l R p e below s args y 3 8 (PreOf R mc ms Pc) (PostOf Qc mc ms free) (vx_Post XC mc ms free) := vx_callBack cw.1 hM hp.1
  obtain ⟨⟨-, -, -, -, -, -, hcode, hini, hy, hlen, hl⟩, hstt⟩ := cw
  obtain ⟨hx, hb, hml, ho, -⟩ := S
  intro T hT X
  rcases vx_callS X hx (bytes := bytes) (maxL := maxL) (ret := ret) ho hl hstt hini hcode hy hK hg (hsize.trans hml.symm) (argsL := As) (rest := rest) (fun sig h => hn.trans (hlen sig h)) hstack hW (by rw [hb]; exact hdg)
    (fun vm₁ hW₁ => ⟨hf.1, hf.2, hp.2 (T.setVm vm₁) hT hW₁⟩) with ⟨v, vm₁, ⟨U', l2, c2, s2⟩, hW₁, X', ⟨g', mk, t, L, e1, e2, hq, h1, hL, h2, h3⟩, st⟩ | ⟨q, vm₁, ⟨U', l2, c2, s2⟩, hW₁, X', ⟨g', mk, t, L, E, ce, e1, e2, hq, hce, hcv, hcl, h1, hL, h2, h3⟩, st⟩
  · dsimp only [Pt.U, Pt.locs, Pt.cells, Pt.slots] at X' e1 e2 h1 h2 h3 st
    subst h1; subst h2; subst h3
    exact Or.inl ⟨v, (T.setVm vm₁).calling g' mk As.toArray, t, U', L, hT, X', hL, e1, e2, hq, st⟩
  · dsimp only [Pt.U, Pt.locs, Pt.cells, Pt.slots] at X' e1 e2 h1 h2 h3 st hcl
    subst h1; subst h2; subst h3
    exact Or.inr ⟨q, (T.setVm vm₁).calling g' mk As.toArray, t, U', L, E, ce, hT, X', hL, e1, e2, hq, hce, hcv, vx_cls hW₁ hcl, st⟩
end Runs
section Rows
variable {p : Program} {l : Launch} {e : Env} {R : Room} {s : State} {m : MethodId} {args : Array Value} {below : List Frame} {meth : Method} {c : Code} {H : Heap} {locs : List Loc} {cells slots : Nat} {Q : State → Prop}
variable {mc ms : Nat} {free : Addr → Prop} {A0 A1 : Nat → Prop} {H0 : Heap} {a : Array Value} {pc : Nat} {ls : Array Slot} {st0 rest : List Value}
theorem vx_keep {st₀ t T' : State} {L : List Loc} (h0 : st₀.heap = H) (e1 : T'.heap = t.heap) (hS : va_S A0 H0 H locs) (hA : ∀ q, q < H.size → A1 q → A0 q) (hf : ∀ q, free q → A0 q) (hL : ∀ q ∈ L, free q.base) (hF : va_F A1 st₀ t) :
    H.size ≤ T'.heap.size ∧ (∀ q : Nat, q < H.size → ¬ A1 q → T'.heap[q]? = H[q]?) ∧ va_S A0 H0 T'.heap (locs ++ L) := by
  obtain ⟨hz, hk⟩ := hF
  rw [h0] at hz hk
  exact ⟨by rw [e1]; exact hz, fun q h1 h2 => by rw [e1]; exact hk q h1 h2,
    ⟨Nat.le_trans hS.1 (by rw [e1]; exact hz), fun q h1 h2 => by rw [e1, hk q (Nat.lt_of_lt_of_le h1 hS.1) (fun z => h2 (hA q (Nat.lt_of_lt_of_le h1 hS.1) z))]; exact hS.2.1 q h1 h2, fun q hq => by
      rcases List.mem_append.mp hq with h | h
      · exact hS.2.2 q h
      · exact hf _ (hL q h)⟩⟩
theorem vx_calli {S SX : Type} {post : Int32 → S → Prop} {px : SX → Prop} {B : S → State → Prop} {BX : String → SX → State → Prop} {AX : Nat → Prop} (hr : vx_Run p l e R s m args below meth c H locs cells slots mc ms (F0 m pc ls st0) rest (va_Qi post B A1 a) (vx_X px BX AX) free) (hS : va_S A0 H0 H locs) (hA : ∀ q, q < H.size → A1 q → A0 q) (hf : ∀ q, free q → A0 q) (hAX : ∀ q, q < H.size → AX q → A0 q)
    (kx : ∀ (E : String) (ce : Cell) (q9 : Addr) (u : SX) (t : State) (H1 : Heap) (locs1 : List Loc), t.heap = H1 → s.vm.Alike t.vm → px u → BX E u t → H.size ≤ H1.size → (∀ q : Nat, q < H.size → ¬ AX q → H1[q]? = H[q]?) → va_S A0 H0 H1 locs1 → H1[q9]? = some ce → ce.vm = .none → s.vm.findClass E = some ce.cls → vx_W p l e R s m args below meth c H1 locs1 (cells + mc) (slots + ms) Q (F0 m pc ls rest) q9)
    (kk : ∀ (r : Int32) (u : S) (t : State) (H1 : Heap) (locs1 : List Loc), t.heap = H1 → s.vm.Alike t.vm → post r u → B u t → H.size ≤ H1.size → (∀ q : Nat, q < H.size → ¬ A1 q → H1[q]? = H[q]?) → va_S A0 H0 H1 locs1 → W p l e R s m args below meth c H1 locs1 (cells + mc) (slots + ms) Q (F0 m (pc + 3) ls (.int r :: rest))) : W p l e R s m args below meth c H locs cells slots Q (F0 m pc ls st0) := by
  intro T hT X
  rcases hr T hT X with ⟨v, st₀, t, T', L, h0, X', hL, e1, e2, ⟨⟨r, u, hv, hp, hb⟩, hF⟩, st⟩ | ⟨q, st₀, t, T', L, E, ce, h0, X', hL, e1, e2, ⟨u, hp, hb, hF⟩, hce, hcv, hcl, st⟩
  · cases hv
    obtain ⟨k1, k2, k3⟩ := vx_keep h0 e1 hS hA hf hL hF
    obtain ⟨t2, a1, b1⟩ := kk r u t T'.heap (locs ++ L) e1.symm (by rw [← e2]; exact X'.warmed.alike) hp hb k1 k2 k3 T' rfl X'
    exact ⟨t2, st t2 a1, b1⟩
  · obtain ⟨k1, k2, k3⟩ := vx_keep h0 e1 hS hAX hf hL hF
    obtain ⟨t2, a1, b1⟩ := kx E ce q u t T'.heap (locs ++ L) e1.symm (by rw [← e2]; exact X'.warmed.alike) hp hb k1 k2 k3 (by rw [e1]; exact hce) hcv hcl T' rfl X'
    exact ⟨t2, st.trans a1, b1⟩
theorem vx_calll {S SX : Type} {post : Int64 → S → Prop} {px : SX → Prop} {B : S → State → Prop} {BX : String → SX → State → Prop} {AX : Nat → Prop} (hr : vx_Run p l e R s m args below meth c H locs cells slots mc ms (F0 m pc ls st0) rest (va_Ql post B A1 a) (vx_X px BX AX) free) (hS : va_S A0 H0 H locs) (hA : ∀ q, q < H.size → A1 q → A0 q) (hf : ∀ q, free q → A0 q) (hAX : ∀ q, q < H.size → AX q → A0 q)
    (kx : ∀ (E : String) (ce : Cell) (q9 : Addr) (u : SX) (t : State) (H1 : Heap) (locs1 : List Loc), t.heap = H1 → s.vm.Alike t.vm → px u → BX E u t → H.size ≤ H1.size → (∀ q : Nat, q < H.size → ¬ AX q → H1[q]? = H[q]?) → va_S A0 H0 H1 locs1 → H1[q9]? = some ce → ce.vm = .none → s.vm.findClass E = some ce.cls → vx_W p l e R s m args below meth c H1 locs1 (cells + mc) (slots + ms) Q (F0 m pc ls rest) q9)
    (kk : ∀ (r : Int64) (u : S) (t : State) (H1 : Heap) (locs1 : List Loc), t.heap = H1 → s.vm.Alike t.vm → post r u → B u t → H.size ≤ H1.size → (∀ q : Nat, q < H.size → ¬ A1 q → H1[q]? = H[q]?) → va_S A0 H0 H1 locs1 → W p l e R s m args below meth c H1 locs1 (cells + mc) (slots + ms) Q (F0 m (pc + 3) ls (.long r :: rest))) : W p l e R s m args below meth c H locs cells slots Q (F0 m pc ls st0) := by
  intro T hT X
  rcases hr T hT X with ⟨v, st₀, t, T', L, h0, X', hL, e1, e2, ⟨⟨r, u, hv, hp, hb⟩, hF⟩, st⟩ | ⟨q, st₀, t, T', L, E, ce, h0, X', hL, e1, e2, ⟨u, hp, hb, hF⟩, hce, hcv, hcl, st⟩
  · cases hv
    obtain ⟨k1, k2, k3⟩ := vx_keep h0 e1 hS hA hf hL hF
    obtain ⟨t2, a1, b1⟩ := kk r u t T'.heap (locs ++ L) e1.symm (by rw [← e2]; exact X'.warmed.alike) hp hb k1 k2 k3 T' rfl X'
    exact ⟨t2, st t2 a1, b1⟩
  · obtain ⟨k1, k2, k3⟩ := vx_keep h0 e1 hS hAX hf hL hF
    obtain ⟨t2, a1, b1⟩ := kx E ce q u t T'.heap (locs ++ L) e1.symm (by rw [← e2]; exact X'.warmed.alike) hp hb k1 k2 k3 (by rw [e1]; exact hce) hcv hcl T' rfl X'
    exact ⟨t2, st.trans a1, b1⟩
theorem vx_callf {S SX : Type} {post : UInt32 → S → Prop} {px : SX → Prop} {B : S → State → Prop} {BX : String → SX → State → Prop} {AX : Nat → Prop} (hr : vx_Run p l e R s m args below meth c H locs cells slots mc ms (F0 m pc ls st0) rest (va_Qf post B A1 a) (vx_X px BX AX) free) (hS : va_S A0 H0 H locs) (hA : ∀ q, q < H.size → A1 q → A0 q) (hf : ∀ q, free q → A0 q) (hAX : ∀ q, q < H.size → AX q → A0 q)
    (kx : ∀ (E : String) (ce : Cell) (q9 : Addr) (u : SX) (t : State) (H1 : Heap) (locs1 : List Loc), t.heap = H1 → s.vm.Alike t.vm → px u → BX E u t → H.size ≤ H1.size → (∀ q : Nat, q < H.size → ¬ AX q → H1[q]? = H[q]?) → va_S A0 H0 H1 locs1 → H1[q9]? = some ce → ce.vm = .none → s.vm.findClass E = some ce.cls → vx_W p l e R s m args below meth c H1 locs1 (cells + mc) (slots + ms) Q (F0 m pc ls rest) q9)
    (kk : ∀ (r : UInt32) (u : S) (t : State) (H1 : Heap) (locs1 : List Loc), t.heap = H1 → s.vm.Alike t.vm → post r u → B u t → H.size ≤ H1.size → (∀ q : Nat, q < H.size → ¬ A1 q → H1[q]? = H[q]?) → va_S A0 H0 H1 locs1 → W p l e R s m args below meth c H1 locs1 (cells + mc) (slots + ms) Q (F0 m (pc + 3) ls (.float r :: rest))) : W p l e R s m args below meth c H locs cells slots Q (F0 m pc ls st0) := by
  intro T hT X
  rcases hr T hT X with ⟨v, st₀, t, T', L, h0, X', hL, e1, e2, ⟨⟨r, u, hv, hp, hb⟩, hF⟩, st⟩ | ⟨q, st₀, t, T', L, E, ce, h0, X', hL, e1, e2, ⟨u, hp, hb, hF⟩, hce, hcv, hcl, st⟩
  · cases hv
    obtain ⟨k1, k2, k3⟩ := vx_keep h0 e1 hS hA hf hL hF
    obtain ⟨t2, a1, b1⟩ := kk r u t T'.heap (locs ++ L) e1.symm (by rw [← e2]; exact X'.warmed.alike) hp hb k1 k2 k3 T' rfl X'
    exact ⟨t2, st t2 a1, b1⟩
  · obtain ⟨k1, k2, k3⟩ := vx_keep h0 e1 hS hAX hf hL hF
    obtain ⟨t2, a1, b1⟩ := kx E ce q u t T'.heap (locs ++ L) e1.symm (by rw [← e2]; exact X'.warmed.alike) hp hb k1 k2 k3 (by rw [e1]; exact hce) hcv hcl T' rfl X'
    exact ⟨t2, st.trans a1, b1⟩
theorem vx_calld {S SX : Type} {post : UInt64 → S → Prop} {px : SX → Prop} {B : S → State → Prop} {BX : String → SX → State → Prop} {AX : Nat → Prop} (hr : vx_Run p l e R s m args below meth c H locs cells slots mc ms (F0 m pc ls st0) rest (va_Qd post B A1 a) (vx_X px BX AX) free) (hS : va_S A0 H0 H locs) (hA : ∀ q, q < H.size → A1 q → A0 q) (hf : ∀ q, free q → A0 q) (hAX : ∀ q, q < H.size → AX q → A0 q)
    (kx : ∀ (E : String) (ce : Cell) (q9 : Addr) (u : SX) (t : State) (H1 : Heap) (locs1 : List Loc), t.heap = H1 → s.vm.Alike t.vm → px u → BX E u t → H.size ≤ H1.size → (∀ q : Nat, q < H.size → ¬ AX q → H1[q]? = H[q]?) → va_S A0 H0 H1 locs1 → H1[q9]? = some ce → ce.vm = .none → s.vm.findClass E = some ce.cls → vx_W p l e R s m args below meth c H1 locs1 (cells + mc) (slots + ms) Q (F0 m pc ls rest) q9)
    (kk : ∀ (r : UInt64) (u : S) (t : State) (H1 : Heap) (locs1 : List Loc), t.heap = H1 → s.vm.Alike t.vm → post r u → B u t → H.size ≤ H1.size → (∀ q : Nat, q < H.size → ¬ A1 q → H1[q]? = H[q]?) → va_S A0 H0 H1 locs1 → W p l e R s m args below meth c H1 locs1 (cells + mc) (slots + ms) Q (F0 m (pc + 3) ls (.double r :: rest))) : W p l e R s m args below meth c H locs cells slots Q (F0 m pc ls st0) := by
  intro T hT X
  rcases hr T hT X with ⟨v, st₀, t, T', L, h0, X', hL, e1, e2, ⟨⟨r, u, hv, hp, hb⟩, hF⟩, st⟩ | ⟨q, st₀, t, T', L, E, ce, h0, X', hL, e1, e2, ⟨u, hp, hb, hF⟩, hce, hcv, hcl, st⟩
  · cases hv
    obtain ⟨k1, k2, k3⟩ := vx_keep h0 e1 hS hA hf hL hF
    obtain ⟨t2, a1, b1⟩ := kk r u t T'.heap (locs ++ L) e1.symm (by rw [← e2]; exact X'.warmed.alike) hp hb k1 k2 k3 T' rfl X'
    exact ⟨t2, st t2 a1, b1⟩
  · obtain ⟨k1, k2, k3⟩ := vx_keep h0 e1 hS hAX hf hL hF
    obtain ⟨t2, a1, b1⟩ := kx E ce q u t T'.heap (locs ++ L) e1.symm (by rw [← e2]; exact X'.warmed.alike) hp hb k1 k2 k3 (by rw [e1]; exact hce) hcv hcl T' rfl X'
    exact ⟨t2, st.trans a1, b1⟩
theorem vx_callv {S SX : Type} {post : S → Prop} {px : SX → Prop} {B : S → State → Prop} {BX : String → SX → State → Prop} {AX : Nat → Prop} (hr : vx_Run p l e R s m args below meth c H locs cells slots mc ms (F0 m pc ls st0) rest (va_Qv post B A1 a) (vx_X px BX AX) free) (hS : va_S A0 H0 H locs) (hA : ∀ q, q < H.size → A1 q → A0 q) (hf : ∀ q, free q → A0 q) (hAX : ∀ q, q < H.size → AX q → A0 q)
    (kx : ∀ (E : String) (ce : Cell) (q9 : Addr) (u : SX) (t : State) (H1 : Heap) (locs1 : List Loc), t.heap = H1 → s.vm.Alike t.vm → px u → BX E u t → H.size ≤ H1.size → (∀ q : Nat, q < H.size → ¬ AX q → H1[q]? = H[q]?) → va_S A0 H0 H1 locs1 → H1[q9]? = some ce → ce.vm = .none → s.vm.findClass E = some ce.cls → vx_W p l e R s m args below meth c H1 locs1 (cells + mc) (slots + ms) Q (F0 m pc ls rest) q9)
    (kk : ∀ (u : S) (t : State) (H1 : Heap) (locs1 : List Loc), t.heap = H1 → s.vm.Alike t.vm → post u → B u t → H.size ≤ H1.size → (∀ q : Nat, q < H.size → ¬ A1 q → H1[q]? = H[q]?) → va_S A0 H0 H1 locs1 → W p l e R s m args below meth c H1 locs1 (cells + mc) (slots + ms) Q (F0 m (pc + 3) ls (rest))) : W p l e R s m args below meth c H locs cells slots Q (F0 m pc ls st0) := by
  intro T hT X
  rcases hr T hT X with ⟨v, st₀, t, T', L, h0, X', hL, e1, e2, ⟨⟨u, hv, hp, hb⟩, hF⟩, st⟩ | ⟨q, st₀, t, T', L, E, ce, h0, X', hL, e1, e2, ⟨u, hp, hb, hF⟩, hce, hcv, hcl, st⟩
  · cases hv
    obtain ⟨k1, k2, k3⟩ := vx_keep h0 e1 hS hA hf hL hF
    obtain ⟨t2, a1, b1⟩ := kk u t T'.heap (locs ++ L) e1.symm (by rw [← e2]; exact X'.warmed.alike) hp hb k1 k2 k3 T' rfl X'
    exact ⟨t2, st t2 a1, b1⟩
  · obtain ⟨k1, k2, k3⟩ := vx_keep h0 e1 hS hAX hf hL hF
    obtain ⟨t2, a1, b1⟩ := kx E ce q u t T'.heap (locs ++ L) e1.symm (by rw [← e2]; exact X'.warmed.alike) hp hb k1 k2 k3 (by rw [e1]; exact hce) hcv hcl T' rfl X'
    exact ⟨t2, st.trans a1, b1⟩
/-- caught by the row x of this method's table; the rows ahead don't take it -/
theorem vx_catch {own name : String} {E : String} {ce : Cell} {q : Addr} (hown : s.vm.findClass own = some m.cls) (pre : List ExceptionTableEntry) (x : ExceptionTableEntry) (suf : List ExceptionTableEntry) (hsplit : c.exceptionTable.toList = pre ++ x :: suf)
    (hpass : ∀ z ∈ pre, covers z pc = false ∨ (z.catchType ≠ 0 ∧ ∃ nm : String, (Cond.classLink own z.catchType nm).before args s = true ∧ va_Nc E nm s)) (hx : covers x pc = true) (h0 : x.catchType ≠ 0)
    (hlink : (Cond.classLink own x.catchType name).before args s = true) (hcast : (Cond.castable E name).before args s = true) (hcell : H[q]? = some ce) (hv : ce.vm = .none) (hcl : s.vm.findClass E = some ce.cls)
    (kk : W p l e R s m args below meth c H locs cells slots Q (F0 m x.handlerPc ls [.ref q])) : vx_W p l e R s m args below meth c H locs cells slots Q (F0 m pc ls rest) q := by
  intro T hT X
  have hpl : e.platform.magicAccessors = ({} : Platform).magicAccessors := by rw [X.admits.platform]
  obtain ⟨c3, c4, hc3, hc4, hasg⟩ := Cond.castable_spec hcast
  cases Option.some.inj (hc3.symm.trans hcl)
  obtain ⟨c5, hc5, hcl5⟩ := Cond.classLink_spec hown hlink e.platform hpl
  cases Option.some.inj (hc4.symm.trans hc5)
  obtain ⟨vm', X', st⟩ := X.thenCaughtThrough q (g := F0 m pc ls rest) rfl (Steps.refl _) (by rw [hT]; exact hcell) (by rw [hv]; rfl) (by obtain ⟨k9, h9, -⟩ := Vm.findClass_spec hcl; exact ⟨k9, h9⟩) pre x suf hsplit
    (fun z hz => by
      rcases hpass z hz with h | ⟨hz0, nm, hl1, hn1⟩
      · exact Or.inl h
      · obtain ⟨c6, hc6, hcl6⟩ := Cond.classLink_spec hown hl1 e.platform hpl
        obtain ⟨a8, b8, h1, h2, h3⟩ := hn1
        cases Option.some.inj (h1.symm.trans hcl)
        cases Option.some.inj (h2.symm.trans hc6)
        exact Or.inr ⟨hz0, _, hcl6, h3⟩) hx (Or.inr ⟨h0, c4, hcl5, hasg⟩)
  obtain ⟨t, a1, b1⟩ := kk (T.setVm vm') hT X'
  exact ⟨t, st.trans a1, b1⟩
end Rows
section Ends
variable {p : Program} {l : Launch} {e : Env} {R : Room} {s : State} {m : MethodId} {args : Array Value} {below : List Frame} {meth : Method} {c : Code} {H : Heap} {locs : List Loc} {cells slots : Nat} {Q : State → Prop}
variable {mc ms : Nat} {free : Addr → Prop} {A0 A1 : Nat → Prop} {H0 : Heap} {a : Array Value} {ls : Array Slot} {st0 rest : List Value}
variable {Qc : Array Value → State → Outcome → State → Prop} {XC : String → State → State → Prop}
/-- what a body that may throw owes at its end -/
def vx_MQ (below : List Frame) (Qc : Array Value → State → Outcome → State → Prop) (XC : String → State → State → Prop) (a : Array Value) (s : State) (mc ms : Nat) (free : Addr → Prop) : State → Prop := fun t =>
  ∃ o, t.status = .running ∧ Ended t below o ∧ vx_Q Qc XC mc ms free a s o t
theorem vx_ret {g : JFrame} {mc ms : Nat} (k : W p l e R s m args below meth c H locs cells slots (MQ below Qc args s mc ms free) g) : W p l e R s m args below meth c H locs cells slots (vx_MQ below Qc XC args s mc ms free) g := by
  intro T hT X
  obtain ⟨t, a1, o, b1, b2, b3, b4⟩ := k T hT X
  exact ⟨t, a1, o, b1, b2, Or.inl ⟨b3, b4⟩⟩
/-- not caught here: it goes on to the caller -/
theorem vx_widen {g : JFrame} {q : Addr} {k n : Nat} (h1 : cells ≤ k) (h2 : slots ≤ n) (kk : vx_W p l e R s m args below meth c H locs k n Q g q) : vx_W p l e R s m args below meth c H locs cells slots Q g q := fun T hT X => kk T hT (stand_widen X h1 h2)
theorem vx_out {pc : Nat} {E : String} {ce : Cell} {q : Addr} {mc ms : Nat} (hout : ∀ x ∈ c.exceptionTable.toList, covers x pc = false) (hlocks : meth.locks = false) (hcell : H[q]? = some ce) (hv : ce.vm = .none) (hcl : s.vm.findClass E = some ce.cls)
    (hx : ∀ t : State, t.heap = H → s.vm.Alike t.vm → XC E s t) (hf : ∀ z ∈ locs, free z.base) (hc : cells ≤ mc) (hs : slots ≤ ms) :
    vx_W p l e R s m args below meth c H locs cells slots (vx_MQ below Qc XC args s mc ms free) (F0 m pc ls rest) q := by
  intro T hT X
  obtain ⟨st1, hrun, hend, hW, hsm⟩ := X.leaveThrown q (g := F0 m pc ls rest) rfl rfl rfl hout hlocks
  have hcell9 : (T.setFrames (.throwing q :: below)).heap[q]? = some ce := by
    show T.heap[q]? = some ce
    rw [hT]; exact hcell
  exact ⟨_, st1, .threw q, hrun, hend, Or.inr ⟨q, rfl, E, ce, locs, hx _ hT hW.alike, hcell9, hv, hcl, hW, hsm.mono hc hs, hf⟩⟩
theorem vx_frame {U : State} {k n : Nat} (h : s.sameButNew ({ U with vm := s.vm } : State) locs k n) : s.heap.size ≤ U.heap.size ∧ ∀ q : Nat, q < s.heap.size → (∀ z ∈ locs, z.base ≠ q) → U.heap[q]? = s.heap[q]? := by
  obtain ⟨-, h2, -, -, -, h6⟩ := h
  refine ⟨h2, fun q hq hz => ?_⟩
  obtain ⟨c9, e1, e2, e3, e4⟩ := h6 q _ (Array.getElem?_eq_getElem hq)
  have hs : c9.slots = (s.heap[q]).slots := Array.ext_getElem? fun i => e4 i fun hm => hz _ hm rfl
  have h9 : c9 = s.heap[q] := by
    rw [hs] at e2
    exact e2
  have e5 : U.heap[q]? = some c9 := e1
  rw [e5, h9, Array.getElem?_eq_getElem hq]
/-- the words of a throw but the four that speak of the heap -/
def vx_no (w : Cond) : Bool := decide (w ≠ .isRef (.static Bundle.tN "UNASSIGNED_STACK" Bundle.steD)) && decide (w ≠ .isRef (.static Bundle.tN "SUPPRESSED_SENTINEL" Bundle.listD)) && decide (w ≠ .laysStatic Bundle.tN "UNASSIGNED_STACK" Bundle.steD) && decide (w ≠ .laysStatic Bundle.tN "SUPPRESSED_SENTINEL" Bundle.listD)
def vx_at0 (own : String) (ic : Nat) (X : String) (names : List String) : List Cond := (Bundle.ownAtoms0 own ic X names).filter vx_no
def vx_atS (own : String) (ic : Nat) (X : String) (names : List String) : List Cond := (Bundle.ownAtoms own ic X names).filter vx_no
/-- a word that the tables alone decide, or a good one -/
def vx_ot (w : Cond) : Bool := w.onTables || goodWord w
theorem vx_ot_at {args a' : Array Value} {s U : State} {w : Cond} (hW : s.WarmedH U.vm) (hvm : s.vm = U.vm) (hg : vx_ot w = true) (h : w.before args s = true) : w.before a' U = true := by
  simp only [vx_ot, Bool.or_eq_true] at hg
  rcases hg with hg | hg
  · exact va_tabs hg hvm h
  · exact word_at hW (good_of_word hg) h
/-- a list's words: the good ones out of the method's own list, the others by premises of their own -/
theorem vx_hat {args : Array Value} {s : State} {L B : List Cond} (h1 : ∀ w ∈ L.filter goodWord, w.before args s = true) (h2 : ∀ w ∈ L.filter (fun w => !goodWord w), w ∈ B) (h3 : ∀ w ∈ B, w.before args s = true) : ∀ w ∈ L, w.before args s = true := by
  intro w hw
  by_cases g : goodWord w = true
  · exact h1 w (List.mem_filter.mpr ⟨hw, g⟩)
  · refine h3 w (h2 w (List.mem_filter.mpr ⟨hw, ?_⟩))
    show (!goodWord w) = true
    cases hgw : goodWord w
    · rfl
    · exact absurd hgw g
theorem vx_c {args : Array Value} {s : State} {w : Cond} {B : List Cond} (h : w.before args s = true) (t : ∀ w ∈ B, w.before args s = true) : ∀ w' ∈ w :: B, w'.before args s = true := fun w' h' => (List.mem_cons.mp h').elim (fun e => by rw [e]; exact h) (t w')
theorem vx_n {args : Array Value} {s : State} : ∀ w ∈ ([] : List Cond), w.before args s = true := fun _ h => nomatch h
theorem vx_own {args : Array Value} {s : State} {L : List Cond} (h1 : ∀ w ∈ L.filter vx_no, w.before args s = true)
    (hU : (Cond.isRef (.static Bundle.tN "UNASSIGNED_STACK" Bundle.steD)).before args s = true) (hN : (Cond.isRef (.static Bundle.tN "SUPPRESSED_SENTINEL" Bundle.listD)).before args s = true)
    (lU : (Cond.laysStatic Bundle.tN "UNASSIGNED_STACK" Bundle.steD).before args s = true) (lN : (Cond.laysStatic Bundle.tN "SUPPRESSED_SENTINEL" Bundle.listD).before args s = true) : ∀ w ∈ L, w.before args s = true := by
  intro w hw
  by_cases e1 : w = .isRef (.static Bundle.tN "UNASSIGNED_STACK" Bundle.steD)
  · rw [e1]; exact hU
  · by_cases e2 : w = .isRef (.static Bundle.tN "SUPPRESSED_SENTINEL" Bundle.listD)
    · rw [e2]; exact hN
    · by_cases e3 : w = .laysStatic Bundle.tN "UNASSIGNED_STACK" Bundle.steD
      · rw [e3]; exact lU
      · by_cases e4 : w = .laysStatic Bundle.tN "SUPPRESSED_SENTINEL" Bundle.listD
        · rw [e4]; exact lN
        · exact h1 w (List.mem_filter.mpr ⟨hw, by unfold vx_no; rw [decide_eq_true e1, decide_eq_true e2, decide_eq_true e3, decide_eq_true e4]; rfl⟩)
/-- where a static field lies, its class's statics cell in H -/
def vx_L (C n d : String) (A : Nat → Prop) (U : State) (H : Heap) : Prop := ∃ (c : ClassId) (k : Class) (i : Nat) (f : Field) (a : Nat) (cell : Cell), U.vm.findClass C = some c ∧ U.fieldFound? C n d = some (c, k, i, f) ∧ f.isStatic = true ∧ k.statics = some a ∧ H[a]? = some cell ∧ cell.vm.isStatics = true ∧ cell.cls = c ∧ f.slot < cell.slots.size ∧ k.staticTypes[f.slot]? = some f.type ∧ ¬ A a
theorem vx_L.moved {C n d : String} {A : Nat → Prop} {u U : State} {H : Heap} (hvm : u.vm.Alike U.vm) (h : vx_L C n d A u H) : vx_L C n d A U H := by
  obtain ⟨c, k, i, f, a, cell, h1, h2, h3, h4, h5, h6, h7, h8, h9, h10⟩ := h
  obtain ⟨k', hi', he⟩ := State.fieldFound?_setVm hvm h2
  exact ⟨c, k', i, f, a, cell, by rw [hvm.findClass]; exact h1, hi', h3, by rw [he]; exact h4, h5, h6, h7, h8, by rw [he]; exact h9, h10⟩
theorem vx_L.kept {C n d : String} {A : Nat → Prop} {U : State} {H H1 : Heap} (h : vx_L C n d A U H) (hq : ∀ a : Nat, a < H.size → ¬ A a → H1[a]? = H[a]?) : vx_L C n d A U H1 := by
  obtain ⟨c, k, i, f, a, cell, h1, h2, h3, h4, h5, h6, h7, h8, h9, h10⟩ := h
  exact ⟨c, k, i, f, a, cell, h1, h2, h3, h4, by rw [hq a (Array.getElem?_eq_some_iff.mp h5).1 h10]; exact h5, h6, h7, h8, h9, h10⟩
theorem vx_L.narrow {C n d : String} {A B : Nat → Prop} {U : State} {H : Heap} (h : vx_L C n d A U H) (hAB : ∀ q, B q → A q) : vx_L C n d B U H := by
  obtain ⟨c, k, i, f, a, cell, h1, h2, h3, h4, h5, h6, h7, h8, h9, h10⟩ := h
  exact ⟨c, k, i, f, a, cell, h1, h2, h3, h4, h5, h6, h7, h8, h9, fun z => h10 (hAB _ z)⟩
theorem vx_L.word {C n d : String} {A : Nat → Prop} {s : State} {args : Array Value} (h : vx_L C n d A s s.heap) : (Cond.laysStatic C n d).before args s = true := by
  obtain ⟨c, k, i, f, a, cell, h1, h2, h3, h4, h5, h6, h7, h8, h9, -⟩ := h
  show (Cond.laysStatic C n d).holds args s none s [] = true
  exact Cond.laysStatic_of h1 h2 h3 h4 h5 h6 h7 h8 h9
/-- .. and what it holds: null or some reference -/
def vx_Zq (C n d : String) (A : Nat → Prop) (U : State) (H : Heap) : Prop := va_Zq C n d A U H ∧ vx_L C n d A U H
theorem vx_Zq.moved {C n d : String} {A : Nat → Prop} {u U : State} {H : Heap} (hvm : u.vm.Alike U.vm) (h : vx_Zq C n d A u H) : vx_Zq C n d A U H := ⟨va_Zq.moved hvm h.1, vx_L.moved hvm h.2⟩
theorem vx_Zq.kept {C n d : String} {A : Nat → Prop} {U : State} {H H1 : Heap} (h : vx_Zq C n d A U H) (hq : ∀ a : Nat, a < H.size → ¬ A a → H1[a]? = H[a]?) : vx_Zq C n d A U H1 := ⟨va_Zq.kept h.1 hq, vx_L.kept h.2 hq⟩
theorem vx_Zq.narrow {C n d : String} {A B : Nat → Prop} {U : State} {H : Heap} (h : vx_Zq C n d A U H) (hAB : ∀ q, B q → A q) : vx_Zq C n d B U H := ⟨va_Zq.narrow h.1 hAB, vx_L.narrow h.2 hAB⟩
theorem vx_Zqof {args : Array Value} {s : State} {C n d : String} {A : Nat → Prop} (hl : (Cond.laysStatic C n d).before args s = true) (hini : (Cond.initialized C).before args s = true) (h : (Cond.isRef (.static C n d)).before args s = true) (hA : ∀ a : Nat, a < s.heap.size → ¬ A a) : vx_Zq C n d A s s.heap := by
  refine ⟨va_Zqof hl hini h hA, ?_⟩
  obtain ⟨c, k, i, f, a, cell, h1, h2, h3, h4, h5, h6, h7, h8, h9⟩ := Cond.laysStatic_spec hl
  exact ⟨c, k, i, f, a, cell, h1, h2, h3, h4, h5, h6, h7, h8, h9, hA a (Array.getElem?_eq_some_iff.mp h5).1⟩
theorem vx_isRef {C n d : String} {v : Value} {A : Nat → Prop} {s : State} {args : Array Value} (h : va_Z C n d v A s s.heap) (hv : v.isRef = true) : (Cond.isRef (.static C n d)).before args s = true := by
  obtain ⟨cf, kf, fi, f, a, cell, h1, h2, h3, h4, h5, h6, h7, -⟩ := h
  have he : (Term.static C n d).eval args s none [] s = some v := by
    simp [Term.eval, State.fieldNamed?, h1, h2, h4, h5, h6, h7]
  simp only [Cond.before, Cond.holds, Cond.value, he]
  cases v <;> simp_all [Value.isRef]
theorem vx_isRefq {C n d : String} {A : Nat → Prop} {s : State} {args : Array Value} (h : va_Zq C n d A s s.heap) : (Cond.isRef (.static C n d)).before args s = true := by
  rcases h with h | ⟨t, h⟩
  · exact vx_isRef h rfl
  · exact vx_isRef h rfl
/-- the same frame, seen from here: as if the method were called anew in this heap -/
theorem vx_rebase {T : State} (X : Stand p l e R s m args below meth c T locs cells slots) {R' : Room} (hf : R'.frames ≤ R.frames) (hl : R'.locals ≤ R.locals) (hc : cells + R'.cells ≤ R.cells) (hs : slots + R'.slots ≤ R.slots) :
    Stand p l e R' ((T.setVm s.vm).setFrames (.invoking m args :: below)) m args below meth c T [] 0 0 := by
  have htop : (T.setVm s.vm).topJava?.isSome := X.here.top
  have hF : ((T.setVm s.vm).setFrames (.invoking m args :: below)).frames = .invoking m args :: below := State.frames_setFrames _ (State.cur_lt_of_top htop)
  obtain ⟨g₀, hg0⟩ := Option.isSome_iff_exists.mp htop
  obtain ⟨r, hr⟩ := State.topJava?_eq_some.mp hg0
  have hl9 : e.platform.stackLimits (T.setVm s.vm).me = e.platform.stackLimits s.me := X.limits
  have hb9 : (T.setVm s.vm).me.stackBytes = s.me.stackBytes := X.bytes
  refine ⟨X.admits, X.cas, X.clock, hF, ?_, X.hears, X.method, X.code, X.here, X.tail, X.warmed, ?_, ?_, ?_⟩
  · have h := X.room
    have hU : ((T.setVm s.vm).setFrames (.invoking m args :: below)).localsInUse = s.localsInUse := by
      rw [State.localsInUse_invoking hF (meth := meth) (c := c) X.method X.code, State.localsInUse_invoking X.frames X.method X.code]
    simp only [State.hasRoom, Bool.and_eq_true, decide_eq_true_eq] at h ⊢
    obtain ⟨⟨⟨⟨h1, h2, h3, h4, h5, h6⟩, h7⟩, h8⟩, h9⟩ := h
    rw [X.frames, List.length_cons] at h2 h3
    have q1 := X.heapSize
    have q2 := X.used
    simp only [hF, hU, List.length_cons, State.stackLimits_setFrames, State.stackBytes_setFrames, hl9, hb9]
    refine ⟨⟨⟨⟨by omega, by omega, by omega, by omega, by omega, h6⟩, ?_⟩, ?_⟩, X.book⟩
    · show T.heap.size + R'.cells ≤ e.platform.maxCells
      omega
    · show T.slotsUsed + R'.slots ≤ e.platform.maxSlots
      omega
  · rw [State.stackLimits_setFrames]; rfl
  · rw [State.stackBytes_setFrames]; rfl
  · refine ⟨?_, Nat.le_refl _, Nat.le_refl _, ?_, ?_, fun a c9 h9 => ⟨c9, h9, rfl, rfl, fun _ _ => rfl⟩⟩
    · obtain ⟨t, ht, -⟩ := State.frames_cons hr
      show T.setVm s.vm = { ((T.setVm s.vm).setFrames (.invoking m args :: below)).setFrames (T.setVm s.vm).frames with heap := T.heap, slotsUsed := T.slotsUsed }
      rw [State.setFrames_setFrames, State.setFrames_self ht]
      rfl
    · show T.slotsUsed = T.slotsUsed + ((T.heap.toList.drop T.heap.size).map (·.slots.size)).sum
      rw [List.drop_eq_nil_of_le (Nat.le_of_eq Array.length_toList)]
      rfl
    · show ((T.heap.toList.drop T.heap.size).map (·.slots.size)).sum ≤ 0
      rw [List.drop_eq_nil_of_le (Nat.le_of_eq Array.length_toList)]
      exact Nat.le_refl _
/-- 'throw new E()': new; dup; invokespecial; athrow -/
theorem vx_throw0 {cc : ByteArray} {pc : Nat} (hexec : p.tables.exec = Jvm.exec) (hb : c.code = cc) (hl : l.stackTraces = false) {own cls : String} {names : List String} {ik ic mc ms : Nat} {A : Nat → Prop}
    (hown : s.vm.findClass own = some m.cls) (hcls : Bundle.fit cls = true) (hnames : ∀ n ∈ names, Bundle.fit n = true)
    (hk : (Cond.classLink own ik cls).before args s = true) (hini : (Cond.initialized cls).before args s = true) (hat : ∀ w ∈ vx_at0 own ic cls names, w.before args s = true)
    (hgood : ∀ w ∈ Cond.classLink own ik cls :: Cond.initialized cls :: vx_at0 own ic cls names, vx_ot w = true)
    (hU : vx_Zq Bundle.tN "UNASSIGNED_STACK" Bundle.steD A s s.heap) (hN : vx_Zq Bundle.tN "SUPPRESSED_SENTINEL" Bundle.listD A s s.heap) (hS : va_S A s.heap H locs) (hsize : ls.size = c.maxLocals)
    (d0 : decode cc pc = .ok (.new ik, 3)) (d3 : decode cc (pc + 3) = .ok (.dup, 1)) (d4 : decode cc (pc + 4) = .ok (.invokespecial ic, 3)) (d7 : decode cc (pc + 7) = .ok (.athrow, 1))
    (hout : ∀ x ∈ c.exceptionTable.toList, covers x (pc + 7) = false)
    (hRframes : names.length + 3 < R.frames) (hRlocals : (rest.map fun v => v.category).sum + (13 * (names.length + 1) + 42) ≤ R.locals) (hRcells : cells + 1 ≤ R.cells) (hRslots : slots + 6 ≤ R.slots) (hlocks : meth.locks = false)
    (hx : ∀ t : State, s.vm.Alike t.vm → H.size ≤ t.heap.size → (∀ q : Nat, q < H.size → t.heap[q]? = H[q]?) → XC cls s t)
    (hf : ∀ z ∈ locs, free z.base) (hc : cells + 1 ≤ mc) (hs : slots + 6 ≤ ms) :
    W p l e R s m args below meth c H locs cells slots (vx_MQ below Qc XC args s mc ms free) (F0 m pc ls rest) := by
  intro T hT X
  have htr : e.platform.stackTraces = false := (show e.platform.stackTraces = l.stackTraces by rw [X.admits.platform]).trans hl
  have Y := vx_rebase X (R' := { frames := R.frames, locals := R.locals, cells := 1, slots := 6 }) (Nat.le_refl _) (Nat.le_refl _) hRcells hRslots
  obtain ⟨s', hA⟩ : ∃ z, z = (T.setVm s.vm).setFrames (.invoking m args :: below) := ⟨_, rfl⟩
  rw [← hA] at Y
  have hvm : s'.vm = s.vm := by rw [hA]; rfl
  have hhp : s'.heap = H := by rw [hA]; exact hT
  have hW0 : s.WarmedH s'.vm := by rw [hvm]; exact State.WarmedH.refl s
  have hat' : ∀ w ∈ vx_at0 own ic cls names, w.before args s' = true := fun w hw => vx_ot_at hW0 hvm.symm (hgood w (List.mem_cons_of_mem _ (List.mem_cons_of_mem _ hw))) (hat w hw)
  have hk' : (Cond.classLink own ik cls).before args s' = true := vx_ot_at hW0 hvm.symm (hgood _ List.mem_cons_self) hk
  have hini' : (Cond.initialized cls).before args s' = true := vx_ot_at hW0 hvm.symm (hgood _ (List.mem_cons_of_mem _ List.mem_cons_self)) hini
  have hU' : vx_Zq Bundle.tN "UNASSIGNED_STACK" Bundle.steD A s' s'.heap := by rw [hhp]; exact vx_Zq.moved hW0.alike (hU.kept hS.2.1)
  have hN' : vx_Zq Bundle.tN "SUPPRESSED_SENTINEL" Bundle.listD A s' s'.heap := by rw [hhp]; exact vx_Zq.moved hW0.alike (hN.kept hS.2.1)
  have h : ∀ w ∈ Bundle.ownAtoms0 own ic cls names, w.before args s' = true := vx_own hat' (vx_isRefq hU'.1) (vx_isRefq hN'.1) hU'.2.word hN'.2.word
  have hown' : s'.vm.findClass own = some m.cls := by rw [hvm]; exact hown
  have hins : (Cond.instantiable cls 6).before args s' = true := h _ (by simp [Bundle.ownAtoms0])
  obtain ⟨vm₁, cX, kX, hfX, hkX, -, -, X₁, st1⟩ := Y.newCold hexec (own := own) (C := cls) (index := ik) (n := 6) hown' hk' hins hini'
    (g := F0 m pc ls rest) rfl (by rw [hb]; exact d0) (Nat.le_refl _) (Nat.le_refl _)
  generalize hT1 : (T.setVm vm₁).pushCell { cls := cX, slots := kX.instanceTypes.map defaultValue, vm := .none } = T1 at X₁ st1
  have hcat : (Value.ref T.heap.size).category = 1 := rfl
  have hcellA : T1.heap[T.heap.size]? = some (freshCell cX kX) := by rw [← hT1]; exact State.heap_pushCell_size _ _
  have d3' : decode c.code (pc + 3) = .ok (.dup, 1) := by rw [hb]; exact d3
  obtain ⟨U, hsteps, hrun, hend, hW, hsame, ce, hce, hO⟩ := X₁.ctorThrow0 hexec htr (own := own) (cls := cls) (names := names) (ic := ic) hown' hcls hnames h (fun x hx => nomatch hx) hfX hkX hcellA (by rw [hhp, hT]; exact Nat.le_refl _)
    (g := { method := m, pc := pc + 4, locals := ls, stack := .ref T.heap.size :: .ref T.heap.size :: rest, locked := none }) rfl hsize rfl rfl (rest := rest) rfl
    (by rw [hb]; exact d4) (by rw [hb]; exact d7) hout hRframes (by simp only [List.map_cons, List.sum_cons, hcat]; omega) hlocks
  obtain ⟨f1, f2⟩ := vx_frame hsame
  rw [hhp] at f1 f2
  have hWs : s.WarmedH U.vm := State.WarmedH.trans hW0 hW
  have hcl : s.vm.findClass cls = some ce.cls := by
    have h9 := hO.cls
    rw [hvm] at h9
    exact h9
  have hall : s.sameButNew ({ U with vm := s.vm } : State) locs mc ms := by
    subst hA
    obtain ⟨e1, e2⟩ := hsame
    rw [State.setFrames_setFrames] at e1
    have h2 : (T.setVm s.vm).sameButNew ({ U with vm := s.vm } : State) [] (0 + 1) (0 + 6) := ⟨e1, e2⟩
    have h3 := X.same.trans h2
    rw [List.append_nil] at h3
    exact h3.mono hc hs
  refine ⟨U, ?_, .threw T.heap.size, hrun, hend, Or.inr ⟨T.heap.size, rfl, cls, ce, locs, hx U hWs.alike f1 (fun q hq => f2 q hq (fun z hz => nomatch hz)), hce, hO.vm, hcl, hWs, hall, hf⟩⟩
  refine st1 _ ?_
  show Steps p.tables e below (T1.setTop { method := m, pc := pc + 3, locals := ls, stack := .ref T.heap.size :: rest, locked := none }) _
  jvm_step X₁.here [X₁.here.top, hexec, d3', Value.category]
  exact hsteps
/-- 'throw new E("text")': new; dup; ldc; invokespecial; athrow -/
theorem vx_throwS {cc : ByteArray} {pc : Nat} (hexec : p.tables.exec = Jvm.exec) (hb : c.code = cc) (hl : l.stackTraces = false) {own cls text : String} {names : List String} {ik is ic mc ms sa : Nat} {A : Nat → Prop}
    (hown : s.vm.findClass own = some m.cls) (hcls : Bundle.fit cls = true) (hnames : ∀ n ∈ names, Bundle.fit n = true)
    (hk : (Cond.classLink own ik cls).before args s = true) (hini : (Cond.initialized cls).before args s = true) (hstr : vk_R own is text sa s) (hat : ∀ w ∈ vx_atS own ic cls names, w.before args s = true)
    (hgood : ∀ w ∈ Cond.classLink own ik cls :: Cond.initialized cls :: vx_atS own ic cls names, vx_ot w = true)
    (hU : vx_Zq Bundle.tN "UNASSIGNED_STACK" Bundle.steD A s s.heap) (hN : vx_Zq Bundle.tN "SUPPRESSED_SENTINEL" Bundle.listD A s s.heap) (hS : va_S A s.heap H locs) (hsize : ls.size = c.maxLocals)
    (d0 : decode cc pc = .ok (.new ik, 3)) (d3 : decode cc (pc + 3) = .ok (.dup, 1)) (d4 : decode cc (pc + 4) = .ok (.ldc is, 2)) (d6 : decode cc (pc + 6) = .ok (.invokespecial ic, 3)) (d9 : decode cc (pc + 9) = .ok (.athrow, 1))
    (hout : ∀ x ∈ c.exceptionTable.toList, covers x (pc + 9) = false)
    (hRframes : names.length + 3 < R.frames) (hRlocals : (rest.map fun v => v.category).sum + (13 * (names.length + 1) + 43) ≤ R.locals) (hRcells : cells + 1 ≤ R.cells) (hRslots : slots + 6 ≤ R.slots) (hlocks : meth.locks = false)
    (hx : ∀ t : State, s.vm.Alike t.vm → H.size ≤ t.heap.size → (∀ q : Nat, q < H.size → t.heap[q]? = H[q]?) → XC cls s t)
    (hf : ∀ z ∈ locs, free z.base) (hc : cells + 1 ≤ mc) (hs : slots + 6 ≤ ms) :
    W p l e R s m args below meth c H locs cells slots (vx_MQ below Qc XC args s mc ms free) (F0 m pc ls rest) := by
  intro T hT X
  have htr : e.platform.stackTraces = false := (show e.platform.stackTraces = l.stackTraces by rw [X.admits.platform]).trans hl
  have Y := vx_rebase X (R' := { frames := R.frames, locals := R.locals, cells := 1, slots := 6 }) (Nat.le_refl _) (Nat.le_refl _) hRcells hRslots
  obtain ⟨s', hA⟩ : ∃ z, z = (T.setVm s.vm).setFrames (.invoking m args :: below) := ⟨_, rfl⟩
  rw [← hA] at Y
  have hvm : s'.vm = s.vm := by rw [hA]; rfl
  have hhp : s'.heap = H := by rw [hA]; exact hT
  have hW0 : s.WarmedH s'.vm := by rw [hvm]; exact State.WarmedH.refl s
  have hat' : ∀ w ∈ vx_atS own ic cls names, w.before args s' = true := fun w hw => vx_ot_at hW0 hvm.symm (hgood w (List.mem_cons_of_mem _ (List.mem_cons_of_mem _ hw))) (hat w hw)
  have hk' : (Cond.classLink own ik cls).before args s' = true := vx_ot_at hW0 hvm.symm (hgood _ List.mem_cons_self) hk
  have hini' : (Cond.initialized cls).before args s' = true := vx_ot_at hW0 hvm.symm (hgood _ (List.mem_cons_of_mem _ List.mem_cons_self)) hini
  have hU' : vx_Zq Bundle.tN "UNASSIGNED_STACK" Bundle.steD A s' s'.heap := by rw [hhp]; exact vx_Zq.moved hW0.alike (hU.kept hS.2.1)
  have hN' : vx_Zq Bundle.tN "SUPPRESSED_SENTINEL" Bundle.listD A s' s'.heap := by rw [hhp]; exact vx_Zq.moved hW0.alike (hN.kept hS.2.1)
  have h : ∀ w ∈ Bundle.ownAtoms own ic cls names, w.before args s' = true := vx_own hat' (vx_isRefq hU'.1) (vx_isRefq hN'.1) hU'.2.word hN'.2.word
  have hown' : s'.vm.findClass own = some m.cls := by rw [hvm]; exact hown
  have hins : (Cond.instantiable cls 6).before args s' = true := h _ (by simp [Bundle.ownAtoms])
  obtain ⟨vm₁, cX, kX, hfX, hkX, -, -, X₁, st1⟩ := Y.newCold hexec (own := own) (C := cls) (index := ik) (n := 6) hown' hk' hins hini'
    (g := F0 m pc ls rest) rfl (by rw [hb]; exact d0) (Nat.le_refl _) (Nat.le_refl _)
  generalize hT1 : (T.setVm vm₁).pushCell { cls := cX, slots := kX.instanceTypes.map defaultValue, vm := .none } = T1 at X₁ st1
  have hcat : (Value.ref T.heap.size).category = 1 := rfl
  have hcellA : T1.heap[T.heap.size]? = some (freshCell cX kX) := by rw [← hT1]; exact State.heap_pushCell_size _ _
  have d3' : decode c.code (pc + 3) = .ok (.dup, 1) := by rw [hb]; exact d3
  have d4' : decode c.code (pc + 4) = .ok (.ldc is, 2) := by rw [hb]; exact d4
  have hstr' : vk_R own is text sa s' := vk_R.warm hW0 hstr
  obtain ⟨U, hsteps, hrun, hend, hW, hsame, ce, hce, hO⟩ := X₁.ctorThrowS hexec htr (own := own) (cls := cls) (names := names) (ic := ic) hown' hcls hnames h (fun x hx => nomatch hx) hfX hkX hcellA (by rw [hhp, hT]; exact Nat.le_refl _) (msg := .ref sa) rfl
    (g := { method := m, pc := pc + 6, locals := ls, stack := .ref sa :: .ref T.heap.size :: .ref T.heap.size :: rest, locked := none }) rfl hsize rfl rfl (rest := rest) rfl
    (by rw [hb]; exact d6) (by rw [hb]; exact d9) hout hRframes (by simp only [List.map_cons, List.sum_cons, hcat]; omega) hlocks
  obtain ⟨f1, f2⟩ := vx_frame hsame
  rw [hhp] at f1 f2
  have hWs : s.WarmedH U.vm := State.WarmedH.trans hW0 hW
  have hcl : s.vm.findClass cls = some ce.cls := by
    have h9 := hO.cls
    rw [hvm] at h9
    exact h9
  have hall : s.sameButNew ({ U with vm := s.vm } : State) locs mc ms := by
    subst hA
    obtain ⟨e1, e2⟩ := hsame
    rw [State.setFrames_setFrames] at e1
    have h2 : (T.setVm s.vm).sameButNew ({ U with vm := s.vm } : State) [] (0 + 1) (0 + 6) := ⟨e1, e2⟩
    have h3 := X.same.trans h2
    rw [List.append_nil] at h3
    exact h3.mono hc hs
  refine ⟨U, ?_, .threw T.heap.size, hrun, hend, Or.inr ⟨T.heap.size, rfl, cls, ce, locs, hx U hWs.alike f1 (fun q hq => f2 q hq (fun z hz => nomatch hz)), hce, hO.vm, hcl, hWs, hall, hf⟩⟩
  refine st1 _ ?_
  show Steps p.tables e below (T1.setTop { method := m, pc := pc + 3, locals := ls, stack := .ref T.heap.size :: rest, locked := none }) _
  jvm_step X₁.here [X₁.here.top, hexec, d3', Value.category]
  exact X₁.ldcString hexec (own := own) (text := text) (index := is) (a := sa) hown' hstr'.1 hstr'.2
    (g := { method := m, pc := pc + 4, locals := ls, stack := .ref T.heap.size :: .ref T.heap.size :: rest, locked := none }) rfl d4' _ hsteps
/-- 'throw new E("text")', the text by a wide index -/
theorem vx_throwSW {cc : ByteArray} {pc : Nat} (hexec : p.tables.exec = Jvm.exec) (hb : c.code = cc) (hl : l.stackTraces = false) {own cls text : String} {names : List String} {ik is ic mc ms sa : Nat} {A : Nat → Prop}
    (hown : s.vm.findClass own = some m.cls) (hcls : Bundle.fit cls = true) (hnames : ∀ n ∈ names, Bundle.fit n = true)
    (hk : (Cond.classLink own ik cls).before args s = true) (hini : (Cond.initialized cls).before args s = true) (hstr : vk_R own is text sa s) (hat : ∀ w ∈ vx_atS own ic cls names, w.before args s = true)
    (hgood : ∀ w ∈ Cond.classLink own ik cls :: Cond.initialized cls :: vx_atS own ic cls names, vx_ot w = true)
    (hU : vx_Zq Bundle.tN "UNASSIGNED_STACK" Bundle.steD A s s.heap) (hN : vx_Zq Bundle.tN "SUPPRESSED_SENTINEL" Bundle.listD A s s.heap) (hS : va_S A s.heap H locs) (hsize : ls.size = c.maxLocals)
    (d0 : decode cc pc = .ok (.new ik, 3)) (d3 : decode cc (pc + 3) = .ok (.dup, 1)) (d4 : decode cc (pc + 4) = .ok (.ldc_w is, 3)) (d7 : decode cc (pc + 7) = .ok (.invokespecial ic, 3)) (d10 : decode cc (pc + 10) = .ok (.athrow, 1))
    (hout : ∀ x ∈ c.exceptionTable.toList, covers x (pc + 10) = false)
    (hRframes : names.length + 3 < R.frames) (hRlocals : (rest.map fun v => v.category).sum + (13 * (names.length + 1) + 43) ≤ R.locals) (hRcells : cells + 1 ≤ R.cells) (hRslots : slots + 6 ≤ R.slots) (hlocks : meth.locks = false)
    (hx : ∀ t : State, s.vm.Alike t.vm → H.size ≤ t.heap.size → (∀ q : Nat, q < H.size → t.heap[q]? = H[q]?) → XC cls s t)
    (hf : ∀ z ∈ locs, free z.base) (hc : cells + 1 ≤ mc) (hs : slots + 6 ≤ ms) :
    W p l e R s m args below meth c H locs cells slots (vx_MQ below Qc XC args s mc ms free) (F0 m pc ls rest) := by
  intro T hT X
  have htr : e.platform.stackTraces = false := (show e.platform.stackTraces = l.stackTraces by rw [X.admits.platform]).trans hl
  have Y := vx_rebase X (R' := { frames := R.frames, locals := R.locals, cells := 1, slots := 6 }) (Nat.le_refl _) (Nat.le_refl _) hRcells hRslots
  obtain ⟨s', hA⟩ : ∃ z, z = (T.setVm s.vm).setFrames (.invoking m args :: below) := ⟨_, rfl⟩
  rw [← hA] at Y
  have hvm : s'.vm = s.vm := by rw [hA]; rfl
  have hhp : s'.heap = H := by rw [hA]; exact hT
  have hW0 : s.WarmedH s'.vm := by rw [hvm]; exact State.WarmedH.refl s
  have hat' : ∀ w ∈ vx_atS own ic cls names, w.before args s' = true := fun w hw => vx_ot_at hW0 hvm.symm (hgood w (List.mem_cons_of_mem _ (List.mem_cons_of_mem _ hw))) (hat w hw)
  have hk' : (Cond.classLink own ik cls).before args s' = true := vx_ot_at hW0 hvm.symm (hgood _ List.mem_cons_self) hk
  have hini' : (Cond.initialized cls).before args s' = true := vx_ot_at hW0 hvm.symm (hgood _ (List.mem_cons_of_mem _ List.mem_cons_self)) hini
  have hU' : vx_Zq Bundle.tN "UNASSIGNED_STACK" Bundle.steD A s' s'.heap := by rw [hhp]; exact vx_Zq.moved hW0.alike (hU.kept hS.2.1)
  have hN' : vx_Zq Bundle.tN "SUPPRESSED_SENTINEL" Bundle.listD A s' s'.heap := by rw [hhp]; exact vx_Zq.moved hW0.alike (hN.kept hS.2.1)
  have h : ∀ w ∈ Bundle.ownAtoms own ic cls names, w.before args s' = true := vx_own hat' (vx_isRefq hU'.1) (vx_isRefq hN'.1) hU'.2.word hN'.2.word
  have hown' : s'.vm.findClass own = some m.cls := by rw [hvm]; exact hown
  have hins : (Cond.instantiable cls 6).before args s' = true := h _ (by simp [Bundle.ownAtoms])
  obtain ⟨vm₁, cX, kX, hfX, hkX, -, -, X₁, st1⟩ := Y.newCold hexec (own := own) (C := cls) (index := ik) (n := 6) hown' hk' hins hini'
    (g := F0 m pc ls rest) rfl (by rw [hb]; exact d0) (Nat.le_refl _) (Nat.le_refl _)
  generalize hT1 : (T.setVm vm₁).pushCell { cls := cX, slots := kX.instanceTypes.map defaultValue, vm := .none } = T1 at X₁ st1
  have hcat : (Value.ref T.heap.size).category = 1 := rfl
  have hcellA : T1.heap[T.heap.size]? = some (freshCell cX kX) := by rw [← hT1]; exact State.heap_pushCell_size _ _
  have d3' : decode c.code (pc + 3) = .ok (.dup, 1) := by rw [hb]; exact d3
  have d4' : decode c.code (pc + 4) = .ok (.ldc_w is, 3) := by rw [hb]; exact d4
  have hstr' : vk_R own is text sa s' := vk_R.warm hW0 hstr
  obtain ⟨U, hsteps, hrun, hend, hW, hsame, ce, hce, hO⟩ := X₁.ctorThrowS hexec htr (own := own) (cls := cls) (names := names) (ic := ic) hown' hcls hnames h (fun x hx => nomatch hx) hfX hkX hcellA (by rw [hhp, hT]; exact Nat.le_refl _) (msg := .ref sa) rfl
    (g := { method := m, pc := pc + 7, locals := ls, stack := .ref sa :: .ref T.heap.size :: .ref T.heap.size :: rest, locked := none }) rfl hsize rfl rfl (rest := rest) rfl
    (by rw [hb]; exact d7) (by rw [hb]; exact d10) hout hRframes (by simp only [List.map_cons, List.sum_cons, hcat]; omega) hlocks
  obtain ⟨f1, f2⟩ := vx_frame hsame
  rw [hhp] at f1 f2
  have hWs : s.WarmedH U.vm := State.WarmedH.trans hW0 hW
  have hcl : s.vm.findClass cls = some ce.cls := by
    have h9 := hO.cls
    rw [hvm] at h9
    exact h9
  have hall : s.sameButNew ({ U with vm := s.vm } : State) locs mc ms := by
    subst hA
    obtain ⟨e1, e2⟩ := hsame
    rw [State.setFrames_setFrames] at e1
    have h2 : (T.setVm s.vm).sameButNew ({ U with vm := s.vm } : State) [] (0 + 1) (0 + 6) := ⟨e1, e2⟩
    have h3 := X.same.trans h2
    rw [List.append_nil] at h3
    exact h3.mono hc hs
  refine ⟨U, ?_, .threw T.heap.size, hrun, hend, Or.inr ⟨T.heap.size, rfl, cls, ce, locs, hx U hWs.alike f1 (fun q hq => f2 q hq (fun z hz => nomatch hz)), hce, hO.vm, hcl, hWs, hall, hf⟩⟩
  refine st1 _ ?_
  show Steps p.tables e below (T1.setTop { method := m, pc := pc + 3, locals := ls, stack := .ref T.heap.size :: rest, locked := none }) _
  jvm_step X₁.here [X₁.here.top, hexec, d3', Value.category]
  exact X₁.ldcStringW hexec (own := own) (text := text) (index := is) (a := sa) hown' hstr'.1 hstr'.2
    (g := { method := m, pc := pc + 4, locals := ls, stack := .ref T.heap.size :: .ref T.heap.size :: rest, locked := none }) rfl d4' _ hsteps
end Ends
section Bodies
variable {l : Launch}
theorem vx_ofW {y : MethodName} {ws ws' : List Cond} {rm : Room} {Pc : Array Value → State → Prop} {Qc : Array Value → State → Outcome → State → Prop} {XC : String → State → State → Prop} {mc ms : Nat} {free : Addr → Prop} {cc : ByteArray} {maxL : Nat} {ret : Option FieldType}
    (hy : plainName y.cls = true) (hw : ws = Cond.code y cc maxL ret :: ws')
    (body : ∀ p e s m args below meth c s₁, BodyLoose p l y (headSpec ws rm) cc maxL ret e s m args below meth c s₁ → c.maxLocals = maxL → (∀ x ∈ c.exceptionTable.toList, False) → Pc args s →
      W p l e (headSpec ws rm).room s m args below meth c s.heap [] 0 0 (vx_MQ below Qc XC args s mc ms free) (entryFrame m args maxL)) : vx_Met l y ws rm Pc Qc XC mc ms free := by
  refine MetFree.of_bodyS (code := cc) (maxLocals := maxL) (ret := ret) hy ?_ ?_
  · intro args s m h hn
    obtain ⟨meth, c, h1, h2, h3, h4, h5, h6, -, -⟩ := Cond.code_spec hn (atoms_spec (ws := ws) h _ (by rw [hw]; exact List.mem_cons_self))
    exact ⟨meth, c, h1, h2, h3, h4, h5, h6⟩
  · intro p e s m args below meth c s₁ B hml hP _
    have hh0 : s₁.heap = s.heap := by rw [B.state]; rfl
    have ht : ∀ x ∈ c.exceptionTable.toList, False := by
      obtain ⟨meth9, c9, h1, h2, -, -, -, -, h7, -⟩ := Cond.code_spec B.named (atoms_spec (ws := ws) B.pre _ (by rw [hw]; exact List.mem_cons_self))
      cases Option.some.inj (h1.symm.trans B.method)
      cases Option.some.inj (h2.symm.trans (Stand.of_body B).code)
      intro x hx
      rw [Array.isEmpty_iff.mp h7] at hx
      cases hx
    obtain ⟨t, a1, o, b1, b2, b3⟩ := body p e s m args below meth c s₁ B hml ht hP s₁ hh0 (Stand.of_body B)
    exact ⟨t, o, a1, b1, b2, b3⟩
/-- the table of a body with handlers -/
theorem vx_table {p : Program} {x y : MethodName} {S : Spec} {cc bytes : ByteArray} {maxL maxL' : Nat} {ret ret' : Option FieldType} {e : Env} {s s₁ : State} {m : MethodId} {args : Array Value} {below : List Frame} {meth : Method} {c : Code} {hh : List (Nat × Nat × Nat × Nat)}
    (B : BodyLoose p l y S cc maxL ret e s m args below meth c s₁) (h : (Cond.codeWith y bytes maxL' ret' hh).before args s = true) : c.exceptionTable.toList = tableOf hh := by
  obtain ⟨m9, meth9, c9, hn9, h1, h2, -, -, h6, -⟩ := Cond.codeWith_spec h
  cases Option.some.inj (hn9.symm.trans B.named)
  cases Option.some.inj (h1.symm.trans B.method)
  cases Option.some.inj (h2.symm.trans (Stand.of_body B).code)
  rw [← h6, table_eq]
end Bodies
end VXA
/-! ===== END ===== -/
/-! ===== BEGIN a static call of a method with an exception table ===== -/
section VXS
variable {p : Program} {l : Launch} {e : Env} {R : Room} {s : State} {m : MethodId} {args : Array Value} {below : List Frame} {meth : Method} {c : Code} {T : State} {H : Heap} {locs : List Loc} {cells slots : Nat}
abbrev vx_CSW (R : Room) (s : State) (args : Array Value) (own : String) (index : Nat) (y : MethodName) (bytes : ByteArray) (maxL : Nat) (ret : Option FieldType) (hh : List (Nat × Nat × Nat × Nat)) (ws : List Cond) (rm : Room) (mc ms n : Nat) : Prop :=
  (rm.cells = mc ∧ rm.slots = ms ∧ rm.frames + 1 ≤ R.frames ∧ 8 + (maxL + 11) + rm.locals ≤ R.locals ∧ (∀ w ∈ ws, ∀ (a' : Array Value) (U : State), s.WarmedH U.vm → w.before a' U = true) ∧ Cond.codeWith y bytes maxL ret hh ∈ ws) ∧
  (Cond.codeWith y bytes maxL ret hh).before args s = true ∧ (Cond.initialized y.cls).before args s = true ∧ (y.cls ≠ "java/lang/invoke/MethodHandle" ∧ y.cls ≠ "java/lang/invoke/VarHandle") ∧
  (∀ sig, parseMethodDescriptor y.desc = some sig → n = sig.parameters.length) ∧ (Cond.methodLink own index y).before args s = true ∧ (Cond.static y).before args s = true
theorem vx_cwSW {own : String} {index maxL mc ms : Nat} {y : MethodName} {bytes : ByteArray} {ret : Option FieldType} {hh : List (Nat × Nat × Nat × Nat)} {Ts ws ws' : List Cond} {rm : Room} (n : Nat) (ht : ∀ w ∈ Ts, w.before args s = true) (hT : GoodIn Ts (va_wsS own index y ws)) (hw : ws = Cond.codeWith y bytes maxL ret hh :: ws') (hrc : rm.cells = mc) (hrs : rm.slots = ms)
    (hd : y.cls ≠ "java/lang/invoke/MethodHandle" ∧ y.cls ≠ "java/lang/invoke/VarHandle" ∧ (parseMethodDescriptor y.desc).map (fun d => d.parameters.length) = some n) (hR : rm.frames + 1 ≤ R.frames ∧ 8 + (maxL + 11) + rm.locals ≤ R.locals) :
    vx_CSW R s args own index y bytes maxL ret hh ws rm mc ms n := by
  have ok : ∀ w ∈ va_wsS own index y ws, w.before args s = true := fun w h => ht w (hT w h).1
  have hG : GoodIn Ts ws := fun w h => hT w (by unfold va_wsS; exact List.mem_append_right _ h)
  have hc : Cond.codeWith y bytes maxL ret hh ∈ ws := by rw [hw]; exact List.mem_cons_self
  refine ⟨⟨hrc, hrs, hR.1, hR.2, pay_in ht hG, hc⟩, ht _ (hG _ hc).1, ok _ (by simp [va_wsS]), ⟨hd.1, hd.2.1⟩, fun sig h => ?_, ok _ (by simp [va_wsS]), ok _ (by simp [va_wsS])⟩
  have h2 := hd.2.2
  rw [h] at h2
  exact (Option.some.inj h2).symm
theorem vx_callSW (X : Stand p l e R s m args below meth c T locs cells slots) (hexec : p.tables.exec = Jvm.exec) {own : String} {index : Nat} {y : MethodName} {bytes : ByteArray} {maxL : Nat} {ret : Option FieldType} {hh : List (Nat × Nat × Nat × Nat)}
    (hown : s.vm.findClass own = some m.cls) (hlink : (Cond.methodLink own index y).before args s = true) (hstat : (Cond.static y).before args s = true) (hinit : (Cond.initialized y.cls).before args s = true)
    (hcode : (Cond.codeWith y bytes maxL ret hh).before args s = true) (hy : y.cls ≠ "java/lang/invoke/MethodHandle" ∧ y.cls ≠ "java/lang/invoke/VarHandle")
    {W9 : Nat} {Pre : Pt → Array Value → Prop} {Post : Pt → Array Value → Option Value → Pt → Prop} (hK : Back l R p e below s args y 3 W9 Pre Post)
    {g : JFrame} (hg : g.method = m) (hsize : g.locals.size = c.maxLocals) {argsL rest : List Value} (hlen : ∀ sig, parseMethodDescriptor y.desc = some sig → argsL.length = sig.parameters.length)
    (hstack : g.stack = argsL.reverse ++ rest) (hW : 2 * g.monitorRoom + (rest.map fun v => v.category).sum ≤ W9) (hdg : decode c.code g.pc = .ok (.invokestatic index, 3))
    (hpre : ∀ vm₁, s.WarmedH vm₁ → Pre ⟨T.setVm vm₁, locs, cells, slots⟩ argsL.toArray) :
    ∃ (v : Option Value) (vm₁ : Vm) (B : Pt), s.WarmedH vm₁ ∧ Stand p l e R s m args below meth c B.U B.locs B.cells B.slots ∧ Post ⟨T.setVm vm₁, locs, cells, slots⟩ argsL.toArray v B ∧
      ∀ target, Steps p.tables e below (B.U.setTop { g with pc := g.pc + 3, stack := v.toList ++ rest }) target → Steps p.tables e below (T.setTop g) target := by
  obtain ⟨mk, methM, cM, hnamed, hmethM, -, -, -, -, -, -, hsigM⟩ := Cond.codeWith_spec hcode
  have hstatic : methM.isStatic = true := Cond.static_spec hnamed hmethM hstat
  obtain ⟨kP, hkP, -⟩ := className_of_methodNamed hnamed
  have hinitP : kP.init = .initialized := Cond.initialized_spec (findClass_of_methodNamed hnamed) hkP hinit
  obtain ⟨vm₁, X₁, hstep₁⟩ := X.invokestatic hexec hown hlink hnamed hmethM hstatic hkP hinitP hy (g := g) hg (argsL := argsL) (rest := rest) (hlen _ hsigM) hstack hdg
  obtain ⟨v, B, X', hpost, hsteps⟩ := hK m meth c ⟨T.setVm vm₁, locs, cells, slots⟩ { g with stack := rest } (.invokestatic index) mk argsL.toArray X₁ hg hsize hdg hW (X₁.named hnamed) (hpre vm₁ X₁.warmed)
  exact ⟨v, vm₁, B, X₁.warmed, X', hpost, fun target h => hstep₁ _ fun acts => by rw [doInvoke_state]; exact hsteps.trans h⟩
theorem vx_runSW {y : MethodName} {bytes cc : ByteArray} {maxL nL mc ms n index : Nat} {ret : Option FieldType} {hh : List (Nat × Nat × Nat × Nat)} {ws : List Cond} {rm : Room} {Pc : Array Value → State → Prop} {Qc : Array Value → State → Outcome → State → Prop} {free : Addr → Prop} {Ts : List Cond} {own : String} {As rest : List Value} {g : JFrame}
    (S : CallFix p m c cc nL s args Ts own) (hM : Met l y ws rm Pc Qc mc ms free) (cw : vx_CSW R s args own index y bytes maxL ret hh ws rm mc ms n) (hp : PreS s H Pc As)
    (hg : g.method = m) (hn : As.length = n) (hsize : g.locals.size = nL) (hstack : g.stack = As.reverse ++ rest) (hW : 2 * g.monitorRoom + (rest.map fun v => v.category).sum ≤ 8) (hdg : decode cc g.pc = .ok (.invokestatic index, 3)) (hf : cells + mc ≤ R.cells ∧ slots + ms ≤ R.slots) :
    va_Run p l e R s m args below meth c H locs cells slots mc ms g rest (Qc As.toArray) (free) := by
  obtain ⟨⟨hrc, hrs, hfr, hlo, hws, hcw⟩, hcode, hini, hy, hlen, hl, hstt⟩ := cw
  have hK : Back l R p e below s args y 3 8 (PreOf R mc ms Pc) (PostOf Qc mc ms free) := va_backW (hh := hh) (bytes := bytes) (maxL := maxL) (ret := ret) hM hp.1 hrc hrs hfr hlo hws hcw (fun a' U hW => word_at hW (Or.inl (by first | rfl | simp [Cond.onTables, Cond.keeps, Cond.steady])) hini)
  obtain ⟨hx, hb, hml, ho, -⟩ := S
  intro T hT X
  obtain ⟨v, vm₁, ⟨U', l2, c2, s2⟩, hW₁, X', ⟨g', mk, t, L, e1, e2, hq, h1, hL, h2, h3⟩, st⟩ := vx_callSW X hx (hh := hh) (bytes := bytes) (maxL := maxL) (ret := ret) ho hl hstt hini hcode hy hK hg (hsize.trans hml.symm) (argsL := As) (rest := rest) (fun sig h => hn.trans (hlen sig h)) hstack hW (by rw [hb]; exact hdg)
    (fun vm₁ hW₁ => ⟨hf.1, hf.2, hp.2 (T.setVm vm₁) hT hW₁⟩)
  dsimp only [Pt.U, Pt.locs, Pt.cells, Pt.slots] at X' e1 e2 h1 h2 h3 st
  subst h1; subst h2; subst h3
  exact ⟨v, (T.setVm vm₁).calling g' mk As.toArray, t, U', L, hT, X', hL, e1, e2, hq, st⟩
/-- not caught here, past rows that name other classes: it goes on to the caller -/
theorem vx_outP {p : Program} {l : Launch} {e : Env} {R : Room} {s : State} {m : MethodId} {args : Array Value} {below : List Frame} {meth : Method} {c : Code} {H : Heap} {locs : List Loc} {cells slots : Nat} {free : Addr → Prop} {ls : Array Slot} {rest : List Value} {Qc : Array Value → State → Outcome → State → Prop} {XC : String → State → State → Prop}
    {pc : Nat} {own E : String} {ce : Cell} {q : Addr} {mc ms : Nat} (hown : s.vm.findClass own = some m.cls) (hlocks : meth.locks = false)
    (hpass : ∀ z ∈ c.exceptionTable.toList, covers z pc = false ∨ (z.catchType ≠ 0 ∧ ∃ nm : String, (Cond.classLink own z.catchType nm).before args s = true ∧ va_Nc E nm s)) (hcell : H[q]? = some ce) (hv : ce.vm = .none) (hcl : s.vm.findClass E = some ce.cls)
    (hx : ∀ t : State, t.heap = H → s.vm.Alike t.vm → XC E s t) (hf : ∀ z ∈ locs, free z.base) (hc : cells ≤ mc) (hs : slots ≤ ms) :
    vx_W p l e R s m args below meth c H locs cells slots (vx_MQ below Qc XC args s mc ms free) (F0 m pc ls rest) q := by
  intro T hT X
  have hpl : e.platform.magicAccessors = ({} : Platform).magicAccessors := by rw [X.admits.platform]
  obtain ⟨vm', hW', X', st⟩ := X.outThrough hlocks q (g := F0 m pc ls rest) rfl rfl rfl (cell := ce) (by rw [hT]; exact hcell) (by rw [hv]; rfl)
    (by obtain ⟨k9, h9, -⟩ := Vm.findClass_spec hcl; exact ⟨k9, h9⟩) (fun z hz => by
      rcases hpass z hz with h | ⟨hz0, nm, hl1, hn1⟩
      · exact Or.inl h
      · obtain ⟨c6, hc6, hcl6⟩ := Cond.classLink_spec hown hl1 e.platform hpl
        obtain ⟨a8, b8, h1, h2, h3⟩ := hn1
        cases Option.some.inj (h1.symm.trans hcl)
        cases Option.some.inj (h2.symm.trans hc6)
        exact Or.inr ⟨hz0, _, hcl6, h3⟩)
  obtain ⟨g₀, hfr⟩ := X'.frames_eq
  have hcell9 : ((T.setVm vm').setFrames (.throwing q :: below)).heap[q]? = some ce := by
    show T.heap[q]? = some ce
    rw [hT]; exact hcell
  have hend : Ended ((T.setVm vm').setFrames (.throwing q :: below)) below (.threw q) := State.frames_setFrames _ (State.cur_lt_of_frames hfr)
  refine ⟨(T.setVm vm').setFrames (.throwing q :: below), ?_, .threw q, X'.here.running, hend, Or.inr ⟨q, rfl, E, ce, locs, hx _ hT (X'.ends _).1.alike, hcell9, hv, hcl, (X'.ends _).1, (X'.ends _).2.mono hc hs, hf⟩⟩
  rw [X.pushThrowing_eq]
  exact st
/-- a thing of a world lies in the heap -/
theorem vx_lt {D : va_G} {cl : List vw_C} {ws : va_W} {H1 : Heap} (h : va_P D cl ws H1) {k : Nat} {q : Nat × va_E} (hk : ws[k]? = some q) : q.1 < H1.size := (h k q hk).lt
end VXS
/-! ===== END ===== -/
/-! ===== BEGIN methods with a table of their own: called by a name, returning or throwing ===== -/
section VXH
/-! vx_backW, vx_callVX, vx_callSX, vx_callVW, vx_runVW, vx_runVX, vx_runSX, vx_ofWH follow the same proofs as their sisters above (Free/Laws.lean, Shelf42/LK1.lean); vx_outP calls Shelf42/NT130.lean (outThrough). -/
section
variable {l : Launch} {R : Room} {p : Program} {e : Env} {below : List Frame} {s : State} {sargs : Array Value} {y : MethodName} {len W9 : Nat}
theorem vx_backW {ws : List Cond} {rm : Room} {Pc : Array Value → State → Prop} {Qc : Array Value → State → Outcome → State → Prop} {XC : String → State → State → Prop} {mc ms : Nat} {free : Addr → Prop} {bytes : ByteArray} {maxL : Nat} {ret : Option FieldType} {hh : List (Nat × Nat × Nat × Nat)}
    (hM : vx_Met l y ws rm Pc Qc XC mc ms free) (hblind : FrameBlind Pc) (hrc : rm.cells = mc) (hrs : rm.slots = ms)
    (hframes : rm.frames + 1 ≤ R.frames) (hlocals : W9 + (maxL + 11) + rm.locals ≤ R.locals)
    (hws : ∀ w ∈ ws, ∀ a' U, s.WarmedH U.vm → w.before a' U = true) (hcode : Cond.codeWith y bytes maxL ret hh ∈ ws) (hinit : ∀ a' U, s.WarmedH U.vm → (Cond.initialized y.cls).before a' U = true) :
    vx_Back l R p e below s sargs y len W9 (PreOf R mc ms Pc) (PostOf Qc mc ms free) (vx_Post XC mc ms free) := by
  intro m meth c A g ig mk a X hg hsize hdg hW hn hp
  have h1 : (headSpec ws rm).pre.before a A.U = true := atoms_intro fun w hw => hws w hw _ _ X.warmed
  have h2 : (Cond.codeWith y bytes maxL ret hh).before a A.U = true := hws _ hcode _ _ X.warmed
  have h3 : (Cond.initialized y.cls).before a A.U = true := hinit _ _ X.warmed
  have h4 : A.cells + (headSpec ws rm).room.cells ≤ R.cells := by rw [show (headSpec ws rm).room.cells = mc from hrc]; exact hp.1
  have h5 : A.slots + (headSpec ws rm).room.slots ≤ R.slots := by rw [show (headSpec ws rm).room.slots = ms from hrs]; exact hp.2.1
  have hPc : Pc a (A.U.calling g mk a) := hblind _ _ _ _ hp.2.2
  obtain ⟨U, Ls, c0, s0⟩ := A
  dsimp only [Pt.U, Pt.locs, Pt.cells, Pt.slots] at h1 h2 h3 h4 h5 X hn hPc ⊢
  obtain ⟨m9, methY, cY, hn9, hmY, hcY, -, hlY, -⟩ := Cond.codeWith_spec h2
  cases Option.some.inj (hn9.symm.trans hn)
  obtain ⟨kY, hkY, -⟩ := className_of_methodNamed hn
  have hinitY : kY.init = .initialized := Cond.initialized_spec (findClass_of_methodNamed hn) hkY h3
  have h : At U g.method c below := by rw [hg]; exact X.here
  have hlocals9 : W9 + (maxL + 11) + (headSpec ws rm).room.locals ≤ R.locals := hlocals
  have happ : (headSpec ws rm).appliesLoose y e.platform (U.calling g mk a) = true :=
    Spec.appliesLoose_calling (g := g) h hdg hn hkY hinitY
      (X.room_calling (g := g) (R' := (headSpec ws rm).room) hsize hmY hcY hframes (by rw [hlY]; omega) h4 h5) h1
  obtain ⟨mid, hmid⟩ := h.above
  have hfr : (U.setTop g).frames = (.java g :: mid) ++ below := by rw [State.frames_setTop' g h.top, hmid]; rfl
  obtain ⟨o, s₂, hsteps, -, hend, hq⟩ := Steps.callFree hM p X.admits X.cas X.clock (acts := []) hfr happ hPc trivial
  have hq' : vx_Q Qc XC mc ms free a (U.calling g mk a) o s₂ := hq
  rw [State.frames_setTop' g h.top] at hend
  obtain ⟨g₀, hg0⟩ := Option.isSome_iff_exists.mp h.top
  obtain ⟨r, hr⟩ := State.topJava?_eq_some.mp hg0
  have hr' : (({ U with heap := s₂.heap, slotsUsed := s₂.slotsUsed } : State).setVm s₂.vm).frames = .java g₀ :: r := hr
  rcases hq' with ⟨hqc, L, hfe, hL⟩ | ⟨q, rfl, E, ce, L, hx, hce, hcv, hcl, hW₂, hsm, hL⟩
  · obtain ⟨⟨v, rfl⟩, hW₂, e2, q2, q3, q4, q5, q6⟩ := id hfe
    have e3 : s₂ = ({ (U.calling g mk a).setFrames s₂.frames with heap := s₂.heap, slotsUsed := s₂.slotsUsed } : State).setVm s₂.vm := by
      have : s₂ = ({ s₂ with vm := (U.calling g mk a).vm } : State).setVm s₂.vm := rfl
      rw [e2] at this
      exact this
    obtain ⟨c₂, i₂, len₂, hc₂, hd₂, hf₂⟩ := hend
    have hW' : U.WarmedH s₂.vm := hW₂
    have hcc : c₂ = c := by
      have h1 : s₂.code? g.method = U.code? g.method := by
        rw [State.code?_eq, State.code?_eq, hW'.alike.method?]
      exact Option.some.inj (hc₂.symm.trans (h1.trans h.code))
    subst hcc
    have hlen : len₂ = len := by rw [hdg] at hd₂; cases hd₂; rfl
    subst hlen
    have hs₂ : s₂ = (({ U with heap := s₂.heap, slotsUsed := s₂.slotsUsed } : State).setVm s₂.vm).setTop { g with pc := g.pc + len₂, stack := v.toList ++ g.stack } := by
      refine e3.trans ?_
      rw [hf₂, State.calling_eq h.top, State.setFrames_setFrames, State.setTop_of_frames _ hr', hr]
      rfl
    have hsame : U.sameButNew ({ U with heap := s₂.heap, slotsUsed := s₂.slotsUsed } : State) L mc ms := by
      refine ⟨?_, q2, q3, q4, q5, q6⟩
      obtain ⟨t, ht, -⟩ := State.frames_cons hr
      show ({ U with heap := s₂.heap, slotsUsed := s₂.slotsUsed } : State) = { U.setFrames U.frames with heap := s₂.heap, slotsUsed := s₂.slotsUsed }
      rw [State.setFrames_self ht]
    subst hg
    refine Or.inl ⟨v, ⟨(({ U with heap := s₂.heap, slotsUsed := s₂.slotsUsed } : State).setVm s₂.vm), Ls ++ L, c0 + mc, s0 + ms⟩,
      ⟨X.admits, X.cas, X.clock, X.frames, X.room, X.hears, X.method, X.code, (X.here.setHeapUsed s₂.heap s₂.slotsUsed).setVm hW'.alike, X.tail, State.WarmedH.trans X.warmed hW', X.limits, X.bytes, X.same.trans (hsame.setVm s.vm)⟩,
      ⟨g, mk, s₂, L, rfl, rfl, hqc, rfl, hL, rfl, rfl⟩, ?_⟩
    show Steps p.tables e below _ ((({ U with heap := s₂.heap, slotsUsed := s₂.slotsUsed } : State).setVm s₂.vm).setTop { g with pc := g.pc + len₂, stack := v.toList ++ g.stack })
    rw [← hs₂]
    exact hsteps
  · obtain ⟨e2, q2, q3, q4, q5, q6⟩ := id hsm
    have e3 : s₂ = ({ (U.calling g mk a).setFrames s₂.frames with heap := s₂.heap, slotsUsed := s₂.slotsUsed } : State).setVm s₂.vm := by
      have : s₂ = ({ s₂ with vm := (U.calling g mk a).vm } : State).setVm s₂.vm := rfl
      rw [e2] at this
      exact this
    have hf₂ : s₂.frames = .throwing q :: .java g :: U.frames.tail := hend
    have hW' : U.WarmedH s₂.vm := hW₂
    have hs₂ : s₂ = ((({ U with heap := s₂.heap, slotsUsed := s₂.slotsUsed } : State).setVm s₂.vm).setTop g).pushFrame (.throwing q) := by
      refine e3.trans ?_
      rw [hf₂, State.calling_eq h.top, State.setFrames_setFrames, State.pushFrame, State.frames_setTop _ hr', State.setTop_of_frames _ hr', State.setFrames_setFrames, hr]
      rfl
    have hsame : U.sameButNew ({ U with heap := s₂.heap, slotsUsed := s₂.slotsUsed } : State) L mc ms := by
      refine ⟨?_, q2, q3, q4, q5, q6⟩
      obtain ⟨t, ht, -⟩ := State.frames_cons hr
      show ({ U with heap := s₂.heap, slotsUsed := s₂.slotsUsed } : State) = { U.setFrames U.frames with heap := s₂.heap, slotsUsed := s₂.slotsUsed }
      rw [State.setFrames_self ht]
    subst hg
    refine Or.inr ⟨q, ⟨(({ U with heap := s₂.heap, slotsUsed := s₂.slotsUsed } : State).setVm s₂.vm), Ls ++ L, c0 + mc, s0 + ms⟩,
      ⟨X.admits, X.cas, X.clock, X.frames, X.room, X.hears, X.method, X.code, (X.here.setHeapUsed s₂.heap s₂.slotsUsed).setVm hW'.alike, X.tail, State.WarmedH.trans X.warmed hW', X.limits, X.bytes, X.same.trans (hsame.setVm s.vm)⟩,
      ⟨g, mk, s₂, L, E, ce, rfl, rfl, hx, hce, hcv, hcl, rfl, hL, rfl, rfl⟩, ?_⟩
    show Steps p.tables e below _ (((({ U with heap := s₂.heap, slotsUsed := s₂.slotsUsed } : State).setVm s₂.vm).setTop g).pushFrame (.throwing q))
    rw [← hs₂]
    exact hsteps
end
variable {p : Program} {l : Launch} {e : Env} {R : Room} {s : State} {m : MethodId} {args : Array Value} {below : List Frame} {meth : Method} {c : Code} {T : State} {H : Heap} {locs : List Loc} {cells slots : Nat}
theorem vx_callVX (X : Stand p l e R s m args below meth c T locs cells slots) (hexec : p.tables.exec = Jvm.exec) {own C : String} {index : Nat} {y : MethodName} {bytes : ByteArray} {maxL : Nat} {ret : Option FieldType} {hh : List (Nat × Nat × Nat × Nat)}
    (hown : s.vm.findClass own = some m.cls) (hlink : (Cond.methodLink own index y).before args s = true) (hinst : (Cond.instanceMethod y).before args s = true) (hsel : (Cond.selects C y y).before args s = true)
    (hcode : (Cond.codeWith y bytes maxL ret hh).before args s = true) (hy : y.cls ≠ "java/lang/invoke/MethodHandle" ∧ y.cls ≠ "java/lang/invoke/VarHandle")
    {W9 : Nat} {Pre : Pt → Array Value → Prop} {Post : Pt → Array Value → Option Value → Pt → Prop} {PostX : Pt → Array Value → Addr → Pt → Prop} (hK : vx_Back l R p e below s args y 3 W9 Pre Post PostX)
    {b : Addr} {cellB : Cell} (hcell : T.heap[b]? = some cellB) (hobj : cellB.vm.isStatics = false) (hcls : s.vm.findClass C = some cellB.cls)
    {g : JFrame} (hg : g.method = m) (hsize : g.locals.size = c.maxLocals) {argsL rest : List Value} (hlen : ∀ sig, parseMethodDescriptor y.desc = some sig → argsL.length = sig.parameters.length)
    (hstack : g.stack = argsL.reverse ++ .ref b :: rest) (hW : 2 * g.monitorRoom + (rest.map fun v => v.category).sum ≤ W9) (hdg : decode c.code g.pc = .ok (.invokevirtual index, 3))
    (hpre : ∀ vm₁, s.WarmedH vm₁ → Pre ⟨T.setVm vm₁, locs, cells, slots⟩ (Value.ref b :: argsL).toArray) :
    (∃ (v : Option Value) (vm₁ : Vm) (B : Pt), s.WarmedH vm₁ ∧ Stand p l e R s m args below meth c B.U B.locs B.cells B.slots ∧ Post ⟨T.setVm vm₁, locs, cells, slots⟩ (Value.ref b :: argsL).toArray v B ∧
      ∀ target, Steps p.tables e below (B.U.setTop { g with pc := g.pc + 3, stack := v.toList ++ rest }) target → Steps p.tables e below (T.setTop g) target) ∨
    (∃ (q : Addr) (vm₁ : Vm) (B : Pt), s.WarmedH vm₁ ∧ Stand p l e R s m args below meth c B.U B.locs B.cells B.slots ∧ PostX ⟨T.setVm vm₁, locs, cells, slots⟩ (Value.ref b :: argsL).toArray q B ∧
      Steps p.tables e below (T.setTop g) ((B.U.setTop { g with stack := rest }).pushFrame (.throwing q))) := by
  obtain ⟨mk, methM, hnamed, hmethM, hstM, habM⟩ := Cond.instanceMethod_spec hinst
  obtain ⟨m8, methM', cM, hn8, hmethM', -, -, -, -, -, -, hsigM⟩ := Cond.codeWith_spec hcode
  cases Option.some.inj (hn8.symm.trans hnamed)
  cases hmethM.symm.trans hmethM'
  obtain ⟨c2, r2, m2, q1, q2, q3, q4, kP, hkP, hkPi⟩ := Cond.selects_spec hsel
  cases hcls.symm.trans q1
  cases (State.methodFound?_of_named hnamed hy).symm.trans q2
  cases hnamed.symm.trans q3
  have hselP : selectMethod e.platform s.vm cellB.cls mk = .method mk := by rw [Launch.admits_selectMethod X.admits]; exact q4
  obtain ⟨vm₁, X₁, hstep₁⟩ := X.invokevirtual hexec hown hlink hnamed hmethM hstM hkP hkPi hy (a := b) (cell := cellB) hcell
    (fun z h => by rw [h] at hobj; cases hobj) hselP hmethM habM hkP hkPi (g := g) hg (argsL := argsL) (rest := rest) (hlen _ hsigM) hstack hdg
  rcases hK m meth c ⟨T.setVm vm₁, locs, cells, slots⟩ { g with stack := rest } (.invokevirtual index) mk (Value.ref b :: argsL).toArray X₁ hg hsize hdg hW (X₁.named hnamed) (hpre vm₁ X₁.warmed) with ⟨v, B, X', hpost, hsteps⟩ | ⟨q, B, X', hpost, hsteps⟩
  · exact Or.inl ⟨v, vm₁, B, X₁.warmed, X', hpost, fun target h => hstep₁ _ fun acts => by rw [doInvoke_state]; exact hsteps.trans h⟩
  · exact Or.inr ⟨q, vm₁, B, X₁.warmed, X', hpost, hstep₁ _ fun acts => by rw [doInvoke_state]; exact hsteps⟩
theorem vx_callSX (X : Stand p l e R s m args below meth c T locs cells slots) (hexec : p.tables.exec = Jvm.exec) {own : String} {index : Nat} {y : MethodName} {bytes : ByteArray} {maxL : Nat} {ret : Option FieldType} {hh : List (Nat × Nat × Nat × Nat)}
    (hown : s.vm.findClass own = some m.cls) (hlink : (Cond.methodLink own index y).before args s = true) (hstat : (Cond.static y).before args s = true) (hinit : (Cond.initialized y.cls).before args s = true)
    (hcode : (Cond.codeWith y bytes maxL ret hh).before args s = true) (hy : y.cls ≠ "java/lang/invoke/MethodHandle" ∧ y.cls ≠ "java/lang/invoke/VarHandle")
    {W9 : Nat} {Pre : Pt → Array Value → Prop} {Post : Pt → Array Value → Option Value → Pt → Prop} {PostX : Pt → Array Value → Addr → Pt → Prop} (hK : vx_Back l R p e below s args y 3 W9 Pre Post PostX)
    {g : JFrame} (hg : g.method = m) (hsize : g.locals.size = c.maxLocals) {argsL rest : List Value} (hlen : ∀ sig, parseMethodDescriptor y.desc = some sig → argsL.length = sig.parameters.length)
    (hstack : g.stack = argsL.reverse ++ rest) (hW : 2 * g.monitorRoom + (rest.map fun v => v.category).sum ≤ W9) (hdg : decode c.code g.pc = .ok (.invokestatic index, 3))
    (hpre : ∀ vm₁, s.WarmedH vm₁ → Pre ⟨T.setVm vm₁, locs, cells, slots⟩ argsL.toArray) :
    (∃ (v : Option Value) (vm₁ : Vm) (B : Pt), s.WarmedH vm₁ ∧ Stand p l e R s m args below meth c B.U B.locs B.cells B.slots ∧ Post ⟨T.setVm vm₁, locs, cells, slots⟩ argsL.toArray v B ∧
      ∀ target, Steps p.tables e below (B.U.setTop { g with pc := g.pc + 3, stack := v.toList ++ rest }) target → Steps p.tables e below (T.setTop g) target) ∨
    (∃ (q : Addr) (vm₁ : Vm) (B : Pt), s.WarmedH vm₁ ∧ Stand p l e R s m args below meth c B.U B.locs B.cells B.slots ∧ PostX ⟨T.setVm vm₁, locs, cells, slots⟩ argsL.toArray q B ∧
      Steps p.tables e below (T.setTop g) ((B.U.setTop { g with stack := rest }).pushFrame (.throwing q))) := by
  obtain ⟨mk, methM, cM, hnamed, hmethM, -, -, -, -, -, -, hsigM⟩ := Cond.codeWith_spec hcode
  have hstatic : methM.isStatic = true := Cond.static_spec hnamed hmethM hstat
  obtain ⟨kP, hkP, -⟩ := className_of_methodNamed hnamed
  have hinitP : kP.init = .initialized := Cond.initialized_spec (findClass_of_methodNamed hnamed) hkP hinit
  obtain ⟨vm₁, X₁, hstep₁⟩ := X.invokestatic hexec hown hlink hnamed hmethM hstatic hkP hinitP hy (g := g) hg (argsL := argsL) (rest := rest) (hlen _ hsigM) hstack hdg
  rcases hK m meth c ⟨T.setVm vm₁, locs, cells, slots⟩ { g with stack := rest } (.invokestatic index) mk argsL.toArray X₁ hg hsize hdg hW (X₁.named hnamed) (hpre vm₁ X₁.warmed) with ⟨v, B, X', hpost, hsteps⟩ | ⟨q, B, X', hpost, hsteps⟩
  · exact Or.inl ⟨v, vm₁, B, X₁.warmed, X', hpost, fun target h => hstep₁ _ fun acts => by rw [doInvoke_state]; exact hsteps.trans h⟩
  · exact Or.inr ⟨q, vm₁, B, X₁.warmed, X', hpost, hstep₁ _ fun acts => by rw [doInvoke_state]; exact hsteps⟩
theorem vx_callVW (X : Stand p l e R s m args below meth c T locs cells slots) (hexec : p.tables.exec = Jvm.exec) {own C : String} {index : Nat} {y : MethodName} {bytes : ByteArray} {maxL : Nat} {ret : Option FieldType} {hh : List (Nat × Nat × Nat × Nat)}
    (hown : s.vm.findClass own = some m.cls) (hlink : (Cond.methodLink own index y).before args s = true) (hinst : (Cond.instanceMethod y).before args s = true) (hsel : (Cond.selects C y y).before args s = true)
    (hcode : (Cond.codeWith y bytes maxL ret hh).before args s = true) (hy : y.cls ≠ "java/lang/invoke/MethodHandle" ∧ y.cls ≠ "java/lang/invoke/VarHandle")
    {W9 : Nat} {Pre : Pt → Array Value → Prop} {Post : Pt → Array Value → Option Value → Pt → Prop} (hK : Back l R p e below s args y 3 W9 Pre Post)
    {b : Addr} {cellB : Cell} (hcell : T.heap[b]? = some cellB) (hobj : cellB.vm.isStatics = false) (hcls : s.vm.findClass C = some cellB.cls)
    {g : JFrame} (hg : g.method = m) (hsize : g.locals.size = c.maxLocals) {argsL rest : List Value} (hlen : ∀ sig, parseMethodDescriptor y.desc = some sig → argsL.length = sig.parameters.length)
    (hstack : g.stack = argsL.reverse ++ .ref b :: rest) (hW : 2 * g.monitorRoom + (rest.map fun v => v.category).sum ≤ W9) (hdg : decode c.code g.pc = .ok (.invokevirtual index, 3))
    (hpre : ∀ vm₁, s.WarmedH vm₁ → Pre ⟨T.setVm vm₁, locs, cells, slots⟩ (Value.ref b :: argsL).toArray) :
    ∃ (v : Option Value) (vm₁ : Vm) (B : Pt), s.WarmedH vm₁ ∧ Stand p l e R s m args below meth c B.U B.locs B.cells B.slots ∧ Post ⟨T.setVm vm₁, locs, cells, slots⟩ (Value.ref b :: argsL).toArray v B ∧
      ∀ target, Steps p.tables e below (B.U.setTop { g with pc := g.pc + 3, stack := v.toList ++ rest }) target → Steps p.tables e below (T.setTop g) target := by
  obtain ⟨mk, methM, hnamed, hmethM, hstM, habM⟩ := Cond.instanceMethod_spec hinst
  obtain ⟨m8, methM', cM, hn8, hmethM', -, -, -, -, -, -, hsigM⟩ := Cond.codeWith_spec hcode
  cases Option.some.inj (hn8.symm.trans hnamed)
  cases hmethM.symm.trans hmethM'
  obtain ⟨c2, r2, m2, q1, q2, q3, q4, kP, hkP, hkPi⟩ := Cond.selects_spec hsel
  cases hcls.symm.trans q1
  cases (State.methodFound?_of_named hnamed hy).symm.trans q2
  cases hnamed.symm.trans q3
  have hselP : selectMethod e.platform s.vm cellB.cls mk = .method mk := by rw [Launch.admits_selectMethod X.admits]; exact q4
  obtain ⟨vm₁, X₁, hstep₁⟩ := X.invokevirtual hexec hown hlink hnamed hmethM hstM hkP hkPi hy (a := b) (cell := cellB) hcell
    (fun z h => by rw [h] at hobj; cases hobj) hselP hmethM habM hkP hkPi (g := g) hg (argsL := argsL) (rest := rest) (hlen _ hsigM) hstack hdg
  obtain ⟨v, B, X', hpost, hsteps⟩ := hK m meth c ⟨T.setVm vm₁, locs, cells, slots⟩ { g with stack := rest } (.invokevirtual index) mk (Value.ref b :: argsL).toArray X₁ hg hsize hdg hW (X₁.named hnamed) (hpre vm₁ X₁.warmed)
  exact ⟨v, vm₁, B, X₁.warmed, X', hpost, fun target h => hstep₁ _ fun acts => by rw [doInvoke_state]; exact hsteps.trans h⟩
abbrev vx_CVW (R : Room) (s : State) (args : Array Value) (own C : String) (index : Nat) (y : MethodName) (bytes : ByteArray) (maxL : Nat) (ret : Option FieldType) (hh : List (Nat × Nat × Nat × Nat)) (ws : List Cond) (rm : Room) (mc ms n : Nat) : Prop :=
  (rm.cells = mc ∧ rm.slots = ms ∧ rm.frames + 1 ≤ R.frames ∧ 8 + (maxL + 11) + rm.locals ≤ R.locals ∧ (∀ w ∈ ws, ∀ (a' : Array Value) (U : State), s.WarmedH U.vm → w.before a' U = true) ∧ Cond.codeWith y bytes maxL ret hh ∈ ws) ∧
  (Cond.codeWith y bytes maxL ret hh).before args s = true ∧ (Cond.initialized y.cls).before args s = true ∧ (y.cls ≠ "java/lang/invoke/MethodHandle" ∧ y.cls ≠ "java/lang/invoke/VarHandle") ∧
  (∀ sig, parseMethodDescriptor y.desc = some sig → n = sig.parameters.length) ∧ (Cond.methodLink own index y).before args s = true ∧ (Cond.instanceMethod y).before args s = true ∧ (Cond.selects C y y).before args s = true
theorem vx_cwVW {own C : String} {index maxL mc ms : Nat} {y : MethodName} {bytes : ByteArray} {ret : Option FieldType} {hh : List (Nat × Nat × Nat × Nat)} {Ts ws ws' : List Cond} {rm : Room} (n : Nat) (ht : ∀ w ∈ Ts, w.before args s = true) (hT : GoodIn Ts (wsV own index C y ws)) (hw : ws = Cond.codeWith y bytes maxL ret hh :: ws') (hrc : rm.cells = mc) (hrs : rm.slots = ms)
    (hd : y.cls = C ∧ y.cls ≠ "java/lang/invoke/MethodHandle" ∧ y.cls ≠ "java/lang/invoke/VarHandle" ∧ (parseMethodDescriptor y.desc).map (fun d => d.parameters.length) = some n) (hR : rm.frames + 1 ≤ R.frames ∧ 8 + (maxL + 11) + rm.locals ≤ R.locals) :
    vx_CVW R s args own C index y bytes maxL ret hh ws rm mc ms n := by
  obtain ⟨hC, hd⟩ := hd
  subst hC
  have ok : ∀ w ∈ wsV own index y.cls y ws, w.before args s = true := fun w h => ht w (hT w h).1
  have hG : GoodIn Ts ws := fun w h => hT w (by unfold wsV; exact List.mem_append_right _ h)
  have hc : Cond.codeWith y bytes maxL ret hh ∈ ws := by rw [hw]; exact List.mem_cons_self
  refine ⟨⟨hrc, hrs, hR.1, hR.2, pay_in ht hG, hc⟩, ht _ (hG _ hc).1, ok _ (by simp [wsV]), ⟨hd.1, hd.2.1⟩, fun sig h => ?_, ok _ (by simp [wsV]), ok _ (by simp [wsV]), ok _ (by simp [wsV])⟩
  have h2 := hd.2.2
  rw [h] at h2
  exact (Option.some.inj h2).symm
theorem vx_runVW {y : MethodName} {bytes cc : ByteArray} {maxL nL mc ms n index : Nat} {ret : Option FieldType} {hh : List (Nat × Nat × Nat × Nat)} {ws : List Cond} {rm : Room} {Pc : Array Value → State → Prop} {Qc : Array Value → State → Outcome → State → Prop} {free : Addr → Prop} {Ts : List Cond} {own C : String} {b : Addr} {As rest : List Value} {g : JFrame}
    (S : CallFix p m c cc nL s args Ts own) (hM : Met l y ws rm Pc Qc mc ms free) (cw : vx_CVW R s args own C index y bytes maxL ret hh ws rm mc ms n) (hp : PreV s H C b Pc As)
    (hg : g.method = m) (hn : As.length = n) (hsize : g.locals.size = nL) (hstack : g.stack = As.reverse ++ .ref b :: rest) (hW : 2 * g.monitorRoom + (rest.map fun v => v.category).sum ≤ 8) (hdg : decode cc g.pc = .ok (.invokevirtual index, 3)) (hf : cells + mc ≤ R.cells ∧ slots + ms ≤ R.slots) :
    va_Run p l e R s m args below meth c H locs cells slots mc ms g rest (Qc (Value.ref b :: As).toArray) free := by
  obtain ⟨⟨hrc, hrs, hfr, hlo, hws, hcw⟩, hcode, hini, hy, hlen, hl, hin, hse⟩ := cw
  have hK : Back l R p e below s args y 3 8 (PreOf R mc ms Pc) (PostOf Qc mc ms free) := va_backW (hh := hh) (bytes := bytes) (maxL := maxL) (ret := ret) hM hp.1 hrc hrs hfr hlo hws hcw (fun a' U hW => word_at hW (Or.inl (by first | rfl | simp [Cond.onTables, Cond.keeps, Cond.steady])) hini)
  obtain ⟨hx, hb, hml, ho, -⟩ := S
  obtain ⟨-, ⟨cellB, hcB, hoB, hclB⟩, hPc⟩ := hp
  intro T hT X
  obtain ⟨v, vm₁, ⟨U', l2, c2, s2⟩, hW₁, X', ⟨g', mk, t, L, e1, e2, hq, h1, hL, h2, h3⟩, st⟩ := vx_callVW X hx (C := C) (hh := hh) (bytes := bytes) (maxL := maxL) (ret := ret) ho hl hin hse hcode hy hK (by rw [hT]; exact hcB) hoB hclB hg (hsize.trans hml.symm) (argsL := As) (rest := rest) (fun sig h => hn.trans (hlen sig h)) hstack hW (by rw [hb]; exact hdg)
    (fun vm₁ hW₁ => ⟨hf.1, hf.2, hPc (T.setVm vm₁) hT hW₁⟩)
  dsimp only [Pt.U, Pt.locs, Pt.cells, Pt.slots] at X' e1 e2 h1 h2 h3 st
  subst h1; subst h2; subst h3
  exact ⟨v, (T.setVm vm₁).calling g' mk (Value.ref b :: As).toArray, t, U', L, hT, X', hL, e1, e2, hq, st⟩
section
variable {y : MethodName} {bytes cc : ByteArray} {maxL nL mc ms n index : Nat} {ret : Option FieldType} {ws : List Cond} {rm : Room} {Pc : Array Value → State → Prop} {Qc : Array Value → State → Outcome → State → Prop} {XC : String → State → State → Prop} {free : Addr → Prop} {Ts : List Cond} {own C : String} {b : Addr} {As rest : List Value} {g : JFrame}
theorem vx_runVX {hh : List (Nat × Nat × Nat × Nat)} (S : CallFix p m c cc nL s args Ts own) (hM : vx_Met l y ws rm Pc Qc XC mc ms free) (cw : vx_CVW R s args own C index y bytes maxL ret hh ws rm mc ms n) (hp : PreV s H C b Pc As)
    (hg : g.method = m) (hn : As.length = n) (hsize : g.locals.size = nL) (hstack : g.stack = As.reverse ++ .ref b :: rest) (hW : 2 * g.monitorRoom + (rest.map fun v => v.category).sum ≤ 8) (hdg : decode cc g.pc = .ok (.invokevirtual index, 3)) (hf : cells + mc ≤ R.cells ∧ slots + ms ≤ R.slots) :
    vx_Run p l e R s m args below meth c H locs cells slots mc ms g rest (Qc (Value.ref b :: As).toArray) XC free := by
  obtain ⟨⟨hrc, hrs, hfr, hlo, hws, hcw⟩, hcode, hini, hy, hlen, hl, hin, hse⟩ := cw
  have hK : vx_Back l R p e below s args y 3 8 (PreOf R mc ms Pc) (PostOf Qc mc ms free) (vx_Post XC mc ms free) := vx_backW (hh := hh) (bytes := bytes) (maxL := maxL) (ret := ret) hM hp.1 hrc hrs hfr hlo hws hcw (fun a' U hW => word_at hW (Or.inl (by first | rfl | simp [Cond.onTables, Cond.keeps, Cond.steady])) hini)
  obtain ⟨hx, hb, hml, ho, -⟩ := S
  obtain ⟨-, ⟨cellB, hcB, hoB, hclB⟩, hPc⟩ := hp
  intro T hT X
  rcases vx_callVX X hx (C := C) (hh := hh) (bytes := bytes) (maxL := maxL) (ret := ret) ho hl hin hse hcode hy hK (by rw [hT]; exact hcB) hoB hclB hg (hsize.trans hml.symm) (argsL := As) (rest := rest) (fun sig h => hn.trans (hlen sig h)) hstack hW (by rw [hb]; exact hdg)
    (fun vm₁ hW₁ => ⟨hf.1, hf.2, hPc (T.setVm vm₁) hT hW₁⟩) with ⟨v, vm₁, ⟨U', l2, c2, s2⟩, hW₁, X', ⟨g', mk, t, L, e1, e2, hq, h1, hL, h2, h3⟩, st⟩ | ⟨q, vm₁, ⟨U', l2, c2, s2⟩, hW₁, X', ⟨g', mk, t, L, E, ce, e1, e2, hq, hce, hcv, hcl, h1, hL, h2, h3⟩, st⟩
  · dsimp only [Pt.U, Pt.locs, Pt.cells, Pt.slots] at X' e1 e2 h1 h2 h3 st
    subst h1; subst h2; subst h3
    exact Or.inl ⟨v, (T.setVm vm₁).calling g' mk (Value.ref b :: As).toArray, t, U', L, hT, X', hL, e1, e2, hq, st⟩
  · dsimp only [Pt.U, Pt.locs, Pt.cells, Pt.slots] at X' e1 e2 h1 h2 h3 st hcl
    subst h1; subst h2; subst h3
    exact Or.inr ⟨q, (T.setVm vm₁).calling g' mk (Value.ref b :: As).toArray, t, U', L, E, ce, hT, X', hL, e1, e2, hq, hce, hcv, vx_cls hW₁ hcl, st⟩
theorem vx_runSX {hh : List (Nat × Nat × Nat × Nat)} (S : CallFix p m c cc nL s args Ts own) (hM : vx_Met l y ws rm Pc Qc XC mc ms free) (cw : vx_CSW R s args own index y bytes maxL ret hh ws rm mc ms n) (hp : PreS s H Pc As)
    (hg : g.method = m) (hn : As.length = n) (hsize : g.locals.size = nL) (hstack : g.stack = As.reverse ++ rest) (hW : 2 * g.monitorRoom + (rest.map fun v => v.category).sum ≤ 8) (hdg : decode cc g.pc = .ok (.invokestatic index, 3)) (hf : cells + mc ≤ R.cells ∧ slots + ms ≤ R.slots) :
    vx_Run p l e R s m args below meth c H locs cells slots mc ms g rest (Qc As.toArray) XC free := by
  obtain ⟨⟨hrc, hrs, hfr, hlo, hws, hcw⟩, hcode, hini, hy, hlen, hl, hstt⟩ := cw
  have hK : vx_Back l R p e below s args y 3 8 (PreOf R mc ms Pc) (PostOf Qc mc ms free) (vx_Post XC mc ms free) := vx_backW (hh := hh) (bytes := bytes) (maxL := maxL) (ret := ret) hM hp.1 hrc hrs hfr hlo hws hcw (fun a' U hW => word_at hW (Or.inl (by first | rfl | simp [Cond.onTables, Cond.keeps, Cond.steady])) hini)
  obtain ⟨hx, hb, hml, ho, -⟩ := S
  intro T hT X
  rcases vx_callSX X hx (hh := hh) (bytes := bytes) (maxL := maxL) (ret := ret) ho hl hstt hini hcode hy hK hg (hsize.trans hml.symm) (argsL := As) (rest := rest) (fun sig h => hn.trans (hlen sig h)) hstack hW (by rw [hb]; exact hdg)
    (fun vm₁ hW₁ => ⟨hf.1, hf.2, hp.2 (T.setVm vm₁) hT hW₁⟩) with ⟨v, vm₁, ⟨U', l2, c2, s2⟩, hW₁, X', ⟨g', mk, t, L, e1, e2, hq, h1, hL, h2, h3⟩, st⟩ | ⟨q, vm₁, ⟨U', l2, c2, s2⟩, hW₁, X', ⟨g', mk, t, L, E, ce, e1, e2, hq, hce, hcv, hcl, h1, hL, h2, h3⟩, st⟩
  · dsimp only [Pt.U, Pt.locs, Pt.cells, Pt.slots] at X' e1 e2 h1 h2 h3 st
    subst h1; subst h2; subst h3
    exact Or.inl ⟨v, (T.setVm vm₁).calling g' mk As.toArray, t, U', L, hT, X', hL, e1, e2, hq, st⟩
  · dsimp only [Pt.U, Pt.locs, Pt.cells, Pt.slots] at X' e1 e2 h1 h2 h3 st hcl
    subst h1; subst h2; subst h3
    exact Or.inr ⟨q, (T.setVm vm₁).calling g' mk As.toArray, t, U', L, E, ce, hT, X', hL, e1, e2, hq, hce, hcv, vx_cls hW₁ hcl, st⟩
end
end VXH
theorem vx_ofWH {l : Launch} {y : MethodName} {ws ws' : List Cond} {rm : Room} {Pc : Array Value → State → Prop} {Qc : Array Value → State → Outcome → State → Prop} {XC : String → State → State → Prop} {mc ms : Nat} {free : Addr → Prop} {cc : ByteArray} {maxL : Nat} {ret : Option FieldType} {hh : List (Nat × Nat × Nat × Nat)}
    (hy : plainName y.cls = true) (hw : ws = Cond.codeWith y cc maxL ret hh :: ws')
    (body : ∀ p e s m args below meth c s₁, BodyLoose p l y (headSpec ws rm) cc maxL ret e s m args below meth c s₁ → c.maxLocals = maxL → Pc args s →
      W p l e (headSpec ws rm).room s m args below meth c s.heap [] 0 0 (vx_MQ below Qc XC args s mc ms free) (entryFrame m args maxL)) : vx_Met l y ws rm Pc Qc XC mc ms free := by
  refine MetFree.of_bodyS (code := cc) (maxLocals := maxL) (ret := ret) hy ?_ ?_
  · intro args s m h hn
    obtain ⟨m9, meth, c, hn9, h1, h2, h3, h4, -, h5, h6, -⟩ := Cond.codeWith_spec (atoms_spec (ws := ws) h _ (by rw [hw]; exact List.mem_cons_self))
    cases hn.symm.trans hn9
    exact ⟨meth, c, h1, h2, h3, h4, h5, h6⟩
  · intro p e s m args below meth c s₁ B hml hP _
    have hh0 : s₁.heap = s.heap := by rw [B.state]; rfl
    obtain ⟨t, a1, o, b1, b2, b3⟩ := body p e s m args below meth c s₁ B hml hP s₁ hh0 (Stand.of_body B)
    exact ⟨t, o, a1, b1, b2, b3⟩
/-! ===== END ===== -/

/-! ===== BEGIN printed: names, fields, word lists, decode rows ===== -/
def RX0 : String := "SlideMills$Dictionary"
def TX0 : u_T := fun k => match k with
  | 0 => ("SlideMills$Dictionary", "counts", "[I", true)
  | 1 => ("SlideMills$Dictionary", "lastPlaces", "[I", true)
  | _ => ("SlideMills$Dictionary", "earlierPlaces", "[I", true)
def tyX0 : Nat → FieldType := fun k => match k with
  | 0 => .array .int
  | 1 => .array .int
  | _ => .array .int
abbrev wsX00 : List Cond := u_ws RX0 TX0 3
theorem nmX0 : ∀ a, a < 3 → ∀ b, b < 3 → a ≠ b → (TX0 a).2.1 ≠ (TX0 b).2.1 := by decide +kernel
theorem tyX0_ok : ∀ k, k < 3 → parseFieldDescriptor (TX0 k).2.2.1 = some (tyX0 k) := by decide +kernel
abbrev cX0_init : ByteArray := prog_2_method_1_code
def yX0_init : MethodName := ⟨RX0, "<init>", "()V"⟩
abbrev cX0_read : ByteArray := prog_2_method_2_code
def yX0_read : MethodName := ⟨RX0, "read", "(LSlideMills$Letters;)V"⟩
abbrev cX0_note : ByteArray := prog_2_method_3_code
def yX0_note : MethodName := ⟨RX0, "note", "(II)V"⟩
abbrev cX0_times : ByteArray := prog_2_method_4_code
def yX0_times : MethodName := ⟨RX0, "times", "(I)I"⟩
abbrev cX0_lastPlace : ByteArray := prog_2_method_5_code
def yX0_lastPlace : MethodName := ⟨RX0, "lastPlace", "(I)I"⟩
abbrev cX0_earlierPlace : ByteArray := prog_2_method_6_code
def yX0_earlierPlace : MethodName := ⟨RX0, "earlierPlace", "(I)I"⟩
abbrev cX0_commonest : ByteArray := prog_2_method_7_code
def yX0_commonest : MethodName := ⟨RX0, "commonest", "()I"⟩
def RX1 : String := "SlideMills$History"
def TX1 : u_T := fun k => match k with
  | 0 => ("SlideMills$History", "ring", "[LSlideMills$State;", true)
  | 1 => ("SlideMills$History", "next", "I", false)
  | _ => ("SlideMills$History", "count", "I", false)
def tyX1 : Nat → FieldType := fun k => match k with
  | 0 => .array (.object "SlideMills$State")
  | 1 => .int
  | _ => .int
abbrev wsX10 : List Cond := u_ws RX1 TX1 3
theorem nmX1 : ∀ a, a < 3 → ∀ b, b < 3 → a ≠ b → (TX1 a).2.1 ≠ (TX1 b).2.1 := by decide +kernel
theorem tyX1_ok : ∀ k, k < 3 → parseFieldDescriptor (TX1 k).2.2.1 = some (tyX1 k) := by decide +kernel
abbrev cX1_init : ByteArray := prog_3_method_1_code
def yX1_init : MethodName := ⟨RX1, "<init>", "()V"⟩
abbrev cX1_push : ByteArray := prog_3_method_2_code
def yX1_push : MethodName := ⟨RX1, "push", "(LSlideMills$State;)V"⟩
def RX2 : String := "SlideMills$Letters"
def TX2 : u_T := fun k => match k with
  | 0 => ("SlideMills$Letters", "row", "[I", true)
  | _ => ("SlideMills$Letters", "count", "I", false)
def tyX2 : Nat → FieldType := fun k => match k with
  | 0 => .array .int
  | _ => .int
abbrev wsX20 : List Cond := u_ws RX2 TX2 2
theorem nmX2 : ∀ a, a < 2 → ∀ b, b < 2 → a ≠ b → (TX2 a).2.1 ≠ (TX2 b).2.1 := by decide +kernel
theorem tyX2_ok : ∀ k, k < 2 → parseFieldDescriptor (TX2 k).2.2.1 = some (tyX2 k) := by decide +kernel
abbrev cX2_init : ByteArray := prog_4_method_1_code
def yX2_init : MethodName := ⟨RX2, "<init>", "()V"⟩
abbrev cX2_has : ByteArray := prog_4_method_2_code
def yX2_has : MethodName := ⟨RX2, "has", "(I)Z"⟩
abbrev cX2_get : ByteArray := prog_4_method_3_code
def yX2_get : MethodName := ⟨RX2, "get", "(I)I"⟩
abbrev cX2_put : ByteArray := prog_4_method_4_code
def yX2_put : MethodName := ⟨RX2, "put", "(I)V"⟩
abbrev cX2_replace : ByteArray := prog_4_method_5_code
def yX2_replace : MethodName := ⟨RX2, "replace", "(II)V"⟩
abbrev cX2_clear : ByteArray := prog_4_method_6_code
def yX2_clear : MethodName := ⟨RX2, "clear", "()V"⟩
abbrev cX2_isLike : ByteArray := prog_4_method_7_code
def yX2_isLike : MethodName := ⟨RX2, "isLike", "(LSlideMills$Letters;)Z"⟩
abbrev cX2_copyFrom : ByteArray := prog_4_method_8_code
def yX2_copyFrom : MethodName := ⟨RX2, "copyFrom", "(LSlideMills$Letters;)V"⟩
def RX3 : String := "SlideMills$Mill"
def TX3 : u_T := fun k => match k with
  | 0 => ("SlideMills$Mill", "text", "LSlideMills$Letters;", true)
  | 1 => ("SlideMills$Mill", "settings", "LSlideMills$Settings;", true)
  | _ => ("SlideMills$Mill", "dictionary", "LSlideMills$Dictionary;", true)
def tyX3 : Nat → FieldType := fun k => match k with
  | 0 => .object "SlideMills$Letters"
  | 1 => .object "SlideMills$Settings"
  | _ => .object "SlideMills$Dictionary"
abbrev wsX30 : List Cond := u_ws RX3 TX3 3
theorem nmX3 : ∀ a, a < 3 → ∀ b, b < 3 → a ≠ b → (TX3 a).2.1 ≠ (TX3 b).2.1 := by decide +kernel
theorem tyX3_ok : ∀ k, k < 3 → parseFieldDescriptor (TX3 k).2.2.1 = some (tyX3 k) := by decide +kernel
abbrev cX3_init : ByteArray := prog_5_method_1_code
def yX3_init : MethodName := ⟨RX3, "<init>", "(LSlideMills$Letters;LSlideMills$Settings;)V"⟩
abbrev cX3_alike : ByteArray := prog_5_method_2_code
def yX3_alike : MethodName := ⟨RX3, "alike", "(II)I"⟩
abbrev cX3_longestAt : ByteArray := prog_5_method_3_code
def yX3_longestAt : MethodName := ⟨RX3, "longestAt", "(II)I"⟩
abbrev cX3_longestByPairs : ByteArray := prog_5_method_4_code
def yX3_longestByPairs : MethodName := ⟨RX3, "longestByPairs", "(I)I"⟩
abbrev cX3_leastDistance : ByteArray := prog_5_method_5_code
def yX3_leastDistance : MethodName := ⟨RX3, "leastDistance", "(II)I"⟩
def RX4 : String := "SlideMills$Packer"
def TX4 : u_T := fun k => match k with
  | 0 => ("SlideMills$Packer", "mill", "LSlideMills$Mill;", true)
  | _ => ("SlideMills$Packer", "costs", "[I", true)
def tyX4 : Nat → FieldType := fun k => match k with
  | 0 => .object "SlideMills$Mill"
  | _ => .array .int
abbrev wsX40 : List Cond := u_ws RX4 TX4 2
theorem nmX4 : ∀ a, a < 2 → ∀ b, b < 2 → a ≠ b → (TX4 a).2.1 ≠ (TX4 b).2.1 := by decide +kernel
theorem tyX4_ok : ∀ k, k < 2 → parseFieldDescriptor (TX4 k).2.2.1 = some (tyX4 k) := by decide +kernel
abbrev cX4_init : ByteArray := prog_6_method_1_code
def yX4_init : MethodName := ⟨RX4, "<init>", "(LSlideMills$Mill;)V"⟩
abbrev cX4_packBy : ByteArray := prog_6_method_2_code
def yX4_packBy : MethodName := ⟨RX4, "packBy", "(ILSlideMills$Sack;)V"⟩
abbrev cX4_packByLongest : ByteArray := prog_6_method_3_code
def yX4_packByLongest : MethodName := ⟨RX4, "packByLongest", "(LSlideMills$Sack;Z)V"⟩
abbrev cX4_packCheaply : ByteArray := prog_6_method_4_code
def yX4_packCheaply : MethodName := ⟨RX4, "packCheaply", "(LSlideMills$Sack;)V"⟩
abbrev cX4_putTokenAt : ByteArray := prog_6_method_5_code
def yX4_putTokenAt : MethodName := ⟨RX4, "putTokenAt", "(IILSlideMills$Sack;)I"⟩
abbrev cX4_cheapestLength : ByteArray := prog_6_method_6_code
def yX4_cheapestLength : MethodName := ⟨RX4, "cheapestLength", "(I)I"⟩
abbrev cX4_costAt : ByteArray := prog_6_method_7_code
def yX4_costAt : MethodName := ⟨RX4, "costAt", "(I)I"⟩
abbrev cX4_setCost : ByteArray := prog_6_method_8_code
def yX4_setCost : MethodName := ⟨RX4, "setCost", "(II)V"⟩
abbrev cX4_leastFromEnd : ByteArray := prog_6_method_9_code
def yX4_leastFromEnd : MethodName := ⟨RX4, "leastFromEnd", "(I)I"⟩
abbrev cX4_leastFromBeginning : ByteArray := prog_6_method_10_code
def yX4_leastFromBeginning : MethodName := ⟨RX4, "leastFromBeginning", "()I"⟩
abbrev cX4_lower : ByteArray := prog_6_method_11_code
def yX4_lower : MethodName := ⟨RX4, "lower", "(II)V"⟩
def RX5 : String := "SlideMills$Sack"
def TX5 : u_T := fun k => match k with
  | 0 => ("SlideMills$Sack", "distances", "[I", true)
  | 1 => ("SlideMills$Sack", "values", "[I", true)
  | _ => ("SlideMills$Sack", "count", "I", false)
def tyX5 : Nat → FieldType := fun k => match k with
  | 0 => .array .int
  | 1 => .array .int
  | _ => .int
abbrev wsX50 : List Cond := u_ws RX5 TX5 3
theorem nmX5 : ∀ a, a < 3 → ∀ b, b < 3 → a ≠ b → (TX5 a).2.1 ≠ (TX5 b).2.1 := by decide +kernel
theorem tyX5_ok : ∀ k, k < 3 → parseFieldDescriptor (TX5 k).2.2.1 = some (tyX5 k) := by decide +kernel
abbrev cX5_init : ByteArray := prog_7_method_1_code
def yX5_init : MethodName := ⟨RX5, "<init>", "()V"⟩
abbrev cX5_has : ByteArray := prog_7_method_2_code
def yX5_has : MethodName := ⟨RX5, "has", "(I)Z"⟩
abbrev cX5_isFull : ByteArray := prog_7_method_3_code
def yX5_isFull : MethodName := ⟨RX5, "isFull", "()Z"⟩
abbrev cX5_distance : ByteArray := prog_7_method_4_code
def yX5_distance : MethodName := ⟨RX5, "distance", "(I)I"⟩
abbrev cX5_value : ByteArray := prog_7_method_5_code
def yX5_value : MethodName := ⟨RX5, "value", "(I)I"⟩
abbrev cX5_length : ByteArray := prog_7_method_6_code
def yX5_length : MethodName := ⟨RX5, "length", "(I)I"⟩
abbrev cX5_put : ByteArray := prog_7_method_7_code
def yX5_put : MethodName := ⟨RX5, "put", "(II)V"⟩
abbrev cX5_clear : ByteArray := prog_7_method_8_code
def yX5_clear : MethodName := ⟨RX5, "clear", "()V"⟩
abbrev cX5_cost : ByteArray := prog_7_method_9_code
def yX5_cost : MethodName := ⟨RX5, "cost", "(LSlideMills$Settings;)I"⟩
abbrev cX5_letters : ByteArray := prog_7_method_10_code
def yX5_letters : MethodName := ⟨RX5, "letters", "()I"⟩
abbrev cX5_copyFrom : ByteArray := prog_7_method_11_code
def yX5_copyFrom : MethodName := ⟨RX5, "copyFrom", "(LSlideMills$Sack;)V"⟩
def RX6 : String := "SlideMills$Settings"
def TX6 : u_T := fun k => match k with
  | 0 => ("SlideMills$Settings", "window", "I", false)
  | 1 => ("SlideMills$Settings", "shortest", "I", false)
  | 2 => ("SlideMills$Settings", "longest", "I", false)
  | 3 => ("SlideMills$Settings", "letterPrice", "I", false)
  | _ => ("SlideMills$Settings", "repeatPrice", "I", false)
def tyX6 : Nat → FieldType := fun k => match k with
  | 0 => .int
  | 1 => .int
  | 2 => .int
  | 3 => .int
  | _ => .int
abbrev wsX60 : List Cond := u_ws RX6 TX6 5
theorem nmX6 : ∀ a, a < 5 → ∀ b, b < 5 → a ≠ b → (TX6 a).2.1 ≠ (TX6 b).2.1 := by decide +kernel
theorem tyX6_ok : ∀ k, k < 5 → parseFieldDescriptor (TX6 k).2.2.1 = some (tyX6 k) := by decide +kernel
abbrev cX6_init : ByteArray := prog_8_method_1_code
def yX6_init : MethodName := ⟨RX6, "<init>", "()V"⟩
abbrev cX6_copyFrom : ByteArray := prog_8_method_2_code
def yX6_copyFrom : MethodName := ⟨RX6, "copyFrom", "(LSlideMills$Settings;)V"⟩
def RX7 : String := "SlideMills$State"
def TX7 : u_T := fun k => match k with
  | 0 => ("SlideMills$State", "text", "LSlideMills$Letters;", true)
  | 1 => ("SlideMills$State", "sack", "LSlideMills$Sack;", true)
  | 2 => ("SlideMills$State", "settings", "LSlideMills$Settings;", true)
  | 3 => ("SlideMills$State", "stopPart", "I", false)
  | _ => ("SlideMills$State", "stopReason", "I", false)
def tyX7 : Nat → FieldType := fun k => match k with
  | 0 => .object "SlideMills$Letters"
  | 1 => .object "SlideMills$Sack"
  | 2 => .object "SlideMills$Settings"
  | 3 => .int
  | _ => .int
abbrev wsX70 : List Cond := u_ws RX7 TX7 5
theorem nmX7 : ∀ a, a < 5 → ∀ b, b < 5 → a ≠ b → (TX7 a).2.1 ≠ (TX7 b).2.1 := by decide +kernel
theorem tyX7_ok : ∀ k, k < 5 → parseFieldDescriptor (TX7 k).2.2.1 = some (tyX7 k) := by decide +kernel
abbrev cX7_init : ByteArray := prog_9_method_1_code
def yX7_init : MethodName := ⟨RX7, "<init>", "()V"⟩
abbrev cX7_copyFrom : ByteArray := prog_9_method_2_code
def yX7_copyFrom : MethodName := ⟨RX7, "copyFrom", "(LSlideMills$State;)V"⟩
def RX8 : String := "SlideMills$Unpacking"
def TX8 : u_T := fun k => match k with
  | 0 => ("SlideMills$Unpacking", "letters", "LSlideMills$Letters;", true)
  | 1 => ("SlideMills$Unpacking", "wrong", "I", false)
  | _ => ("SlideMills$Unpacking", "reason", "I", false)
def tyX8 : Nat → FieldType := fun k => match k with
  | 0 => .object "SlideMills$Letters"
  | 1 => .int
  | _ => .int
abbrev wsX80 : List Cond := u_ws RX8 TX8 3
theorem nmX8 : ∀ a, a < 3 → ∀ b, b < 3 → a ≠ b → (TX8 a).2.1 ≠ (TX8 b).2.1 := by decide +kernel
theorem tyX8_ok : ∀ k, k < 3 → parseFieldDescriptor (TX8 k).2.2.1 = some (tyX8 k) := by decide +kernel
abbrev cX8_init : ByteArray := prog_10_method_1_code
def yX8_init : MethodName := ⟨RX8, "<init>", "()V"⟩
abbrev cX8_run : ByteArray := prog_10_method_2_code
def yX8_run : MethodName := ⟨RX8, "run", "(LSlideMills$Sack;)V"⟩
abbrev cX8_whyWrong : ByteArray := prog_10_method_3_code
def yX8_whyWrong : MethodName := ⟨RX8, "whyWrong", "(II)I"⟩
abbrev cX8_unpackToken : ByteArray := prog_10_method_4_code
def yX8_unpackToken : MethodName := ⟨RX8, "unpackToken", "(LSlideMills$Sack;I)V"⟩
def RX9 : String := "SlideMills$Works"
def TX9 : u_T := fun k => match k with
  | 0 => ("SlideMills$Works", "codes", "[I", true)
  | _ => ("SlideMills$Works", "count", "I", false)
def tyX9 : Nat → FieldType := fun k => match k with
  | 0 => .array .int
  | _ => .int
abbrev wsX90 : List Cond := u_ws RX9 TX9 2
theorem nmX9 : ∀ a, a < 2 → ∀ b, b < 2 → a ≠ b → (TX9 a).2.1 ≠ (TX9 b).2.1 := by decide +kernel
theorem tyX9_ok : ∀ k, k < 2 → parseFieldDescriptor (TX9 k).2.2.1 = some (tyX9 k) := by decide +kernel
abbrev cX9_init : ByteArray := prog_11_method_1_code
def yX9_init : MethodName := ⟨RX9, "<init>", "()V"⟩
def RX10 : String := "SlideMills"
def TX10 : u_T := fun k => match k with
  | 0 => ("SlideMills", "state", "LSlideMills$State;", true)
  | 1 => ("SlideMills", "snapshot", "LSlideMills$State;", true)
  | 2 => ("SlideMills", "hasSnapshot", "Z", false)
  | 3 => ("SlideMills", "history", "LSlideMills$History;", true)
  | 4 => ("SlideMills", "buffer", "LSlideMills$Works;", true)
  | 5 => ("SlideMills", "mill", "LSlideMills$Mill;", true)
  | 6 => ("SlideMills", "packer", "LSlideMills$Packer;", true)
  | 7 => ("SlideMills", "trial", "LSlideMills$Sack;", true)
  | _ => ("SlideMills", "unpacking", "LSlideMills$Unpacking;", true)
def tyX10 : Nat → FieldType := fun k => match k with
  | 0 => .object "SlideMills$State"
  | 1 => .object "SlideMills$State"
  | 2 => .boolean
  | 3 => .object "SlideMills$History"
  | 4 => .object "SlideMills$Works"
  | 5 => .object "SlideMills$Mill"
  | 6 => .object "SlideMills$Packer"
  | 7 => .object "SlideMills$Sack"
  | _ => .object "SlideMills$Unpacking"
abbrev wsX100 : List Cond := u_ws RX10 TX10 9
theorem nmX10 : ∀ a, a < 9 → ∀ b, b < 9 → a ≠ b → (TX10 a).2.1 ≠ (TX10 b).2.1 := by decide +kernel
theorem tyX10_ok : ∀ k, k < 9 → parseFieldDescriptor (TX10 k).2.2.1 = some (tyX10 k) := by decide +kernel
abbrev cX10_init : ByteArray := prog_1_method_1_code
def yX10_init : MethodName := ⟨RX10, "<init>", "()V"⟩
abbrev cX10_addLetter : ByteArray := prog_1_method_2_code
def yX10_addLetter : MethodName := ⟨RX10, "addLetter", "(I)I"⟩
abbrev cX10_setLetter : ByteArray := prog_1_method_3_code
def yX10_setLetter : MethodName := ⟨RX10, "setLetter", "(II)I"⟩
abbrev cX10_emptyText : ByteArray := prog_1_method_4_code
def yX10_emptyText : MethodName := ⟨RX10, "emptyText", "()I"⟩
abbrev cX10_setWindow : ByteArray := prog_1_method_5_code
def yX10_setWindow : MethodName := ⟨RX10, "setWindow", "(I)I"⟩
abbrev cX10_setShortest : ByteArray := prog_1_method_6_code
def yX10_setShortest : MethodName := ⟨RX10, "setShortest", "(I)I"⟩
abbrev cX10_setLongest : ByteArray := prog_1_method_7_code
def yX10_setLongest : MethodName := ⟨RX10, "setLongest", "(I)I"⟩
abbrev cX10_setLetterPrice : ByteArray := prog_1_method_8_code
def yX10_setLetterPrice : MethodName := ⟨RX10, "setLetterPrice", "(I)I"⟩
abbrev cX10_setRepeatPrice : ByteArray := prog_1_method_9_code
def yX10_setRepeatPrice : MethodName := ⟨RX10, "setRepeatPrice", "(I)I"⟩
abbrev cX10_pack : ByteArray := prog_1_method_10_code
def yX10_pack : MethodName := ⟨RX10, "pack", "(I)I"⟩
abbrev cX10_unpack : ByteArray := prog_1_method_11_code
def yX10_unpack : MethodName := ⟨RX10, "unpack", "()I"⟩
abbrev cX10_addToken : ByteArray := prog_1_method_12_code
def yX10_addToken : MethodName := ⟨RX10, "addToken", "(I)I"⟩
abbrev cX10_addRepeat : ByteArray := prog_1_method_13_code
def yX10_addRepeat : MethodName := ⟨RX10, "addRepeat", "(II)I"⟩
abbrev cX10_takeLast : ByteArray := prog_1_method_14_code
def yX10_takeLast : MethodName := ⟨RX10, "takeLast", "()I"⟩
abbrev cX10_emptySack : ByteArray := prog_1_method_15_code
def yX10_emptySack : MethodName := ⟨RX10, "emptySack", "()I"⟩
abbrev cX10_textLength : ByteArray := prog_1_method_27_code
def yX10_textLength : MethodName := ⟨RX10, "textLength", "()I"⟩
abbrev cX10_letterAt : ByteArray := prog_1_method_28_code
def yX10_letterAt : MethodName := ⟨RX10, "letterAt", "(I)I"⟩
abbrev cX10_window : ByteArray := prog_1_method_29_code
def yX10_window : MethodName := ⟨RX10, "window", "()I"⟩
abbrev cX10_shortest : ByteArray := prog_1_method_30_code
def yX10_shortest : MethodName := ⟨RX10, "shortest", "()I"⟩
abbrev cX10_longest : ByteArray := prog_1_method_31_code
def yX10_longest : MethodName := ⟨RX10, "longest", "()I"⟩
abbrev cX10_tokens : ByteArray := prog_1_method_32_code
def yX10_tokens : MethodName := ⟨RX10, "tokens", "()I"⟩
abbrev cX10_isRepeat : ByteArray := prog_1_method_33_code
def yX10_isRepeat : MethodName := ⟨RX10, "isRepeat", "(I)Z"⟩
abbrev cX10_letterOf : ByteArray := prog_1_method_34_code
def yX10_letterOf : MethodName := ⟨RX10, "letterOf", "(I)I"⟩
abbrev cX10_distanceOf : ByteArray := prog_1_method_35_code
def yX10_distanceOf : MethodName := ⟨RX10, "distanceOf", "(I)I"⟩
abbrev cX10_lengthOf : ByteArray := prog_1_method_36_code
def yX10_lengthOf : MethodName := ⟨RX10, "lengthOf", "(I)I"⟩
abbrev cX10_sackCost : ByteArray := prog_1_method_37_code
def yX10_sackCost : MethodName := ⟨RX10, "sackCost", "()I"⟩
abbrev cX10_sackLetters : ByteArray := prog_1_method_38_code
def yX10_sackLetters : MethodName := ⟨RX10, "sackLetters", "()I"⟩
abbrev cX10_wrongToken : ByteArray := prog_1_method_39_code
def yX10_wrongToken : MethodName := ⟨RX10, "wrongToken", "()I"⟩
abbrev cX10_wrongReason : ByteArray := prog_1_method_40_code
def yX10_wrongReason : MethodName := ⟨RX10, "wrongReason", "()I"⟩
abbrev cX10_isForText : ByteArray := prog_1_method_41_code
def yX10_isForText : MethodName := ⟨RX10, "isForText", "()Z"⟩
abbrev cX10_repeatLength : ByteArray := prog_1_method_42_code
def yX10_repeatLength : MethodName := ⟨RX10, "repeatLength", "(I)I"⟩
abbrev cX10_repeatLengthByPairs : ByteArray := prog_1_method_43_code
def yX10_repeatLengthByPairs : MethodName := ⟨RX10, "repeatLengthByPairs", "(I)I"⟩
abbrev cX10_repeatDistance : ByteArray := prog_1_method_44_code
def yX10_repeatDistance : MethodName := ⟨RX10, "repeatDistance", "(I)I"⟩
abbrev cX10_costBy : ByteArray := prog_1_method_45_code
def yX10_costBy : MethodName := ⟨RX10, "costBy", "(I)I"⟩
abbrev cX10_tokensBy : ByteArray := prog_1_method_46_code
def yX10_tokensBy : MethodName := ⟨RX10, "tokensBy", "(I)I"⟩
abbrev cX10_leastCost : ByteArray := prog_1_method_47_code
def yX10_leastCost : MethodName := ⟨RX10, "leastCost", "()I"⟩
abbrev cX10_leastCostFromBeginning : ByteArray := prog_1_method_48_code
def yX10_leastCostFromBeginning : MethodName := ⟨RX10, "leastCostFromBeginning", "()I"⟩
abbrev cX10_leastCostWith : ByteArray := prog_1_method_49_code
def yX10_leastCostWith : MethodName := ⟨RX10, "leastCostWith", "(I)I"⟩
abbrev cX10_pairs : ByteArray := prog_1_method_50_code
def yX10_pairs : MethodName := ⟨RX10, "pairs", "(I)I"⟩
abbrev cX10_lastPlaceOf : ByteArray := prog_1_method_51_code
def yX10_lastPlaceOf : MethodName := ⟨RX10, "lastPlaceOf", "(I)I"⟩
abbrev cX10_mostFrequent : ByteArray := prog_1_method_52_code
def yX10_mostFrequent : MethodName := ⟨RX10, "mostFrequent", "()I"⟩
abbrev cX10_packedShare : ByteArray := prog_1_method_53_code
def yX10_packedShare : MethodName := ⟨RX10, "packedShare", "()D"⟩
abbrev cX10_isBetween : ByteArray := prog_1_method_55_code
def yX10_isBetween : MethodName := ⟨RX10, "isBetween", "(III)Z"⟩
abbrev cX10_isLetter : ByteArray := prog_1_method_56_code
def yX10_isLetter : MethodName := ⟨RX10, "isLetter", "(I)Z"⟩
abbrev cX10_isPair : ByteArray := prog_1_method_57_code
def yX10_isPair : MethodName := ⟨RX10, "isPair", "(I)Z"⟩
abbrev cX10_isWay : ByteArray := prog_1_method_58_code
def yX10_isWay : MethodName := ⟨RX10, "isWay", "(I)Z"⟩
def RX11 : String := "SlideMillsModel"
def TX11 : u_T := fun k => match k with
  | _ => ("", "", "", false)
def tyX11 : Nat → FieldType := fun k => match k with
  | _ => .int
abbrev wsX110 : List Cond := u_ws RX11 TX11 0
theorem nmX11 : ∀ a, a < 0 → ∀ b, b < 0 → a ≠ b → (TX11 a).2.1 ≠ (TX11 b).2.1 := by decide +kernel
theorem tyX11_ok : ∀ k, k < 0 → parseFieldDescriptor (TX11 k).2.2.1 = some (tyX11 k) := by decide +kernel
def RJ9 : String := "java/lang/Math"
def TJ9 : u_T := fun k => match k with
  | _ => ("", "", "", false)
def tyJ9 : Nat → FieldType := fun k => match k with
  | _ => .int
abbrev wsJ90 : List Cond := u_ws RJ9 TJ9 0
theorem nmJ9 : ∀ a, a < 0 → ∀ b, b < 0 → a ≠ b → (TJ9 a).2.1 ≠ (TJ9 b).2.1 := by decide +kernel
theorem tyJ9_ok : ∀ k, k < 0 → parseFieldDescriptor (TJ9 k).2.2.1 = some (tyJ9 k) := by decide +kernel
abbrev cJ9_min_7cf53 : ByteArray := prog_18_method_69_code
def yJ9_min_7cf53 : MethodName := ⟨RJ9, "min", "(II)I"⟩
def RJ0 : String := "java/lang/String"
def TJ0 : u_T := fun k => match k with
  | _ => ("", "", "", false)
def tyJ0 : Nat → FieldType := fun k => match k with
  | _ => .int
abbrev wsJ00 : List Cond := u_ws RJ0 TJ0 0
theorem nmJ0 : ∀ a, a < 0 → ∀ b, b < 0 → a ≠ b → (TJ0 a).2.1 ≠ (TJ0 b).2.1 := by decide +kernel
theorem tyJ0_ok : ∀ k, k < 0 → parseFieldDescriptor (TJ0 k).2.2.1 = some (tyJ0 k) := by decide +kernel
def RL : String := "SlideMillsLaw"
abbrev cL_cell : ByteArray := method_2_code
def yL_cell : MethodName := ⟨RL, "cell", "([II)I"⟩
abbrev cL_low : ByteArray := method_3_code
def yL_low : MethodName := ⟨RL, "low", "(II)I"⟩
abbrev cL_isRepeat : ByteArray := method_4_code
def yL_isRepeat : MethodName := ⟨RL, "isRepeat", "([I[IIII)Z"⟩
abbrev cL_longest : ByteArray := method_5_code
def yL_longest : MethodName := ⟨RL, "longest", "([I[III)I"⟩
abbrev cL_nearest : ByteArray := method_6_code
def yL_nearest : MethodName := ⟨RL, "nearest", "([I[III)I"⟩
abbrev cL_costs : ByteArray := method_7_code
def yL_costs : MethodName := ⟨RL, "costs", "([I[II[I)V"⟩
abbrev cL_by : ByteArray := method_8_code
def yL_by : MethodName := ⟨RL, "by", "([I[I[III)I"⟩
abbrev cL_pack : ByteArray := method_9_code
def yL_pack : MethodName := ⟨RL, "pack", "([I[II[I[I)I"⟩
abbrev cL_unpack : ByteArray := method_10_code
def yL_unpack : MethodName := ⟨RL, "unpack", "([I[I[I[I)I"⟩
abbrev cL_sack : ByteArray := method_11_code
def yL_sack : MethodName := ⟨RL, "sack", "(LSlideMills;[I[I[I[I)Z"⟩
abbrev cL_text : ByteArray := method_12_code
def yL_text : MethodName := ⟨RL, "text", "(LSlideMills;[I[I)Z"⟩
abbrev cL_costsOf : ByteArray := method_13_code
def yL_costsOf : MethodName := ⟨RL, "costsOf", "(LSlideMills;[I[II)Z"⟩
abbrev cL_add : ByteArray := method_14_code
def yL_add : MethodName := ⟨RL, "add", "(LSlideMills;I)I"⟩
abbrev cL_token : ByteArray := method_15_code
def yL_token : MethodName := ⟨RL, "token", "(LSlideMills;II)I"⟩
abbrev cL_unpacks : ByteArray := method_16_code
def yL_unpacks : MethodName := ⟨RL, "unpacks", "(LSlideMills;)I"⟩
abbrev cL_last : ByteArray := method_17_code
def yL_last : MethodName := ⟨RL, "last", "(LSlideMills;)I"⟩
abbrev cL_law : ByteArray := code
def yL_law : MethodName := ⟨RL, "law", "([I)Z"⟩
def wsL_law0_r1 : List Cond := [Cond.classLink RL 32 RX10, Cond.instantiable RX10 9, Cond.initialized RX10, Cond.arrayClass .int, Cond.methodLink RL 144 yX10_init, Cond.instanceMethod yX10_init, Cond.code yX10_init cX10_init 1 none, Cond.methodLink RX10 1 objectInit, Cond.instanceMethod objectInit, Cond.code objectInit ⟨#[0xb1]⟩ 1 none, Cond.classLink RX10 7 RX7, Cond.instantiable RX7 5, Cond.initialized RX7, Cond.fieldLink RX10 10 "SlideMills" "state" "LSlideMills$State;", Cond.fieldLink RX10 16 "SlideMills" "snapshot" "LSlideMills$State;", Cond.fieldLink RX10 19 "SlideMills" "hasSnapshot" "Z", Cond.classLink RX10 23 RX1, Cond.instantiable RX1 3, Cond.initialized RX1, Cond.fieldLink RX10 26 "SlideMills" "history" "LSlideMills$History;", Cond.classLink RX10 30 RX9, Cond.instantiable RX9 2, Cond.initialized RX9, Cond.fieldLink RX10 33 "SlideMills" "buffer" "LSlideMills$Works;"]
def wsL_law0_r2 : List Cond := [Cond.classLink RX10 37 RX3, Cond.instantiable RX3 3, Cond.initialized RX3, Cond.fieldLink RX10 39 "SlideMills$State" "text" "LSlideMills$Letters;", Cond.fieldLink RX10 43 "SlideMills$State" "settings" "LSlideMills$Settings;", Cond.fieldLink RX10 50 "SlideMills" "mill" "LSlideMills$Mill;", Cond.classLink RX10 54 RX4, Cond.instantiable RX4 2, Cond.initialized RX4, Cond.fieldLink RX10 59 "SlideMills" "packer" "LSlideMills$Packer;", Cond.classLink RX10 63 RX5, Cond.instantiable RX5 3, Cond.initialized RX5, Cond.fieldLink RX10 66 "SlideMills" "trial" "LSlideMills$Sack;", Cond.classLink RX10 70 RX8, Cond.instantiable RX8 3, Cond.initialized RX8, Cond.fieldLink RX10 73 "SlideMills" "unpacking" "LSlideMills$Unpacking;", Cond.methodLink RX10 9 yX7_init, Cond.instanceMethod yX7_init, Cond.code yX7_init cX7_init 1 none, Cond.methodLink RX7 1 objectInit, Cond.classLink RX7 7 RX2, Cond.instantiable RX2 2]
def wsL_law0_r3 : List Cond := [Cond.initialized RX2, Cond.fieldLink RX7 10 "SlideMills$State" "text" "LSlideMills$Letters;", Cond.classLink RX7 16 RX5, Cond.fieldLink RX7 19 "SlideMills$State" "sack" "LSlideMills$Sack;", Cond.classLink RX7 23 RX6, Cond.instantiable RX6 5, Cond.initialized RX6, Cond.fieldLink RX7 26 "SlideMills$State" "settings" "LSlideMills$Settings;", Cond.fieldLink RX7 30 "SlideMills$State" "stopPart" "I", Cond.fieldLink RX7 34 "SlideMills$State" "stopReason" "I", Cond.methodLink RX7 9 yX2_init, Cond.instanceMethod yX2_init, Cond.code yX2_init cX2_init 1 none, Cond.methodLink RX2 3 objectInit, Cond.fieldLink RX2 9 "SlideMills$Letters" "row" "[I", Cond.fieldLink RX2 15 "SlideMills$Letters" "count" "I", Cond.methodLink RX7 18 yX5_init, Cond.instanceMethod yX5_init, Cond.code yX5_init cX5_init 1 none, Cond.methodLink RX5 3 objectInit, Cond.fieldLink RX5 9 "SlideMills$Sack" "distances" "[I", Cond.fieldLink RX5 15 "SlideMills$Sack" "values" "[I", Cond.fieldLink RX5 18 "SlideMills$Sack" "count" "I", Cond.methodLink RX7 25 yX6_init]
def wsL_law0_r4 : List Cond := [Cond.instanceMethod yX6_init, Cond.code yX6_init cX6_init 1 none, Cond.methodLink RX6 1 objectInit, Cond.fieldLink RX6 7 "SlideMills$Settings" "window" "I", Cond.fieldLink RX6 13 "SlideMills$Settings" "shortest" "I", Cond.fieldLink RX6 16 "SlideMills$Settings" "longest" "I", Cond.fieldLink RX6 19 "SlideMills$Settings" "letterPrice" "I", Cond.fieldLink RX6 22 "SlideMills$Settings" "repeatPrice" "I", Cond.methodLink RX10 25 yX1_init, Cond.instanceMethod yX1_init, Cond.code yX1_init cX1_init 2 none, Cond.methodLink RX1 3 objectInit, Cond.classLink RX1 9 RX7, Cond.fieldLink RX1 11 "SlideMills$History" "ring" "[LSlideMills$State;", Cond.fieldLink RX1 18 "SlideMills$History" "next" "I", Cond.fieldLink RX1 22 "SlideMills$History" "count" "I", Cond.methodLink RX1 17 yX7_init, Cond.methodLink RX10 32 yX9_init, Cond.instanceMethod yX9_init, Cond.code yX9_init cX9_init 1 none, Cond.methodLink RX9 3 objectInit, Cond.fieldLink RX9 9 "SlideMills$Works" "codes" "[I", Cond.fieldLink RX9 15 "SlideMills$Works" "count" "I", Cond.methodLink RX10 47 yX3_init]
def wsL_law0_r5 : List Cond := [Cond.instanceMethod yX3_init, Cond.code yX3_init cX3_init 3 none, Cond.methodLink RX3 3 objectInit, Cond.fieldLink RX3 9 "SlideMills$Mill" "text" "LSlideMills$Letters;", Cond.fieldLink RX3 15 "SlideMills$Mill" "settings" "LSlideMills$Settings;", Cond.classLink RX3 19 RX0, Cond.instantiable RX0 3, Cond.initialized RX0, Cond.fieldLink RX3 22 "SlideMills$Mill" "dictionary" "LSlideMills$Dictionary;", Cond.methodLink RX3 21 yX0_init, Cond.instanceMethod yX0_init, Cond.code yX0_init cX0_init 1 none, Cond.methodLink RX0 3 objectInit, Cond.fieldLink RX0 9 "SlideMills$Dictionary" "counts" "[I", Cond.fieldLink RX0 15 "SlideMills$Dictionary" "lastPlaces" "[I", Cond.fieldLink RX0 18 "SlideMills$Dictionary" "earlierPlaces" "[I", Cond.methodLink RX10 56 yX4_init, Cond.instanceMethod yX4_init, Cond.code yX4_init cX4_init 2 none, Cond.methodLink RX4 3 objectInit, Cond.fieldLink RX4 9 "SlideMills$Packer" "mill" "LSlideMills$Mill;", Cond.fieldLink RX4 15 "SlideMills$Packer" "costs" "[I", Cond.methodLink RX10 65 yX5_init, Cond.methodLink RX10 72 yX8_init]
def wsL_law0_r6 : List Cond := [Cond.instanceMethod yX8_init, Cond.code yX8_init cX8_init 1 none, Cond.methodLink RX8 3 objectInit, Cond.classLink RX8 9 RX2, Cond.fieldLink RX8 12 "SlideMills$Unpacking" "letters" "LSlideMills$Letters;", Cond.fieldLink RX8 18 "SlideMills$Unpacking" "wrong" "I", Cond.fieldLink RX8 22 "SlideMills$Unpacking" "reason" "I", Cond.methodLink RX8 11 yX2_init, Cond.methodLink RL 145 yL_cell, Cond.static yL_cell, Cond.initialized RL, Cond.code yL_cell cL_cell 2 (some .int), Cond.constant RL 7 (32452867), Cond.constant RL 8 (15485863), Cond.methodLink RL 149 yL_low, Cond.static yL_low, Cond.code yL_low cL_low 2 (some .int), Cond.constant RL 9 (2147483647), Cond.methodLink RL 152 yL_add, Cond.static yL_add, Cond.codeWith yL_add cL_add 3 (some .int) [(0, 5, 6, 128), (0, 5, 10, 130)], Cond.classLink RL 128 "java/lang/IllegalArgumentException", Cond.classLink RL 130 "java/lang/IllegalStateException", Cond.methodLink RL 125 yX10_addLetter]
def wsL_law0_r7 : List Cond := [Cond.instanceMethod yX10_addLetter, Cond.selects RX10 yX10_addLetter yX10_addLetter, Cond.code yX10_addLetter cX10_addLetter 2 (some .int), Cond.classLink RX10 81 "java/lang/IllegalArgumentException", Cond.initialized "java/lang/IllegalArgumentException", Cond.classLink RX10 94 "java/lang/IllegalStateException", Cond.initialized "java/lang/IllegalStateException", Cond.fieldLink RX10 88 "SlideMills$Letters" "count" "I", Cond.methodLink RX10 77 yX10_isLetter, Cond.static yX10_isLetter, Cond.code yX10_isLetter cX10_isLetter 1 (some .boolean), Cond.methodLink RX10 99 yX1_push, Cond.instanceMethod yX1_push, Cond.selects RX1 yX1_push yX1_push, Cond.code yX1_push cX1_push 2 none, Cond.methodLink RX1 25 yX7_copyFrom, Cond.instanceMethod yX7_copyFrom, Cond.selects RX7 yX7_copyFrom yX7_copyFrom, Cond.code yX7_copyFrom cX7_copyFrom 2 none, Cond.methodLink RX7 37 yX2_copyFrom, Cond.instanceMethod yX2_copyFrom, Cond.selects RX2 yX2_copyFrom yX2_copyFrom, Cond.code yX2_copyFrom cX2_copyFrom 3 none, Cond.methodLink RX7 41 yX5_copyFrom]
def wsL_law0_r8 : List Cond := [Cond.instanceMethod yX5_copyFrom, Cond.selects RX5 yX5_copyFrom yX5_copyFrom, Cond.code yX5_copyFrom cX5_copyFrom 3 none, Cond.methodLink RX5 22 yX5_distance, Cond.instanceMethod yX5_distance, Cond.selects RX5 yX5_distance yX5_distance, Cond.code yX5_distance cX5_distance 2 (some .int), Cond.methodLink RX5 26 yX5_value, Cond.instanceMethod yX5_value, Cond.selects RX5 yX5_value yX5_value, Cond.code yX5_value cX5_value 2 (some .int), Cond.methodLink RX7 44 yX6_copyFrom, Cond.instanceMethod yX6_copyFrom, Cond.selects RX6 yX6_copyFrom yX6_copyFrom, Cond.code yX6_copyFrom cX6_copyFrom 2 none, Cond.methodLink RX10 103 yX2_put, Cond.instanceMethod yX2_put, Cond.selects RX2 yX2_put yX2_put, Cond.code yX2_put cX2_put 2 none, Cond.methodLink RL 156 yX10_setLetter, Cond.instanceMethod yX10_setLetter, Cond.selects RX10 yX10_setLetter yX10_setLetter, Cond.code yX10_setLetter cX10_setLetter 4 (some .int), Cond.classLink RX10 110 "java/lang/IndexOutOfBoundsException"]
def wsL_law0_r9 : List Cond := [Cond.initialized "java/lang/IndexOutOfBoundsException", Cond.methodLink RX10 107 yX2_has, Cond.instanceMethod yX2_has, Cond.selects RX2 yX2_has yX2_has, Cond.code yX2_has cX2_has 2 (some .boolean), Cond.methodLink RX10 115 yX2_get, Cond.instanceMethod yX2_get, Cond.selects RX2 yX2_get yX2_get, Cond.code yX2_get cX2_get 2 (some .int), Cond.methodLink RX10 119 yX2_replace, Cond.instanceMethod yX2_replace, Cond.selects RX2 yX2_replace yX2_replace, Cond.code yX2_replace cX2_replace 3 none, Cond.methodLink RL 159 yX10_setWindow, Cond.instanceMethod yX10_setWindow, Cond.selects RX10 yX10_setWindow yX10_setWindow, Cond.code yX10_setWindow cX10_setWindow 3 (some .int), Cond.fieldLink RX10 132 "SlideMills$Settings" "window" "I", Cond.methodLink RX10 126 yX10_isBetween, Cond.static yX10_isBetween, Cond.code yX10_isBetween cX10_isBetween 3 (some .boolean), Cond.methodLink RL 162 yX10_setShortest, Cond.instanceMethod yX10_setShortest, Cond.selects RX10 yX10_setShortest yX10_setShortest]
def wsL_law0_r10 : List Cond := [Cond.code yX10_setShortest cX10_setShortest 3 (some .int), Cond.fieldLink RX10 139 "SlideMills$Settings" "shortest" "I", Cond.methodLink RL 165 yX10_setLongest, Cond.instanceMethod yX10_setLongest, Cond.selects RX10 yX10_setLongest yX10_setLongest, Cond.code yX10_setLongest cX10_setLongest 3 (some .int), Cond.fieldLink RX10 142 "SlideMills$Settings" "longest" "I", Cond.methodLink RL 168 yX10_setLetterPrice, Cond.instanceMethod yX10_setLetterPrice, Cond.selects RX10 yX10_setLetterPrice yX10_setLetterPrice, Cond.code yX10_setLetterPrice cX10_setLetterPrice 3 (some .int), Cond.fieldLink RX10 147 "SlideMills$Settings" "letterPrice" "I", Cond.methodLink RL 171 yX10_setRepeatPrice, Cond.instanceMethod yX10_setRepeatPrice, Cond.selects RX10 yX10_setRepeatPrice yX10_setRepeatPrice, Cond.code yX10_setRepeatPrice cX10_setRepeatPrice 3 (some .int), Cond.fieldLink RX10 150 "SlideMills$Settings" "repeatPrice" "I", Cond.methodLink RL 115 yL_pack, Cond.static yL_pack, Cond.code yL_pack cL_pack 10 (some .int), Cond.methodLink RL 20 yL_costs, Cond.static yL_costs, Cond.code yL_costs cL_costs 6 none, Cond.methodLink RL 16 yL_longest]
def wsL_law0_r11 : List Cond := [Cond.static yL_longest, Cond.code yL_longest cL_longest 6 (some .int), Cond.methodLink RL 10 yL_isRepeat, Cond.static yL_isRepeat, Cond.code yL_isRepeat cL_isRepeat 6 (some .boolean), Cond.methodLink RL 24 yL_by, Cond.static yL_by, Cond.code yL_by cL_by 6 (some .int), Cond.methodLink RL 28 yL_nearest, Cond.static yL_nearest, Cond.code yL_nearest cL_nearest 5 (some .int), Cond.methodLink RL 174 yX10_pack, Cond.instanceMethod yX10_pack, Cond.selects RX10 yX10_pack yX10_pack, Cond.code yX10_pack cX10_pack 2 (some .int), Cond.fieldLink RX10 158 "SlideMills$State" "sack" "LSlideMills$Sack;", Cond.fieldLink RX10 165 "SlideMills$Sack" "count" "I", Cond.methodLink RX10 153 yX10_isWay, Cond.static yX10_isWay, Cond.code yX10_isWay cX10_isWay 1 (some .boolean), Cond.methodLink RX10 161 yX4_packBy, Cond.instanceMethod yX4_packBy, Cond.selects RX4 yX4_packBy yX4_packBy, Cond.code yX4_packBy cX4_packBy 3 none]
def wsL_law0_r12 : List Cond := [Cond.methodLink RX4 19 yX5_clear, Cond.instanceMethod yX5_clear, Cond.selects RX5 yX5_clear yX5_clear, Cond.code yX5_clear cX5_clear 1 none, Cond.methodLink RX4 24 yX4_packCheaply, Cond.instanceMethod yX4_packCheaply, Cond.selects RX4 yX4_packCheaply yX4_packCheaply, Cond.code yX4_packCheaply cX4_packCheaply 4 none, Cond.fieldLink RX4 32 "SlideMills$Mill" "settings" "LSlideMills$Settings;", Cond.fieldLink RX4 38 "SlideMills$Settings" "window" "I", Cond.fieldLink RX4 44 "SlideMills$Mill" "text" "LSlideMills$Letters;", Cond.fieldLink RX4 48 "SlideMills$Letters" "count" "I", Cond.methodLink RX4 61 yX4_leastFromEnd, Cond.instanceMethod yX4_leastFromEnd, Cond.selects RX4 yX4_leastFromEnd yX4_leastFromEnd, Cond.code yX4_leastFromEnd cX4_leastFromEnd 6 (some .int), Cond.fieldLink RX4 90 "SlideMills$Settings" "letterPrice" "I", Cond.fieldLink RX4 78 "SlideMills$Settings" "shortest" "I", Cond.fieldLink RX4 81 "SlideMills$Settings" "repeatPrice" "I", Cond.methodLink RX4 93 Lib.Math.min.name, Cond.static Lib.Math.min.name, Cond.initialized "java/lang/Math", Cond.code Lib.Math.min.name Lib.Math.min.code 2 (some .int), Cond.methodLink RX4 87 yX4_setCost]
def wsL_law0_r13 : List Cond := [Cond.instanceMethod yX4_setCost, Cond.selects RX4 yX4_setCost yX4_setCost, Cond.code yX4_setCost cX4_setCost 3 none, Cond.methodLink RX4 84 yX4_costAt, Cond.instanceMethod yX4_costAt, Cond.selects RX4 yX4_costAt yX4_costAt, Cond.code yX4_costAt cX4_costAt 2 (some .int), Cond.methodLink RX4 53 yX3_longestAt, Cond.instanceMethod yX3_longestAt, Cond.selects RX3 yX3_longestAt yX3_longestAt, Cond.code yX3_longestAt cX3_longestAt 6 (some .int), Cond.fieldLink RX3 50 "SlideMills$Settings" "shortest" "I", Cond.methodLink RX3 47 yX3_alike, Cond.instanceMethod yX3_alike, Cond.selects RX3 yX3_alike yX3_alike, Cond.code yX3_alike cX3_alike 6 (some .int), Cond.fieldLink RX3 26 "SlideMills$Letters" "row" "[I", Cond.fieldLink RX3 32 "SlideMills$Settings" "longest" "I", Cond.fieldLink RX3 38 "SlideMills$Letters" "count" "I", Cond.methodLink RX3 41 Lib.Math.min.name, Cond.methodLink RX4 65 yX4_cheapestLength, Cond.instanceMethod yX4_cheapestLength, Cond.selects RX4 yX4_cheapestLength yX4_cheapestLength, Cond.code yX4_cheapestLength cX4_cheapestLength 4 (some .int)]
def wsL_law0_r14 : List Cond := [Cond.methodLink RX4 57 yX4_putTokenAt, Cond.instanceMethod yX4_putTokenAt, Cond.selects RX4 yX4_putTokenAt yX4_putTokenAt, Cond.code yX4_putTokenAt cX4_putTokenAt 4 (some .int), Cond.methodLink RX4 68 yX2_get, Cond.methodLink RX4 71 yX5_put, Cond.instanceMethod yX5_put, Cond.selects RX5 yX5_put yX5_put, Cond.code yX5_put cX5_put 3 none, Cond.methodLink RX4 75 yX3_leastDistance, Cond.instanceMethod yX3_leastDistance, Cond.selects RX3 yX3_leastDistance yX3_leastDistance, Cond.code yX3_leastDistance cX3_leastDistance 4 (some .int), Cond.fieldLink RX3 57 "SlideMills$Settings" "window" "I", Cond.methodLink RX4 28 yX4_packByLongest, Cond.instanceMethod yX4_packByLongest, Cond.selects RX4 yX4_packByLongest yX4_packByLongest, Cond.code yX4_packByLongest cX4_packByLongest 7 none, Cond.methodLink RL 46 yL_unpack, Cond.static yL_unpack, Cond.code yL_unpack cL_unpack 9 (some .int), Cond.methodLink RL 176 yL_unpacks, Cond.static yL_unpacks, Cond.codeWith yL_unpacks cL_unpacks 2 (some .int) [(0, 4, 5, 130)]]
def wsL_law0_r15 : List Cond := [Cond.methodLink RL 139 yX10_unpack, Cond.instanceMethod yX10_unpack, Cond.selects RX10 yX10_unpack yX10_unpack, Cond.code yX10_unpack cX10_unpack 1 (some .int), Cond.fieldLink RX10 170 "SlideMills$Unpacking" "reason" "I", Cond.fieldLink RX10 175 "SlideMills$Unpacking" "letters" "LSlideMills$Letters;", Cond.methodLink RX10 166 yX8_run, Cond.instanceMethod yX8_run, Cond.selects RX8 yX8_run yX8_run, Cond.code yX8_run cX8_run 3 none, Cond.fieldLink RX8 28 "SlideMills$Sack" "count" "I", Cond.methodLink RX8 25 yX2_clear, Cond.instanceMethod yX2_clear, Cond.selects RX2 yX2_clear yX2_clear, Cond.code yX2_clear cX2_clear 1 none, Cond.methodLink RX8 33 yX5_distance, Cond.methodLink RX8 37 yX5_length, Cond.instanceMethod yX5_length, Cond.selects RX5 yX5_length yX5_length, Cond.code yX5_length cX5_length 2 (some .int), Cond.methodLink RX8 40 yX8_whyWrong, Cond.instanceMethod yX8_whyWrong, Cond.selects RX8 yX8_whyWrong yX8_whyWrong, Cond.code yX8_whyWrong cX8_whyWrong 3 (some .int)]
def wsL_law0_r16 : List Cond := [Cond.fieldLink RX8 48 "SlideMills$Letters" "count" "I", Cond.methodLink RX8 44 yX8_unpackToken, Cond.instanceMethod yX8_unpackToken, Cond.selects RX8 yX8_unpackToken yX8_unpackToken, Cond.code yX8_unpackToken cX8_unpackToken 6 none, Cond.methodLink RX8 49 yX5_value, Cond.methodLink RX8 52 yX2_put, Cond.methodLink RX8 56 yX2_get, Cond.methodLink RX10 178 yX2_copyFrom, Cond.methodLink RL 180 yL_token, Cond.static yL_token, Cond.codeWith yL_token cL_token 4 (some .int) [(0, 18, 19, 128), (0, 18, 23, 130)], Cond.methodLink RL 132 yX10_addToken, Cond.instanceMethod yX10_addToken, Cond.selects RX10 yX10_addToken yX10_addToken, Cond.code yX10_addToken cX10_addToken 2 (some .int), Cond.methodLink RX10 182 yX5_isFull, Cond.instanceMethod yX5_isFull, Cond.selects RX5 yX5_isFull yX5_isFull, Cond.code yX5_isFull cX5_isFull 1 (some .boolean), Cond.methodLink RX10 188 yX5_put, Cond.methodLink RL 135 yX10_addRepeat, Cond.instanceMethod yX10_addRepeat, Cond.selects RX10 yX10_addRepeat yX10_addRepeat]
def wsL_law0_r17 : List Cond := [Cond.code yX10_addRepeat cX10_addRepeat 3 (some .int), Cond.methodLink RL 184 yL_last, Cond.static yL_last, Cond.codeWith yL_last cL_last 2 (some .int) [(0, 4, 5, 130)], Cond.methodLink RL 141 yX10_takeLast, Cond.instanceMethod yX10_takeLast, Cond.selects RX10 yX10_takeLast yX10_takeLast, Cond.code yX10_takeLast cX10_takeLast 1 (some .int), Cond.methodLink RL 187 yX10_emptySack, Cond.instanceMethod yX10_emptySack, Cond.selects RX10 yX10_emptySack yX10_emptySack, Cond.code yX10_emptySack cX10_emptySack 2 (some .int), Cond.methodLink RX10 194 yX5_clear, Cond.methodLink RL 190 yX10_emptyText, Cond.instanceMethod yX10_emptyText, Cond.selects RX10 yX10_emptyText yX10_emptyText, Cond.code yX10_emptyText cX10_emptyText 2 (some .int), Cond.methodLink RX10 123 yX2_clear, Cond.methodLink RL 193 yL_sack, Cond.static yL_sack, Cond.code yL_sack cL_sack 11 (some .boolean), Cond.methodLink RL 31 yX10_isRepeat, Cond.instanceMethod yX10_isRepeat, Cond.selects RX10 yX10_isRepeat yX10_isRepeat]
def wsL_law0_r18 : List Cond := [Cond.code yX10_isRepeat cX10_isRepeat 2 (some .boolean), Cond.methodLink RX10 235 yX5_has, Cond.instanceMethod yX5_has, Cond.selects RX5 yX5_has yX5_has, Cond.code yX5_has cX5_has 2 (some .boolean), Cond.methodLink RX10 238 yX5_distance, Cond.methodLink RL 36 yX10_lengthOf, Cond.instanceMethod yX10_lengthOf, Cond.selects RX10 yX10_lengthOf yX10_lengthOf, Cond.code yX10_lengthOf cX10_lengthOf 2 (some .int), Cond.methodLink RX10 248 yX5_length, Cond.methodLink RL 40 yX10_letterOf, Cond.instanceMethod yX10_letterOf, Cond.selects RX10 yX10_letterOf yX10_letterOf, Cond.code yX10_letterOf cX10_letterOf 2 (some .int), Cond.methodLink RX10 243 yX5_value, Cond.methodLink RL 43 yX10_distanceOf, Cond.instanceMethod yX10_distanceOf, Cond.selects RX10 yX10_distanceOf yX10_distanceOf, Cond.code yX10_distanceOf cX10_distanceOf 2 (some .int), Cond.methodLink RL 50 yX10_tokens, Cond.instanceMethod yX10_tokens, Cond.selects RX10 yX10_tokens yX10_tokens, Cond.code yX10_tokens cX10_tokens 1 (some .int)]
def wsL_law0_r19 : List Cond := [Cond.methodLink RL 54 yX10_sackCost, Cond.instanceMethod yX10_sackCost, Cond.selects RX10 yX10_sackCost yX10_sackCost, Cond.code yX10_sackCost cX10_sackCost 1 (some .int), Cond.methodLink RX10 251 yX5_cost, Cond.instanceMethod yX5_cost, Cond.selects RX5 yX5_cost yX5_cost, Cond.code yX5_cost cX5_cost 4 (some .int), Cond.fieldLink RX5 29 "SlideMills$Settings" "letterPrice" "I", Cond.fieldLink RX5 34 "SlideMills$Settings" "repeatPrice" "I", Cond.methodLink RL 57 yX10_sackLetters, Cond.instanceMethod yX10_sackLetters, Cond.selects RX10 yX10_sackLetters yX10_sackLetters, Cond.code yX10_sackLetters cX10_sackLetters 1 (some .int), Cond.methodLink RX10 255 yX5_letters, Cond.instanceMethod yX5_letters, Cond.selects RX5 yX5_letters yX5_letters, Cond.code yX5_letters cX5_letters 3 (some .int), Cond.methodLink RX5 37 yX5_length, Cond.methodLink RL 60 yX10_isForText, Cond.instanceMethod yX10_isForText, Cond.selects RX10 yX10_isForText yX10_isForText, Cond.code yX10_isForText cX10_isForText 1 (some .boolean), Cond.methodLink RX10 260 yX2_isLike]
def wsL_law0_r20 : List Cond := [Cond.instanceMethod yX2_isLike, Cond.selects RX2 yX2_isLike yX2_isLike, Cond.code yX2_isLike cX2_isLike 3 (some .boolean), Cond.methodLink RX2 19 yX2_get, Cond.methodLink RL 64 yX10_wrongToken, Cond.instanceMethod yX10_wrongToken, Cond.selects RX10 yX10_wrongToken yX10_wrongToken, Cond.code yX10_wrongToken cX10_wrongToken 1 (some .int), Cond.fieldLink RX10 257 "SlideMills$Unpacking" "wrong" "I", Cond.methodLink RL 67 yX10_wrongReason, Cond.instanceMethod yX10_wrongReason, Cond.selects RX10 yX10_wrongReason yX10_wrongReason, Cond.code yX10_wrongReason cX10_wrongReason 1 (some .int), Cond.methodLink RL 70 yX10_packedShare, Cond.instanceMethod yX10_packedShare, Cond.selects RX10 yX10_packedShare yX10_packedShare, Cond.code yX10_packedShare cX10_packedShare 2 (some .double), Cond.methodLink RL 197 yL_text, Cond.static yL_text, Cond.code yL_text cL_text 10 (some .boolean), Cond.methodLink RL 74 yX10_letterAt, Cond.instanceMethod yX10_letterAt, Cond.selects RX10 yX10_letterAt yX10_letterAt, Cond.code yX10_letterAt cX10_letterAt 2 (some .int)]
def wsL_law0_r21 : List Cond := [Cond.methodLink RL 77 yX10_repeatLength, Cond.instanceMethod yX10_repeatLength, Cond.selects RX10 yX10_repeatLength yX10_repeatLength, Cond.code yX10_repeatLength cX10_repeatLength 2 (some .int), Cond.methodLink RX10 264 yX3_longestAt, Cond.methodLink RL 80 yX10_repeatLengthByPairs, Cond.instanceMethod yX10_repeatLengthByPairs, Cond.selects RX10 yX10_repeatLengthByPairs yX10_repeatLengthByPairs, Cond.code yX10_repeatLengthByPairs cX10_repeatLengthByPairs 2 (some .int), Cond.fieldLink RX10 268 "SlideMills$Mill" "dictionary" "LSlideMills$Dictionary;", Cond.methodLink RX10 272 yX0_read, Cond.instanceMethod yX0_read, Cond.selects RX0 yX0_read yX0_read, Cond.code yX0_read cX0_read 3 none, Cond.fieldLink RX0 21 "SlideMills$Letters" "count" "I", Cond.methodLink RX0 27 yX2_get, Cond.methodLink RX0 31 yX0_note, Cond.instanceMethod yX0_note, Cond.selects RX0 yX0_note yX0_note, Cond.code yX0_note cX0_note 3 none, Cond.methodLink RX10 277 yX3_longestByPairs, Cond.instanceMethod yX3_longestByPairs, Cond.selects RX3 yX3_longestByPairs yX3_longestByPairs, Cond.code yX3_longestByPairs cX3_longestByPairs 6 (some .int)]
def wsL_law0_r22 : List Cond := [Cond.methodLink RX3 53 yX0_earlierPlace, Cond.instanceMethod yX0_earlierPlace, Cond.selects RX0 yX0_earlierPlace yX0_earlierPlace, Cond.code yX0_earlierPlace cX0_earlierPlace 2 (some .int), Cond.methodLink RL 83 yX10_repeatDistance, Cond.instanceMethod yX10_repeatDistance, Cond.selects RX10 yX10_repeatDistance yX10_repeatDistance, Cond.code yX10_repeatDistance cX10_repeatDistance 3 (some .int), Cond.methodLink RX10 280 yX3_leastDistance, Cond.methodLink RL 86 yX10_pairs, Cond.instanceMethod yX10_pairs, Cond.selects RX10 yX10_pairs yX10_pairs, Cond.code yX10_pairs cX10_pairs 2 (some .int), Cond.methodLink RX10 289 yX10_isPair, Cond.static yX10_isPair, Cond.code yX10_isPair cX10_isPair 1 (some .boolean), Cond.methodLink RX10 294 yX0_times, Cond.instanceMethod yX0_times, Cond.selects RX0 yX0_times yX0_times, Cond.code yX0_times cX0_times 2 (some .int), Cond.methodLink RL 89 yX10_lastPlaceOf, Cond.instanceMethod yX10_lastPlaceOf, Cond.selects RX10 yX10_lastPlaceOf yX10_lastPlaceOf, Cond.code yX10_lastPlaceOf cX10_lastPlaceOf 2 (some .int)]
def wsL_law0_r23 : List Cond := [Cond.methodLink RX10 297 yX0_lastPlace, Cond.instanceMethod yX0_lastPlace, Cond.selects RX0 yX0_lastPlace yX0_lastPlace, Cond.code yX0_lastPlace cX0_lastPlace 2 (some .int), Cond.methodLink RL 92 yX10_textLength, Cond.instanceMethod yX10_textLength, Cond.selects RX10 yX10_textLength yX10_textLength, Cond.code yX10_textLength cX10_textLength 1 (some .int), Cond.methodLink RL 95 yX10_window, Cond.instanceMethod yX10_window, Cond.selects RX10 yX10_window yX10_window, Cond.code yX10_window cX10_window 1 (some .int), Cond.methodLink RL 98 yX10_shortest, Cond.instanceMethod yX10_shortest, Cond.selects RX10 yX10_shortest yX10_shortest, Cond.code yX10_shortest cX10_shortest 1 (some .int), Cond.methodLink RL 101 yX10_longest, Cond.instanceMethod yX10_longest, Cond.selects RX10 yX10_longest yX10_longest, Cond.code yX10_longest cX10_longest 1 (some .int), Cond.methodLink RL 103 yX10_mostFrequent, Cond.instanceMethod yX10_mostFrequent, Cond.selects RX10 yX10_mostFrequent yX10_mostFrequent, Cond.code yX10_mostFrequent cX10_mostFrequent 1 (some .int)]
def wsL_law0_r24 : List Cond := [Cond.methodLink RX10 302 yX0_commonest, Cond.instanceMethod yX0_commonest, Cond.selects RX0 yX0_commonest yX0_commonest, Cond.code yX0_commonest cX0_commonest 3 (some .int), Cond.methodLink RL 201 yL_costsOf, Cond.static yL_costsOf, Cond.code yL_costsOf cL_costsOf 10 (some .boolean), Cond.methodLink RL 106 yX10_leastCostWith, Cond.instanceMethod yX10_leastCostWith, Cond.selects RX10 yX10_leastCostWith yX10_leastCostWith, Cond.code yX10_leastCostWith cX10_leastCostWith 2 (some .int), Cond.methodLink RX10 283 yX4_leastFromEnd, Cond.methodLink RL 109 yX10_leastCost, Cond.instanceMethod yX10_leastCost, Cond.selects RX10 yX10_leastCost yX10_leastCost, Cond.code yX10_leastCost cX10_leastCost 1 (some .int), Cond.methodLink RL 112 yX10_leastCostFromBeginning, Cond.instanceMethod yX10_leastCostFromBeginning, Cond.selects RX10 yX10_leastCostFromBeginning yX10_leastCostFromBeginning, Cond.code yX10_leastCostFromBeginning cX10_leastCostFromBeginning 1 (some .int), Cond.methodLink RX10 286 yX4_leastFromBeginning, Cond.instanceMethod yX4_leastFromBeginning, Cond.selects RX4 yX4_leastFromBeginning yX4_leastFromBeginning, Cond.code yX4_leastFromBeginning cX4_leastFromBeginning 4 (some .int)]
def wsL_law0_r25 : List Cond := [Cond.constant RX4 98 (1000000), Cond.methodLink RX4 99 yX4_lower, Cond.instanceMethod yX4_lower, Cond.selects RX4 yX4_lower yX4_lower, Cond.code yX4_lower cX4_lower 3 none, Cond.methodLink RL 119 yX10_tokensBy, Cond.instanceMethod yX10_tokensBy, Cond.selects RX10 yX10_tokensBy yX10_tokensBy, Cond.code yX10_tokensBy cX10_tokensBy 2 (some .int), Cond.methodLink RL 122 yX10_costBy, Cond.instanceMethod yX10_costBy, Cond.selects RX10 yX10_costBy yX10_costBy, Cond.code yX10_costBy cX10_costBy 2 (some .int)]
def wsL_law0 : List Cond := (wsL_law0_r1 ++ (wsL_law0_r2 ++ (wsL_law0_r3 ++ (wsL_law0_r4 ++ (wsL_law0_r5 ++ (wsL_law0_r6 ++ (wsL_law0_r7 ++ (wsL_law0_r8 ++ (wsL_law0_r9 ++ (wsL_law0_r10 ++ (wsL_law0_r11 ++ (wsL_law0_r12 ++ (wsL_law0_r13 ++ (wsL_law0_r14 ++ (wsL_law0_r15 ++ (wsL_law0_r16 ++ (wsL_law0_r17 ++ (wsL_law0_r18 ++ (wsL_law0_r19 ++ (wsL_law0_r20 ++ (wsL_law0_r21 ++ (wsL_law0_r22 ++ (wsL_law0_r23 ++ (wsL_law0_r24 ++ wsL_law0_r25)))))))))))))))))))))))) ++ wsX100 ++ wsX70 ++ wsX10 ++ wsX90 ++ wsX30 ++ wsX40 ++ wsX50 ++ wsX80 ++ wsX20 ++ wsX60 ++ wsX00 ++ ([] : List Cond)
def wsL_law : List Cond := wsL_law0 ++ (vx_atS RX10 85 "java/lang/IllegalArgumentException" ["java/lang/RuntimeException", "java/lang/Exception"]).filter goodWord ++ (vx_atS RX10 98 "java/lang/IllegalStateException" ["java/lang/RuntimeException", "java/lang/Exception"]).filter goodWord ++ (vx_atS RX10 114 "java/lang/IndexOutOfBoundsException" ["java/lang/RuntimeException", "java/lang/Exception"]).filter goodWord
theorem inlX0 : ∀ w ∈ wsX00, w ∈ wsL_law := fun _ h => List.mem_append_left _ (List.mem_append_left _ (List.mem_append_left _ (List.mem_append_left _ (List.mem_append_right _ h))))
theorem inlX1 : ∀ w ∈ wsX10, w ∈ wsL_law := fun _ h => List.mem_append_left _ (List.mem_append_left _ (List.mem_append_left _ (List.mem_append_left _ (List.mem_append_left _ (List.mem_append_left _ (List.mem_append_left _ (List.mem_append_left _ (List.mem_append_left _ (List.mem_append_left _ (List.mem_append_left _ (List.mem_append_left _ (List.mem_append_right _ h))))))))))))
theorem inlX2 : ∀ w ∈ wsX20, w ∈ wsL_law := fun _ h => List.mem_append_left _ (List.mem_append_left _ (List.mem_append_left _ (List.mem_append_left _ (List.mem_append_left _ (List.mem_append_left _ (List.mem_append_right _ h))))))
theorem inlX3 : ∀ w ∈ wsX30, w ∈ wsL_law := fun _ h => List.mem_append_left _ (List.mem_append_left _ (List.mem_append_left _ (List.mem_append_left _ (List.mem_append_left _ (List.mem_append_left _ (List.mem_append_left _ (List.mem_append_left _ (List.mem_append_left _ (List.mem_append_left _ (List.mem_append_right _ h))))))))))
theorem inlX4 : ∀ w ∈ wsX40, w ∈ wsL_law := fun _ h => List.mem_append_left _ (List.mem_append_left _ (List.mem_append_left _ (List.mem_append_left _ (List.mem_append_left _ (List.mem_append_left _ (List.mem_append_left _ (List.mem_append_left _ (List.mem_append_left _ (List.mem_append_right _ h)))))))))
theorem inlX5 : ∀ w ∈ wsX50, w ∈ wsL_law := fun _ h => List.mem_append_left _ (List.mem_append_left _ (List.mem_append_left _ (List.mem_append_left _ (List.mem_append_left _ (List.mem_append_left _ (List.mem_append_left _ (List.mem_append_left _ (List.mem_append_right _ h))))))))
theorem inlX6 : ∀ w ∈ wsX60, w ∈ wsL_law := fun _ h => List.mem_append_left _ (List.mem_append_left _ (List.mem_append_left _ (List.mem_append_left _ (List.mem_append_left _ (List.mem_append_right _ h)))))
theorem inlX7 : ∀ w ∈ wsX70, w ∈ wsL_law := fun _ h => List.mem_append_left _ (List.mem_append_left _ (List.mem_append_left _ (List.mem_append_left _ (List.mem_append_left _ (List.mem_append_left _ (List.mem_append_left _ (List.mem_append_left _ (List.mem_append_left _ (List.mem_append_left _ (List.mem_append_left _ (List.mem_append_left _ (List.mem_append_left _ (List.mem_append_right _ h)))))))))))))
theorem inlX8 : ∀ w ∈ wsX80, w ∈ wsL_law := fun _ h => List.mem_append_left _ (List.mem_append_left _ (List.mem_append_left _ (List.mem_append_left _ (List.mem_append_left _ (List.mem_append_left _ (List.mem_append_left _ (List.mem_append_right _ h)))))))
theorem inlX9 : ∀ w ∈ wsX90, w ∈ wsL_law := fun _ h => List.mem_append_left _ (List.mem_append_left _ (List.mem_append_left _ (List.mem_append_left _ (List.mem_append_left _ (List.mem_append_left _ (List.mem_append_left _ (List.mem_append_left _ (List.mem_append_left _ (List.mem_append_left _ (List.mem_append_left _ (List.mem_append_right _ h)))))))))))
theorem inlX10 : ∀ w ∈ wsX100, w ∈ wsL_law := fun _ h => List.mem_append_left _ (List.mem_append_left _ (List.mem_append_left _ (List.mem_append_left _ (List.mem_append_left _ (List.mem_append_left _ (List.mem_append_left _ (List.mem_append_left _ (List.mem_append_left _ (List.mem_append_left _ (List.mem_append_left _ (List.mem_append_left _ (List.mem_append_left _ (List.mem_append_left _ (List.mem_append_right _ h))))))))))))))
theorem dJ9_min_7cf53_0 : decode cJ9_min_7cf53 0 = .ok (.iload_n 0, 1) := by decide +kernel
theorem dJ9_min_7cf53_1 : decode cJ9_min_7cf53 1 = .ok (.iload_n 1, 1) := by decide +kernel
theorem dJ9_min_7cf53_2 : decode cJ9_min_7cf53 2 = .ok (.if_icmp .gt 7, 3) := by decide +kernel
theorem dJ9_min_7cf53_5 : decode cJ9_min_7cf53 5 = .ok (.iload_n 0, 1) := by decide +kernel
theorem dJ9_min_7cf53_6 : decode cJ9_min_7cf53 6 = .ok (.goto 4, 3) := by decide +kernel
theorem dJ9_min_7cf53_9 : decode cJ9_min_7cf53 9 = .ok (.iload_n 1, 1) := by decide +kernel
theorem dJ9_min_7cf53_10 : decode cJ9_min_7cf53 10 = .ok (.ireturn, 1) := by decide +kernel
abbrev vwCl : List vw_C := [(RX0, TX0, 3), (RX1, TX1, 3), (RX2, TX2, 2), (RX3, TX3, 3), (RX4, TX4, 2), (RX5, TX5, 3), (RX6, TX6, 5), (RX7, TX7, 5), (RX8, TX8, 3), (RX9, TX9, 2), (RX10, TX10, 9)]
end
section
/-! A MACHINE OF NUMBERED OBJECTS, over the kit's rows: a shape (how many objects, of which kind, how long, what refers to what), a memory (ints and longs by object and place), two counters of what exceptions took -/
abbrev mSh : Type := (Nat × Nat) × (Nat → Nat) × (Nat → Nat) × (Nat → Nat → Option Nat)
abbrev mMm : Type := (Nat → Nat → Int32) × (Nat → Nat → Int64)
abbrev mSt : Type := mSh × mMm × Nat × Nat
abbrev mN (S : mSh) : Nat := S.1.1
abbrev mTot (S : mSh) : Nat := S.1.2
abbrev mKd (S : mSh) : Nat → Nat := S.2.1
abbrev mLn (S : mSh) : Nat → Nat := S.2.2.1
abbrev mRf (S : mSh) : Nat → Nat → Option Nat := S.2.2.2
/-- the kinds of a class' fields: 0 an int, 1 a long, 2 a reference -/
def mFt : Nat → List Nat
  | 0 => [2, 2, 2]
  | 1 => [2, 0, 0]
  | 2 => [2, 0]
  | 3 => [2, 2, 2]
  | 4 => [2, 2]
  | 5 => [2, 2, 0]
  | 6 => [0, 0, 0, 0, 0]
  | 7 => [2, 2, 2, 0, 0]
  | 8 => [2, 0, 0]
  | 9 => [2, 0]
  | 10 => [2, 2, 0, 2, 2, 2, 2, 2, 2]
  | 11 => [2, 2, 0, 2, 0, 2, 0, 2, 2, 2, 0, 0, 0, 0, 0, 2, 0, 0, 0, 1]
  | _ => []
def mVal (ad : Nat → Nat) (S : mSh) (μ : mMm) (t i k : Nat) : Value := match t with
  | 0 => .int (μ.1 i k)
  | 1 => .long (μ.2 i k)
  | _ => va_rf ((mRf S i k).map ad)
def mFs (ad : Nat → Nat) (S : mSh) (μ : mMm) (i : Nat) : List Value := (List.range (mFt (mKd S i)).length).map (fun k => mVal ad S μ ((mFt (mKd S i)).getD k 0) i k)
def mE (ad : Nat → Nat) (ca : Nat → ClassId) (S : mSh) (μ : mMm) (i : Nat) : va_E :=
  if mKd S i = 12 then .inl (ca 0, mLn S i, .inl (μ.1 i))
  else if mKd S i = 13 then .inl (ca 1, mLn S i, .inr (.inl (μ.2 i)))
  else if mKd S i = 14 then .inl (ca 2, mLn S i, .inl (μ.1 i))
  else if mKd S i = 15 then .inl (ca 3, mLn S i, .inr (.inr (.inr (.inr (fun j => (mRf S i j).map ad)))))
  else .inr (mKd S i, mFs ad S μ i)
def mW (ad : Nat → Nat) (ca : Nat → ClassId) (S : mSh) (μ : mMm) : va_W := (List.range (mN S)).map (fun i => (ad i, mE ad ca S μ i))
def mTy (ca : Nat → ClassId) : List (ClassId × FieldType) := [(ca 0, .int), (ca 3, .object RX7)]
def mok (S : mSh) (o c : Nat) : Bool := decide (o < mN S) && decide (mKd S o = c)
theorem mok_n {S : mSh} {o c : Nat} (h : mok S o c = true) : o < mN S := by simp [mok] at h; exact h.1
theorem mok_k {S : mSh} {o c : Nat} (h : mok S o c = true) : mKd S o = c := by simp [mok] at h; exact h.2
def u2 {α : Type} (f : Nat → Nat → α) (i k : Nat) (v : α) : Nat → Nat → α := fun a b => if a = i then (if b = k then v else f a b) else f a b
theorem u2_ne {α : Type} {f : Nat → Nat → α} {i k j : Nat} {v : α} (h : j ≠ i) : u2 f i k v j = f j := by funext b; simp [u2, h]
theorem u2_row {f : Nat → Nat → Int32} {i k : Nat} {v : Int32} : u2 f i k v i = upd (f i) k v := by funext b; simp [u2, upd]
theorem u2_rowL {f : Nat → Nat → Int64} {i k : Nat} {v : Int64} : u2 f i k v i = vp_updL (f i) k v := by funext b; simp [u2, vp_updL]
theorem u2_same {α : Type} {f : Nat → Nat → α} {i k : Nat} {v : α} : u2 f i k v i k = v := by simp [u2]
theorem u2_other {α : Type} {f : Nat → Nat → α} {i k a b : Nat} {v : α} (h : a ≠ i ∨ b ≠ k) : u2 f i k v a b = f a b := by
  unfold u2
  by_cases h1 : a = i
  · by_cases h2 : b = k
    · rcases h with h | h
      · exact absurd h1 h
      · exact absurd h2 h
    · simp [h1, h2]
  · simp [h1]
theorem mW_get (ad : Nat → Nat) (ca : Nat → ClassId) (S : mSh) (μ : mMm) {i : Nat} (h : i < mN S) : (mW ad ca S μ)[i]? = some (ad i, mE ad ca S μ i) := by
  simp [mW, h]
theorem mW_get' {ad : Nat → Nat} {ca : Nat → ClassId} {S : mSh} {μ : mMm} {i : Nat} {q : Nat × va_E} (h : (mW ad ca S μ)[i]? = some q) : i < mN S ∧ q = (ad i, mE ad ca S μ i) := by
  have hi : i < mN S := by
    rcases Nat.lt_or_ge i (mN S) with h1 | h1
    · exact h1
    · rw [List.getElem?_eq_none (by simpa [mW] using h1)] at h; cases h
  rw [mW_get ad ca S μ hi] at h
  exact ⟨hi, (Option.some.inj h).symm⟩
theorem mset {α : Type} (n : Nat) (f g : Nat → α) (k : Nat) (v : α) (hk : k < n) (hv : g k = v) (ho : ∀ j, j ≠ k → g j = f j) : ((List.range n).map f).set k v = (List.range n).map g := by
  apply List.ext_getElem?
  intro j
  rw [List.getElem?_set]
  by_cases hj : k = j
  · subst hj
    simp [hk, hv]
  · simp only [hj, if_false]
    by_cases hn : j < n
    · simp [hn, ho j (fun e => hj e.symm)]
    · simp [hn]
theorem mW_set {ad : Nat → Nat} {ca : Nat → ClassId} {S : mSh} {μ μ' : mMm} {i : Nat} {e : va_E} (h : i < mN S) (he : mE ad ca S μ' i = e) (ho : ∀ j, j ≠ i → mE ad ca S μ' j = mE ad ca S μ j) : (mW ad ca S μ).set i (ad i, e) = mW ad ca S μ' :=
  mset (mN S) _ _ i _ h (by rw [he]) (fun j hj => by rw [ho j hj])
theorem mE_neI {ad : Nat → Nat} {ca : Nat → ClassId} {S : mSh} {μ : mMm} {i k j : Nat} {v : Int32} (h : j ≠ i) : mE ad ca S (u2 μ.1 i k v, μ.2) j = mE ad ca S μ j := by
  have h1 := u2_ne (f := μ.1) (k := k) (v := v) h
  simp only [mE, mFs, mVal, h1]
theorem mE_neL {ad : Nat → Nat} {ca : Nat → ClassId} {S : mSh} {μ : mMm} {i k j : Nat} {v : Int64} (h : j ≠ i) : mE ad ca S (μ.1, u2 μ.2 i k v) j = mE ad ca S μ j := by
  have h1 := u2_ne (f := μ.2) (k := k) (v := v) h
  simp only [mE, mFs, mVal, h1]
theorem mE_obj {ad : Nat → Nat} {ca : Nat → ClassId} {S : mSh} {μ : mMm} {i c : Nat} (h : mKd S i = c) (hc : c < 12) : mE ad ca S μ i = .inr (c, mFs ad S μ i) := by
  unfold mE
  rw [h, if_neg (by omega), if_neg (by omega), if_neg (by omega), if_neg (by omega)]
theorem mE_12 {ad : Nat → Nat} {ca : Nat → ClassId} {S : mSh} {μ : mMm} {i : Nat} (h : mKd S i = 12) : mE ad ca S μ i = .inl (ca 0, mLn S i, .inl (μ.1 i)) := by simp [mE, h]
theorem mE_13 {ad : Nat → Nat} {ca : Nat → ClassId} {S : mSh} {μ : mMm} {i : Nat} (h : mKd S i = 13) : mE ad ca S μ i = .inl (ca 1, mLn S i, .inr (.inl (μ.2 i))) := by simp [mE, h]
theorem mE_14 {ad : Nat → Nat} {ca : Nat → ClassId} {S : mSh} {μ : mMm} {i : Nat} (h : mKd S i = 14) : mE ad ca S μ i = .inl (ca 2, mLn S i, .inl (μ.1 i)) := by simp [mE, h]
theorem mE_15 {ad : Nat → Nat} {ca : Nat → ClassId} {S : mSh} {μ : mMm} {i : Nat} (h : mKd S i = 15) : mE ad ca S μ i = .inl (ca 3, mLn S i, .inr (.inr (.inr (.inr (fun j => (mRf S i j).map ad))))) := by simp [mE, h]
theorem mFs_get {ad : Nat → Nat} {S : mSh} {μ : mMm} {i c k : Nat} (h : mKd S i = c) (hk : k < (mFt c).length) : (mFs ad S μ i)[k]? = some (mVal ad S μ ((mFt c).getD k 0) i k) := by
  subst h
  simp [mFs, hk]
theorem mFs_len {ad : Nat → Nat} {S : mSh} {μ : mMm} {i c : Nat} (h : mKd S i = c) : (mFs ad S μ i).length = (mFt c).length := by
  subst h
  simp [mFs]
theorem mFs_setI {ad : Nat → Nat} {S : mSh} {μ : mMm} {i c k : Nat} {v : Int32} (h : mKd S i = c) (hk : k < (mFt c).length) (ht : (mFt c).getD k 0 = 0) : (mFs ad S μ i).set k (.int v) = mFs ad S (u2 μ.1 i k v, μ.2) i := by
  subst h
  refine mset _ _ _ k _ hk ?_ (fun j hj => ?_)
  · rw [ht]
    simp [mVal, u2_same]
  · have : u2 μ.1 i k v i j = μ.1 i j := u2_other (Or.inr hj)
    simp only [mVal, this]
theorem mFs_setL {ad : Nat → Nat} {S : mSh} {μ : mMm} {i c k : Nat} {v : Int64} (h : mKd S i = c) (hk : k < (mFt c).length) (ht : (mFt c).getD k 0 = 1) : (mFs ad S μ i).set k (.long v) = mFs ad S (μ.1, u2 μ.2 i k v) i := by
  subst h
  refine mset _ _ _ k _ hk ?_ (fun j hj => ?_)
  · rw [ht]
    simp [mVal, u2_same]
  · have : u2 μ.2 i k v i j = μ.2 i j := u2_other (Or.inr hj)
    simp only [mVal, this]
/-- a number's reference is an address -/
def mv (ad : Nat → Nat) : Value → Value
  | .ref i => .ref (ad i)
  | v => v
theorem mv_cat (ad : Nat → Nat) (v : Value) : (mv ad v).category = v.category := by cases v <;> rfl
/-- the locals by their places, none where nothing is known -/
def mH (ls : Array Slot) (nL : Nat) (ad : Nat → Nat) (l : List (Option Value)) : Prop := ls.size = nL ∧ lv_wf ls ∧ ∀ (i : Nat) (v : Value), l[i]? = some (some v) → ls[i]? = some (.val (mv ad v))
def mPr (ad : Nat → Nat) (l : List (Option Value)) : List (Nat × Value) := (List.range l.length).filterMap (fun i => ((l[i]?).getD none).map (fun v => (i, mv ad v)))
theorem mPr_mem {ad : Nat → Nat} {l : List (Option Value)} {q : Nat × Value} : q ∈ mPr ad l ↔ ∃ v, l[q.1]? = some (some v) ∧ q.2 = mv ad v := by
  unfold mPr
  rw [List.mem_filterMap]
  constructor
  · rintro ⟨i, -, h⟩
    cases h1 : l[i]? with
    | none => rw [h1] at h; cases h
    | some x =>
      rw [h1] at h
      cases x with
      | none => cases h
      | some v =>
        cases h
        exact ⟨v, h1, rfl⟩
  · rintro ⟨v, h, h2⟩
    refine ⟨q.1, ?_, ?_⟩
    · exact List.mem_range.mpr (List.getElem?_eq_some_iff.mp h).1
    · rw [h]
      show some (q.1, mv ad v) = some q
      rw [← h2]
theorem mH_has {ls : Array Slot} {nL : Nat} {ad : Nat → Nat} {l : List (Option Value)} (h : mH ls nL ad l) : lv_has ls nL (mPr ad l) := by
  refine ⟨h.1, h.2.1, fun q hq => ?_⟩
  obtain ⟨v, h1, h2⟩ := mPr_mem.mp hq
  rw [h2]
  exact h.2.2 _ _ h1
/-- a long's or a double's place, when its second half is written -/
def kl : Option Value → Option Value
  | some (.long _) => none
  | some (.double _) => none
  | x => x
def ml1 (l : List (Option Value)) (i : Nat) (v : Value) : List (Option Value) := (if i = 0 then l else l.set (i - 1) (kl ((l[i - 1]?).getD none))).set i (some v)
def ml2 (l : List (Option Value)) (i : Nat) (v : Value) : List (Option Value) := ((if i = 0 then l else l.set (i - 1) (kl ((l[i - 1]?).getD none))).set i (some v)).set (i + 1) none
theorem kl_some {x : Option Value} {v : Value} (h : kl x = some v) : x = some v ∧ ¬ v.category = 2 := by
  cases x with
  | none => cases h
  | some w => cases w <;> first | (cases h; exact ⟨rfl, by simp [Value.category]⟩) | (exact absurd h (by simp [kl]))
theorem ml1_get {l : List (Option Value)} {i j : Nat} {v w : Value} (h : (ml1 l i v)[j]? = some (some w)) : (j = i ∧ w = v) ∨ (j ≠ i ∧ l[j]? = some (some w) ∧ (j + 1 = i → ¬ w.category = 2)) := by
  unfold ml1 at h
  rw [List.getElem?_set] at h
  by_cases hj : i = j
  · rw [if_pos hj] at h
    generalize (if i = 0 then l else l.set (i - 1) (kl ((l[i - 1]?).getD none))) = L at h
    by_cases hlt : i < L.length
    · rw [if_pos hlt] at h
      exact Or.inl ⟨hj.symm, (Option.some.inj (Option.some.inj h)).symm⟩
    · rw [if_neg hlt] at h
      cases h
  · rw [if_neg hj] at h
    refine Or.inr ⟨fun e => hj e.symm, ?_⟩
    by_cases h0 : i = 0
    · rw [if_pos h0] at h
      exact ⟨h, fun e => by omega⟩
    · rw [if_neg h0, List.getElem?_set] at h
      by_cases h1 : i - 1 = j
      · rw [if_pos h1] at h
        by_cases hlt : i - 1 < l.length
        · rw [if_pos hlt] at h
          have h2 := kl_some (Option.some.inj h)
          have h3 : l[i - 1]? = some l[i - 1] := List.getElem?_eq_getElem hlt
          rw [h3] at h2
          refine ⟨?_, fun _ => h2.2⟩
          rw [← h1, h3]
          exact congrArg some h2.1
        · rw [if_neg hlt] at h
          cases h
      · rw [if_neg h1] at h
        exact ⟨h, fun e => by omega⟩
theorem mH_st1 {ls : Array Slot} {nL : Nat} {ad : Nat → Nat} {l : List (Option Value)} {i : Nat} {v : Value} (h : lv_has ls nL ((i, mv ad v) :: (mPr ad l).filter (fun q => !(q.1 == i) && !(q.1 + 1 == i && q.2.category == 2)))) : mH ls nL ad (ml1 l i v) := by
  refine ⟨h.1, h.2.1, fun j w hj => ?_⟩
  rcases ml1_get hj with ⟨rfl, rfl⟩ | ⟨h1, h2, h3⟩
  · exact h.2.2 _ List.mem_cons_self
  · refine h.2.2 (j, mv ad w) (List.mem_cons_of_mem _ (List.mem_filter.mpr ⟨mPr_mem.mpr ⟨w, h2, rfl⟩, ?_⟩))
    by_cases h4 : j + 1 = i
    · have h5 := h3 h4
      simp [h1, mv_cat, h5]
    · simp [h1, h4]
theorem mH_st2 {ls : Array Slot} {nL : Nat} {ad : Nat → Nat} {l : List (Option Value)} {i : Nat} {v : Value} (h : lv_has ls nL ((i, mv ad v) :: (mPr ad l).filter (fun q => !(q.1 == i) && (!(q.1 == i + 1) && !(q.1 + 1 == i && q.2.category == 2))))) : mH ls nL ad (ml2 l i v) := by
  refine ⟨h.1, h.2.1, fun j w hj => ?_⟩
  have hj' : (ml1 l i v)[j]? = some (some w) ∧ j ≠ i + 1 := by
    have h6 : ((ml1 l i v).set (i + 1) none)[j]? = some (some w) := hj
    rw [List.getElem?_set] at h6
    by_cases hq : i + 1 = j
    · simp only [hq, if_true] at h6
      split at h6 <;> cases h6
    · simp only [hq, if_false] at h6
      exact ⟨h6, fun e => hq e.symm⟩
  rcases ml1_get hj'.1 with ⟨rfl, rfl⟩ | ⟨h1, h2, h3⟩
  · exact h.2.2 _ List.mem_cons_self
  · refine h.2.2 (j, mv ad w) (List.mem_cons_of_mem _ (List.mem_filter.mpr ⟨mPr_mem.mpr ⟨w, h2, rfl⟩, ?_⟩))
    by_cases h4 : j + 1 = i
    · have h5 := h3 h4
      simp [h1, mv_cat, h5, hj'.2]
    · simp [h1, h4, hj'.2]
/-! methods, contexts, places of a walk -/
/-- what a walk takes as given beside: of the code, the addresses, the start, the free places -/
abbrev mEx : Type := Code → (Nat → Nat) → State → (Nat → Prop) → Prop
def eT : mEx := fun _ _ _ _ => True
abbrev mM : Type := (MethodName × ByteArray × Nat × Option FieldType) × (Nat × Nat) × (Bool × Bool) × String × mEx
abbrev mY (M : mM) : MethodName := M.1.1
abbrev mCode (M : mM) : ByteArray := M.1.2.1
abbrev mMaxL (M : mM) : Nat := M.1.2.2.1
abbrev mRet (M : mM) : Option FieldType := M.1.2.2.2
abbrev mFr (M : mM) : Nat := M.2.1.1
abbrev mLo (M : mM) : Nat := M.2.1.2
abbrev mAl (M : mM) : Bool := M.2.2.1.1
abbrev mInit (M : mM) : Bool := M.2.2.1.2
abbrev mOwn (M : mM) : String := M.2.2.2.1
abbrev mXe (M : mM) : mEx := M.2.2.2.2
/-- the references are objects' numbers -/
def mRk (S : mSh) : Prop := ∀ i k r, mRf S i k = some r → r < mN S
abbrev mO : Type := Option Value ⊕ Nat
abbrev mCel (σ : mSt) : Nat := mN σ.1 + σ.2.2.1
abbrev mSlo (σ : mSt) : Nat := mTot σ.1 + σ.2.2.2
def mLe (σ τ : mSt) : Prop := mN σ.1 ≤ mN τ.1 ∧ mCel σ ≤ mCel τ ∧ mSlo σ ≤ mSlo τ
theorem mLe.rf {σ : mSt} : mLe σ σ := ⟨Nat.le_refl _, Nat.le_refl _, Nat.le_refl _⟩
theorem mLe.tr {σ τ ρ : mSt} (h : mLe σ τ) (k : mLe τ ρ) : mLe σ ρ := ⟨Nat.le_trans h.1 k.1, Nat.le_trans h.2.1 k.2.1, Nat.le_trans h.2.2 k.2.2⟩
def mCls (E : Nat) : String := match E with
  | 0 => "java/lang/IllegalArgumentException"
  | 1 => "java/lang/IllegalStateException"
  | _ => "java/lang/IndexOutOfBoundsException"
abbrev mNms : List String := ["java/lang/RuntimeException", "java/lang/Exception"]
/-- the strings of the throws: a place of the pool of SlideMills, and the text -/
def mTx : List (Nat × String) := [(83, "letter out of range"), (96, "the text is full"), (112, "no such place"), (130, "places out of range"), (137, "length out of range"), (145, "price out of range"), (156, "way out of range"), (173, "a token is wrong"), (186, "the sack is full"), (190, "distance or length out of range"), (192, "the sack is empty"), (236, "no such token"), (241, "it is a repeat"), (246, "it is a letter"), (292, "pair out of range"), (300, "the text has no pair")]
/-- what a throw takes as given, beside the words -/
def mTF (A : Nat → Prop) (U : State) (H : Heap) : Prop := vx_Zq Bundle.tN "UNASSIGNED_STACK" Bundle.steD A U H ∧ vx_Zq Bundle.tN "SUPPRESSED_SENTINEL" Bundle.listD A U H ∧ (∀ q ∈ mTx, ∃ sa, vk_R RX10 q.1 q.2 sa U) ∧ (∀ E, E < 3 → va_Nw (.castable (mCls E) (mCls E)) U) ∧ va_Nw (.declares ⟨"java/lang/RuntimeException", "<init>", "(Ljava/lang/String;)V"⟩) U ∧ va_Nw (.declares ⟨"java/lang/Exception", "<init>", "(Ljava/lang/String;)V"⟩) U ∧ va_Nw (.declares ⟨"java/lang/Throwable", "<init>", "(Ljava/lang/String;)V"⟩) U ∧ va_AO RX7 U ∧ (∀ i j, i < 3 → j < 3 → i ≠ j → va_Nc (mCls i) (mCls j) U)
def mCx (M : mM) (p : Program) (lch : Launch) (e : Env) (R : Room) (s : State) (m : MethodId) (args : Array Value) (below : List Frame) (meth : Method) (c : Code) (A : Nat → Prop) (D : va_G) (ca : Nat → ClassId) : Prop :=
  p.tables.exec = Jvm.exec ∧ c.code = mCode M ∧ c.maxLocals = mMaxL M ∧ s.vm.findClass (mOwn M) = some m.cls ∧ (∀ w ∈ wsL_law, w.before args s = true) ∧ (mInit M = true → meth.name = "<init>") ∧ va_K D vwCl (mTy ca) s ∧ (∀ q : Nat, s.heap.size ≤ q → A q) ∧ mFr M ≤ R.frames ∧ mLo M ≤ R.locals ∧ lch.flags = flags0
def mCf (M : mM) (s : State) (A : Nat → Prop) (D : va_G) (ca : Nat → ClassId) (n0 c0 s0 : Nat) (ad0 : Nat → Nat) (σ : mSt) (l : List (Option Value)) (ad : Nat → Nat) (H : Heap) (locs : List Loc) (ls : Array Slot) : Prop :=
  va_P D vwCl (mW ad ca σ.1 σ.2.1) H ∧ va_D A (mW ad ca σ.1 σ.2.1) ∧ va_S A s.heap H locs ∧ mH ls (mMaxL M) ad l ∧ (∀ i, (i < n0 ∨ 1000 ≤ i) → ad i = ad0 i) ∧ (mAl M = false → ad = ad0) ∧ (n0 ≤ mN σ.1 ∧ (mAl M = true → mRk σ.1)) ∧ c0 ≤ mCel σ ∧ s0 ≤ mSlo σ
/-- a place that throws E -/
def mSite (M : mM) (pc : Nat) (E : Nat) : Prop := ∃ (ik is ic : Nat) (tx : String), decode (mCode M) pc = .ok (.new ik, 3) ∧ decode (mCode M) (pc + 3) = .ok (.dup, 1) ∧
  ((decode (mCode M) (pc + 4) = .ok (.ldc is, 2) ∧ decode (mCode M) (pc + 6) = .ok (.invokespecial ic, 3) ∧ decode (mCode M) (pc + 9) = .ok (.athrow, 1)) ∨ (decode (mCode M) (pc + 4) = .ok (.ldc_w is, 3) ∧ decode (mCode M) (pc + 7) = .ok (.invokespecial ic, 3) ∧ decode (mCode M) (pc + 10) = .ok (.athrow, 1))) ∧
  mOwn M = RX10 ∧ Cond.classLink RX10 ik (mCls E) ∈ wsL_law ∧ Cond.initialized (mCls E) ∈ wsL_law ∧ ((E = 0 ∧ ic = 85) ∨ (E = 1 ∧ ic = 98) ∨ (E = 2 ∧ ic = 114)) ∧ (is, tx) ∈ mTx ∧ 6 ≤ mFr M ∧ 90 ≤ mLo M
def mEnd (M : mM) (n0 c0 s0 : Nat) (x : mO × mSt) (p : Program) (lch : Launch) (e : Env) (R : Room) (s : State) (m : MethodId) (args : Array Value) (below : List Frame) (meth : Method) (c : Code) (A : Nat → Prop) (D : va_G) (ca : Nat → ClassId) (Q : State → Prop) (ad0 : Nat → Nat) : Prop :=
  match x.1 with
  | .inl none => ∀ l ad H locs ls pc, mCf M s A D ca n0 c0 s0 ad0 x.2 l ad H locs ls → decode (mCode M) pc = .ok (.return_, 1) → mRet M = none → W p lch e R s m args below meth c H locs (mCel x.2 - c0) (mSlo x.2 - s0) Q (F0 m pc ls [])
  | .inl (some (.int v)) => ∀ l ad H locs ls pc ty, mCf M s A D ca n0 c0 s0 ad0 x.2 l ad H locs ls → decode (mCode M) pc = .ok (.ireturn, 1) → mRet M = some ty → narrow ty (.int v) = .int v → W p lch e R s m args below meth c H locs (mCel x.2 - c0) (mSlo x.2 - s0) Q (F0 m pc ls [.int v])
  | .inl (some (.long v)) => ∀ l ad H locs ls pc, mCf M s A D ca n0 c0 s0 ad0 x.2 l ad H locs ls → decode (mCode M) pc = .ok (.lreturn, 1) → mRet M = some .long → W p lch e R s m args below meth c H locs (mCel x.2 - c0) (mSlo x.2 - s0) Q (F0 m pc ls [.long v])
  | .inl (some (.double v)) => ∀ l ad H locs ls pc, mCf M s A D ca n0 c0 s0 ad0 x.2 l ad H locs ls → decode (mCode M) pc = .ok (.dreturn, 1) → mRet M = some .double → W p lch e R s m args below meth c H locs (mCel x.2 - c0) (mSlo x.2 - s0) Q (F0 m pc ls [.double v])
  | .inl (some _) => True
  | .inr E => ∀ σ l ad H locs ls pc rest, σ.1 = x.2.1 → σ.2.1 = x.2.2.1 → mCel σ + 1 ≤ mCel x.2 → mSlo σ + 6 ≤ mSlo x.2 → mCf M s A D ca n0 c0 s0 ad0 σ l ad H locs ls → mSite M pc E → (rest.map fun v => v.category).sum ≤ 8 → W p lch e R s m args below meth c H locs (mCel σ - c0) (mSlo σ - s0) Q (F0 m pc ls rest)
/-- a walk of M from here comes to what o says -/
def mX (M : mM) (n0 c0 s0 : Nat) (pc : Nat) (l : List (Option Value)) (st : List Value) (σ : mSt) {α : Type} (ι : α → mO × mSt) (o : Option α) : Prop :=
  ∀ a, o = some a → mLe σ (ι a).2 ∧ ∀ p lch e R s m args below meth c A D ca Q ad0, mCx M p lch e R s m args below meth c A D ca → (mTF A s s.heap ∧ mXe M c ad0 s A) → mCel (ι a).2 - c0 ≤ R.cells → mSlo (ι a).2 - s0 ≤ R.slots → mEnd M n0 c0 s0 (ι a) p lch e R s m args below meth c A D ca Q ad0 →
    ∀ ad H locs ls, mCf M s A D ca n0 c0 s0 ad0 σ l ad H locs ls → W p lch e R s m args below meth c H locs (mCel σ - c0) (mSlo σ - s0) Q (F0 m pc ls (st.map (mv ad)))
section MROWS
variable {M : mM} {n0 c0 s0 : Nat} {pc : Nat} {l : List (Option Value)} {st : List Value} {σ : mSt} {α : Type} {ι : α → mO × mSt} {o : Option α}
theorem x_none : mX M n0 c0 s0 pc l st σ ι none := fun a h => by cases h
/-- a row that leaves locals and memory alone -/
theorem mX.step {pc' : Nat} {st' : List Value} (h : ∀ (p : Program) (lch : Launch) (e : Env) (R : Room) (s : State) (m : MethodId) (args : Array Value) (below : List Frame) (meth : Method) (c : Code) (A : Nat → Prop) (D : va_G) (ca : Nat → ClassId) (Q : State → Prop) (H : Heap) (locs : List Loc) (cells slots : Nat) (ls : Array Slot) (ad : Nat → Nat), mCx M p lch e R s m args below meth c A D ca → cells ≤ R.cells → slots ≤ R.slots → mH ls (mMaxL M) ad l → W p lch e R s m args below meth c H locs cells slots Q (F0 m pc' ls (st'.map (mv ad))) → W p lch e R s m args below meth c H locs cells slots Q (F0 m pc ls (st.map (mv ad))))
    (k : mX M n0 c0 s0 pc' l st' σ ι o) : mX M n0 c0 s0 pc l st σ ι o := by
  intro a ha
  obtain ⟨h1, h2⟩ := k a ha
  refine ⟨h1, ?_⟩
  intro p lch e R s m args below meth c A D ca Q ad0 hc ht hr1 hr2 he ad H locs ls hf
  have g1 := h1.2.1
  have g2 := h1.2.2
  exact h p lch e R s m args below meth c A D ca Q H locs _ _ ls ad hc (by omega) (by omega) hf.2.2.2.1 (h2 p lch e R s m args below meth c A D ca Q ad0 hc ht hr1 hr2 he ad H locs ls hf)
theorem x_iconst {n : Int} {v : Int32} (hd : decode (mCode M) pc = .ok (.iconst n, 1)) (hv : Int32.ofInt n = v) (k : mX M n0 c0 s0 (pc + 1) l (.int v :: st) σ ι o) : mX M n0 c0 s0 pc l st σ ι o :=
  mX.step (fun _ _ _ _ _ _ _ _ _ _ _ _ _ _ _ _ _ _ _ _ hc _ _ hl w => lv_iconst hc.1 hc.2.1 hd hv w) k
theorem x_bipush {n : Int} {v : Int32} (hd : decode (mCode M) pc = .ok (.bipush n, 2)) (hv : (Int8.ofInt n).toInt32 = v) (k : mX M n0 c0 s0 (pc + 2) l (.int v :: st) σ ι o) : mX M n0 c0 s0 pc l st σ ι o :=
  mX.step (fun _ _ _ _ _ _ _ _ _ _ _ _ _ _ _ _ _ _ _ _ hc _ _ hl w => lv_bipush hc.1 hc.2.1 hd hv w) k
theorem x_sipush {n : Int} {v : Int32} (hd : decode (mCode M) pc = .ok (.sipush n, 3)) (hv : (Int16.ofInt n).toInt32 = v) (k : mX M n0 c0 s0 (pc + 3) l (.int v :: st) σ ι o) : mX M n0 c0 s0 pc l st σ ι o :=
  mX.step (fun _ _ _ _ _ _ _ _ _ _ _ _ _ _ _ _ _ _ _ _ hc _ _ hl w => lv_sipush hc.1 hc.2.1 hd hv w) k
theorem x_ldc {index : Nat} {v : Int32} (hd : decode (mCode M) pc = .ok (.ldc index, 2)) (hw : Jvm.Cond.constant (mOwn M) index v ∈ wsL_law) (k : mX M n0 c0 s0 (pc + 2) l (.int v :: st) σ ι o) : mX M n0 c0 s0 pc l st σ ι o :=
  mX.step (fun _ _ _ _ _ _ _ _ _ _ _ _ _ _ _ _ _ _ _ _ hc _ _ hl w => lv_ldc hc.1 hc.2.1 hc.2.2.2.1 (hc.2.2.2.2.1 _ hw) hd w) k
theorem x_lconst {n : Fin 2} {v : Int64} (hd : decode (mCode M) pc = .ok (.lconst n, 1)) (hv : Int64.ofNat (n : Nat) = v) (k : mX M n0 c0 s0 (pc + 1) l (.long v :: st) σ ι o) : mX M n0 c0 s0 pc l st σ ι o :=
  mX.step (fun _ _ _ _ _ _ _ _ _ _ _ _ _ _ _ _ _ _ _ _ hc _ _ hl w => lv_lconst hc.1 hc.2.1 hd hv w) k
theorem x_dconst1 (hd : decode (mCode M) pc = .ok (.dconst 1, 1)) (k : mX M n0 c0 s0 (pc + 1) l (.double FP.dconst1 :: st) σ ι o) : mX M n0 c0 s0 pc l st σ ι o :=
  mX.step (fun _ _ _ _ _ _ _ _ _ _ _ _ _ _ _ _ _ _ _ _ hc _ _ hl w => lv_dconst1 hc.1 hc.2.1 hd w) k
theorem x_ldc2 {index : Nat} {v : Int64} (hd : decode (mCode M) pc = .ok (.ldc2_w index, 3)) (hw : Jvm.Cond.constantLong (mOwn M) index v ∈ wsL_law) (k : mX M n0 c0 s0 (pc + 3) l (.long v :: st) σ ι o) : mX M n0 c0 s0 pc l st σ ι o :=
  mX.step (fun _ _ _ _ _ _ _ _ _ _ _ _ _ _ _ _ _ _ _ _ hc _ _ hl w => lv_ldc2 hc.1 hc.2.1 hc.2.2.2.1 (hc.2.2.2.2.1 _ hw) hd w) k
theorem x_ldc2d {index : Nat} {v : UInt64} (hd : decode (mCode M) pc = .ok (.ldc2_w index, 3)) (hw : Jvm.Cond.constantDouble (mOwn M) index v ∈ wsL_law) (k : mX M n0 c0 s0 (pc + 3) l (.double v :: st) σ ι o) : mX M n0 c0 s0 pc l st σ ι o :=
  mX.step (fun _ _ _ _ _ _ _ _ _ _ _ _ _ _ _ _ _ _ _ _ hc _ _ hl w => lv_ldc2d hc.1 hc.2.1 hc.2.2.2.1 (hc.2.2.2.2.1 _ hw) hd w) k
theorem x_iload_n {q : Fin 4} {i : Nat} {x : Int32} (hd : decode (mCode M) pc = .ok (.iload_n q, 1)) (hi : (q : Nat) = i) (hx : l[i]? = some (some (.int x))) (k : mX M n0 c0 s0 (pc + 1) l (.int x :: st) σ ι o) : mX M n0 c0 s0 pc l st σ ι o :=
  mX.step (fun _ _ _ _ _ _ _ _ _ _ _ _ _ _ _ _ _ _ _ _ hc _ _ hl w => lv_iload_n hc.1 hc.2.1 hd hi (hl.2.2 _ _ hx) w) k
theorem x_iload {i : Nat} {x : Int32} (hd : decode (mCode M) pc = .ok (.iload i, 2)) (hx : l[i]? = some (some (.int x))) (k : mX M n0 c0 s0 (pc + 2) l (.int x :: st) σ ι o) : mX M n0 c0 s0 pc l st σ ι o :=
  mX.step (fun _ _ _ _ _ _ _ _ _ _ _ _ _ _ _ _ _ _ _ _ hc _ _ hl w => lv_iload hc.1 hc.2.1 hd (hl.2.2 _ _ hx) w) k
theorem x_lload_n {q : Fin 4} {i : Nat} {x : Int64} (hd : decode (mCode M) pc = .ok (.lload_n q, 1)) (hi : (q : Nat) = i) (hx : l[i]? = some (some (.long x))) (k : mX M n0 c0 s0 (pc + 1) l (.long x :: st) σ ι o) : mX M n0 c0 s0 pc l st σ ι o :=
  mX.step (fun _ _ _ _ _ _ _ _ _ _ _ _ _ _ _ _ _ _ _ _ hc _ _ hl w => lv_lload_n hc.1 hc.2.1 hd hi (hl.2.2 _ _ hx) w) k
theorem x_lload {i : Nat} {x : Int64} (hd : decode (mCode M) pc = .ok (.lload i, 2)) (hx : l[i]? = some (some (.long x))) (k : mX M n0 c0 s0 (pc + 2) l (.long x :: st) σ ι o) : mX M n0 c0 s0 pc l st σ ι o :=
  mX.step (fun _ _ _ _ _ _ _ _ _ _ _ _ _ _ _ _ _ _ _ _ hc _ _ hl w => lv_lload hc.1 hc.2.1 hd (hl.2.2 _ _ hx) w) k
theorem x_dload_n {q : Fin 4} {i : Nat} {x : UInt64} (hd : decode (mCode M) pc = .ok (.dload_n q, 1)) (hi : (q : Nat) = i) (hx : l[i]? = some (some (.double x))) (k : mX M n0 c0 s0 (pc + 1) l (.double x :: st) σ ι o) : mX M n0 c0 s0 pc l st σ ι o :=
  mX.step (fun _ _ _ _ _ _ _ _ _ _ _ _ _ _ _ _ _ _ _ _ hc _ _ hl w => lv_dload_n hc.1 hc.2.1 hd hi (hl.2.2 _ _ hx) w) k
theorem x_dload {i : Nat} {x : UInt64} (hd : decode (mCode M) pc = .ok (.dload i, 2)) (hx : l[i]? = some (some (.double x))) (k : mX M n0 c0 s0 (pc + 2) l (.double x :: st) σ ι o) : mX M n0 c0 s0 pc l st σ ι o :=
  mX.step (fun _ _ _ _ _ _ _ _ _ _ _ _ _ _ _ _ _ _ _ _ hc _ _ hl w => lv_dload hc.1 hc.2.1 hd (hl.2.2 _ _ hx) w) k
theorem x_aload_n {q : Fin 4} {i : Nat} {x : Nat} (hd : decode (mCode M) pc = .ok (.aload_n q, 1)) (hi : (q : Nat) = i) (hx : l[i]? = some (some (.ref x))) (k : mX M n0 c0 s0 (pc + 1) l (.ref x :: st) σ ι o) : mX M n0 c0 s0 pc l st σ ι o :=
  mX.step (fun _ _ _ _ _ _ _ _ _ _ _ _ _ _ _ _ _ _ _ _ hc _ _ hl w => lv_aload_n hc.1 hc.2.1 hd hi (hl.2.2 _ _ hx) w) k
theorem x_aload {i : Nat} {x : Nat} (hd : decode (mCode M) pc = .ok (.aload i, 2)) (hx : l[i]? = some (some (.ref x))) (k : mX M n0 c0 s0 (pc + 2) l (.ref x :: st) σ ι o) : mX M n0 c0 s0 pc l st σ ι o :=
  mX.step (fun _ _ _ _ _ _ _ _ _ _ _ _ _ _ _ _ _ _ _ _ hc _ _ hl w => lv_aload hc.1 hc.2.1 hd (hl.2.2 _ _ hx) w) k
theorem x_iadd {x y : Int32} (hd : decode (mCode M) pc = .ok (.iadd, 1)) (k : mX M n0 c0 s0 (pc + 1) l (.int (x + y) :: st) σ ι o) : mX M n0 c0 s0 pc l (.int y :: .int x :: st) σ ι o :=
  mX.step (fun _ _ _ _ _ _ _ _ _ _ _ _ _ _ _ _ _ _ _ _ hc _ _ hl w => lv_iadd hc.1 hc.2.1 hd w) k
theorem x_isub {x y : Int32} (hd : decode (mCode M) pc = .ok (.isub, 1)) (k : mX M n0 c0 s0 (pc + 1) l (.int (x - y) :: st) σ ι o) : mX M n0 c0 s0 pc l (.int y :: .int x :: st) σ ι o :=
  mX.step (fun _ _ _ _ _ _ _ _ _ _ _ _ _ _ _ _ _ _ _ _ hc _ _ hl w => lv_isub hc.1 hc.2.1 hd w) k
theorem x_imul {x y : Int32} (hd : decode (mCode M) pc = .ok (.imul, 1)) (k : mX M n0 c0 s0 (pc + 1) l (.int (x * y) :: st) σ ι o) : mX M n0 c0 s0 pc l (.int y :: .int x :: st) σ ι o :=
  mX.step (fun _ _ _ _ _ _ _ _ _ _ _ _ _ _ _ _ _ _ _ _ hc _ _ hl w => lv_imul hc.1 hc.2.1 hd w) k
theorem x_iand {x y : Int32} (hd : decode (mCode M) pc = .ok (.iand, 1)) (k : mX M n0 c0 s0 (pc + 1) l (.int (x &&& y) :: st) σ ι o) : mX M n0 c0 s0 pc l (.int y :: .int x :: st) σ ι o :=
  mX.step (fun _ _ _ _ _ _ _ _ _ _ _ _ _ _ _ _ _ _ _ _ hc _ _ hl w => lv_iand hc.1 hc.2.1 hd w) k
theorem x_ladd {x y : Int64} (hd : decode (mCode M) pc = .ok (.ladd, 1)) (k : mX M n0 c0 s0 (pc + 1) l (.long (x + y) :: st) σ ι o) : mX M n0 c0 s0 pc l (.long y :: .long x :: st) σ ι o :=
  mX.step (fun _ _ _ _ _ _ _ _ _ _ _ _ _ _ _ _ _ _ _ _ hc _ _ hl w => lv_ladd hc.1 hc.2.1 hd w) k
theorem x_lsub {x y : Int64} (hd : decode (mCode M) pc = .ok (.lsub, 1)) (k : mX M n0 c0 s0 (pc + 1) l (.long (x - y) :: st) σ ι o) : mX M n0 c0 s0 pc l (.long y :: .long x :: st) σ ι o :=
  mX.step (fun _ _ _ _ _ _ _ _ _ _ _ _ _ _ _ _ _ _ _ _ hc _ _ hl w => lv_lsub hc.1 hc.2.1 hd w) k
theorem x_lmul {x y : Int64} (hd : decode (mCode M) pc = .ok (.lmul, 1)) (k : mX M n0 c0 s0 (pc + 1) l (.long (x * y) :: st) σ ι o) : mX M n0 c0 s0 pc l (.long y :: .long x :: st) σ ι o :=
  mX.step (fun _ _ _ _ _ _ _ _ _ _ _ _ _ _ _ _ _ _ _ _ hc _ _ hl w => lv_lmul hc.1 hc.2.1 hd w) k
theorem x_lshl {x : Int64} {y : Int32} (hd : decode (mCode M) pc = .ok (.lshl, 1)) (k : mX M n0 c0 s0 (pc + 1) l (.long (x <<< (y.toInt64 &&& 63)) :: st) σ ι o) : mX M n0 c0 s0 pc l (.int y :: .long x :: st) σ ι o :=
  mX.step (fun _ _ _ _ _ _ _ _ _ _ _ _ _ _ _ _ _ _ _ _ hc _ _ hl w => lv_lshl hc.1 hc.2.1 hd rfl w) k
theorem x_i2l {x : Int32} (hd : decode (mCode M) pc = .ok (.i2l, 1)) (k : mX M n0 c0 s0 (pc + 1) l (.long x.toInt64 :: st) σ ι o) : mX M n0 c0 s0 pc l (.int x :: st) σ ι o :=
  mX.step (fun _ _ _ _ _ _ _ _ _ _ _ _ _ _ _ _ _ _ _ _ hc _ _ hl w => lv_i2l hc.1 hc.2.1 hd rfl w) k
theorem x_i2d {x : Int32} (hd : decode (mCode M) pc = .ok (.i2d, 1)) (k : mX M n0 c0 s0 (pc + 1) l (.double (FP.i2d x) :: st) σ ι o) : mX M n0 c0 s0 pc l (.int x :: st) σ ι o :=
  mX.step (fun _ _ _ _ _ _ _ _ _ _ _ _ _ _ _ _ _ _ _ _ hc _ _ hl w => lv_i2d hc.1 hc.2.1 hd w) k
theorem x_d2l {x : UInt64} (hd : decode (mCode M) pc = .ok (.d2l, 1)) (k : mX M n0 c0 s0 (pc + 1) l (.long (FP.d2l x) :: st) σ ι o) : mX M n0 c0 s0 pc l (.double x :: st) σ ι o :=
  mX.step (fun _ _ _ _ _ _ _ _ _ _ _ _ _ _ _ _ _ _ _ _ hc _ _ hl w => lv_d2l hc.1 hc.2.1 hd w) k
theorem x_i2c {x : Int32} (hd : decode (mCode M) pc = .ok (.i2c, 1)) (k : mX M n0 c0 s0 (pc + 1) l (.int (x.toUInt32 % 65536).toInt32 :: st) σ ι o) : mX M n0 c0 s0 pc l (.int x :: st) σ ι o :=
  mX.step (fun _ _ _ _ _ _ _ _ _ _ _ _ _ _ _ _ _ _ _ _ hc _ _ hl w => lv_i2c hc.1 hc.2.1 hd rfl w) k
theorem x_lcmp {x y : Int64} (hd : decode (mCode M) pc = .ok (.lcmp, 1)) (k : mX M n0 c0 s0 (pc + 1) l (.int (lg_cmp x y) :: st) σ ι o) : mX M n0 c0 s0 pc l (.long y :: .long x :: st) σ ι o :=
  mX.step (fun _ _ _ _ _ _ _ _ _ _ _ _ _ _ _ _ _ _ _ _ hc _ _ hl w => W.lcmp hc.1 hc.2.1 hd w) k
theorem x_dcmp {x y : UInt64} {op : CmpOp} (hd : decode (mCode M) pc = .ok (.dcmp op, 1)) (k : mX M n0 c0 s0 (pc + 1) l (.int (Op.cmpValue (FP.dcmp x y) op) :: st) σ ι o) : mX M n0 c0 s0 pc l (.double y :: .double x :: st) σ ι o :=
  mX.step (fun _ _ _ _ _ _ _ _ _ _ _ _ _ _ _ _ _ _ _ _ hc _ _ hl w => lv_dcmp hc.1 hc.2.1 hd w) k
theorem x_dup {v : Value} (hd : decode (mCode M) pc = .ok (.dup, 1)) (hv : v.category = 1) (k : mX M n0 c0 s0 (pc + 1) l (v :: v :: st) σ ι o) : mX M n0 c0 s0 pc l (v :: st) σ ι o :=
  mX.step (fun _ _ _ _ _ _ _ _ _ _ _ _ _ _ _ _ _ _ _ ad hc _ _ hl w => lv_dup hc.1 hc.2.1 hd ((mv_cat ad v).trans hv) w) k
theorem x_dup2 {v w : Value} (hd : decode (mCode M) pc = .ok (.dup2, 1)) (hv : v.category = 1) (hw : w.category = 1) (k : mX M n0 c0 s0 (pc + 1) l (v :: w :: v :: w :: st) σ ι o) : mX M n0 c0 s0 pc l (v :: w :: st) σ ι o :=
  mX.step (fun _ _ _ _ _ _ _ _ _ _ _ _ _ _ _ _ _ _ _ ad hc _ _ hl z => lv_dup2_11 hc.1 hc.2.1 hd ((mv_cat ad v).trans hv) ((mv_cat ad w).trans hw) z) k
theorem x_pop {v : Value} (hd : decode (mCode M) pc = .ok (.pop, 1)) (hv : v.category = 1) (k : mX M n0 c0 s0 (pc + 1) l st σ ι o) : mX M n0 c0 s0 pc l (v :: st) σ ι o :=
  mX.step (fun _ _ _ _ _ _ _ _ _ _ _ _ _ _ _ _ _ _ _ ad hc _ _ hl w => lv_pop hc.1 hc.2.1 hd ((mv_cat ad v).trans hv) w) k
theorem x_goto {off : Int} {tgt : Nat} (hd : decode (mCode M) pc = .ok (.goto off, 3)) (ht : (pc : Int) + off = (tgt : Int)) (k : mX M n0 c0 s0 tgt l st σ ι o) : mX M n0 c0 s0 pc l st σ ι o :=
  mX.step (fun _ _ _ _ _ _ _ _ _ _ _ _ _ _ _ _ _ _ _ _ hc _ _ hl w => lv_goto hc.1 hc.2.1 hd ht w) k
theorem x_ifnull {x : Nat} {off : Int} (hd : decode (mCode M) pc = .ok (.ifnull off, 3)) (k : mX M n0 c0 s0 (pc + 3) l st σ ι o) : mX M n0 c0 s0 pc l (.ref x :: st) σ ι o :=
  mX.step (fun _ _ _ _ _ _ _ _ _ _ _ _ _ _ _ _ _ _ _ _ hc _ _ hl w => lv_ifnull hc.1 hc.2.1 hd w) k
theorem x_tableOut {dflt lo hi : Int} {offs : Array Int} {len : Nat} {x : Int32} {tgt : Nat} (hd : decode (mCode M) pc = .ok (.tableswitch dflt lo hi offs, len)) (h : x.toInt < lo ∨ hi < x.toInt) (ht : (pc : Int) + dflt = (tgt : Int)) (k : mX M n0 c0 s0 tgt l st σ ι o) : mX M n0 c0 s0 pc l (.int x :: st) σ ι o :=
  mX.step (fun _ _ _ _ _ _ _ _ _ _ _ _ _ _ _ _ _ _ _ _ hc _ _ hl w => lv_tableOut hc.1 hc.2.1 hd h ht w) k
theorem x_tableIn {dflt lo hi : Int} {offs : Array Int} {len : Nat} {x : Int32} {off : Int} {tgt : Nat} (hd : decode (mCode M) pc = .ok (.tableswitch dflt lo hi offs, len)) (h1 : ¬ x.toInt < lo) (h2 : ¬ hi < x.toInt) (ho : offs[(x.toInt - lo).toNat]? = some off) (ht : (pc : Int) + off = (tgt : Int)) (k : mX M n0 c0 s0 tgt l st σ ι o) : mX M n0 c0 s0 pc l (.int x :: st) σ ι o :=
  mX.step (fun _ _ _ _ _ _ _ _ _ _ _ _ _ _ _ _ _ _ _ _ hc _ _ hl w => lv_tableIn hc.1 hc.2.1 hd h1 h2 ho ht w) k
theorem x_lookup {dflt : Int} {ps : Array (Int × Int)} {len : Nat} {x : Int32} {off : Int} {tgt : Nat} (hd : decode (mCode M) pc = .ok (.lookupswitch dflt ps, len)) (hp : (ps.toList.zip (ps.toList.drop 1)).all (fun (a, next) => a.1 < next.1) = true) (ho : Op.lookupswitch.offset ps.toList dflt x.toInt = off) (ht : (pc : Int) + off = (tgt : Int)) (k : mX M n0 c0 s0 tgt l st σ ι o) : mX M n0 c0 s0 pc l (.int x :: st) σ ι o :=
  mX.step (fun _ _ _ _ _ _ _ _ _ _ _ _ _ _ _ _ _ _ _ _ hc _ _ hl w => lv_lookup hc.1 hc.2.1 hd hp ho ht w) k
/-- a row that writes a place of the locals -/
theorem mX.stepL {pc' : Nat} {st' : List Value} {l' : List (Option Value)} (h : ∀ (p : Program) (lch : Launch) (e : Env) (R : Room) (s : State) (m : MethodId) (args : Array Value) (below : List Frame) (meth : Method) (c : Code) (A : Nat → Prop) (D : va_G) (ca : Nat → ClassId) (Q : State → Prop) (H : Heap) (locs : List Loc) (cells slots : Nat) (ls : Array Slot) (ad : Nat → Nat), mCx M p lch e R s m args below meth c A D ca → mH ls (mMaxL M) ad l → (∀ ls', mH ls' (mMaxL M) ad l' → W p lch e R s m args below meth c H locs cells slots Q (F0 m pc' ls' (st'.map (mv ad)))) → W p lch e R s m args below meth c H locs cells slots Q (F0 m pc ls (st.map (mv ad))))
    (k : mX M n0 c0 s0 pc' l' st' σ ι o) : mX M n0 c0 s0 pc l st σ ι o := by
  intro a ha
  obtain ⟨h1, h2⟩ := k a ha
  refine ⟨h1, ?_⟩
  intro p lch e R s m args below meth c A D ca Q ad0 hc ht hr1 hr2 he ad H locs ls hf
  exact h p lch e R s m args below meth c A D ca Q H locs _ _ ls ad hc hf.2.2.2.1 (fun ls' hl' => h2 p lch e R s m args below meth c A D ca Q ad0 hc ht hr1 hr2 he ad H locs ls' ⟨hf.1, hf.2.1, hf.2.2.1, hl', hf.2.2.2.2⟩)
theorem x_istore_n {q : Fin 4} {i : Nat} {x : Int32} {l' : List (Option Value)} (hd : decode (mCode M) pc = .ok (.istore_n q, 1)) (hi : (q : Nat) = i) (hn : i < mMaxL M) (hl : ml1 l i (.int x) = l') (k : mX M n0 c0 s0 (pc + 1) l' st σ ι o) : mX M n0 c0 s0 pc l (.int x :: st) σ ι o :=
  mX.stepL (fun _ _ _ _ _ _ _ _ _ _ _ _ _ _ _ _ _ _ _ ad hc h w => lv_istore_n hc.1 hc.2.1 hd hi (mH_has h) hn rfl (fun ls' h' => w ls' (hl ▸ mH_st1 (v := .int x) h'))) k
theorem x_istore {i : Nat} {x : Int32} {l' : List (Option Value)} (hd : decode (mCode M) pc = .ok (.istore i, 2)) (hn : i < mMaxL M) (hl : ml1 l i (.int x) = l') (k : mX M n0 c0 s0 (pc + 2) l' st σ ι o) : mX M n0 c0 s0 pc l (.int x :: st) σ ι o :=
  mX.stepL (fun _ _ _ _ _ _ _ _ _ _ _ _ _ _ _ _ _ _ _ ad hc h w => lv_istore hc.1 hc.2.1 hd (mH_has h) hn rfl (fun ls' h' => w ls' (hl ▸ mH_st1 (v := .int x) h'))) k
theorem x_astore_n {q : Fin 4} {i : Nat} {x : Nat} {l' : List (Option Value)} (hd : decode (mCode M) pc = .ok (.astore_n q, 1)) (hi : (q : Nat) = i) (hn : i < mMaxL M) (hl : ml1 l i (.ref x) = l') (k : mX M n0 c0 s0 (pc + 1) l' st σ ι o) : mX M n0 c0 s0 pc l (.ref x :: st) σ ι o :=
  mX.stepL (fun _ _ _ _ _ _ _ _ _ _ _ _ _ _ _ _ _ _ _ ad hc h w => lv_astore_n hc.1 hc.2.1 hd hi (mH_has h) hn rfl (fun ls' h' => w ls' (hl ▸ mH_st1 (v := .ref x) h'))) k
theorem x_astore {i : Nat} {x : Nat} {l' : List (Option Value)} (hd : decode (mCode M) pc = .ok (.astore i, 2)) (hn : i < mMaxL M) (hl : ml1 l i (.ref x) = l') (k : mX M n0 c0 s0 (pc + 2) l' st σ ι o) : mX M n0 c0 s0 pc l (.ref x :: st) σ ι o :=
  mX.stepL (fun _ _ _ _ _ _ _ _ _ _ _ _ _ _ _ _ _ _ _ ad hc h w => lv_astore hc.1 hc.2.1 hd (mH_has h) hn rfl (fun ls' h' => w ls' (hl ▸ mH_st1 (v := .ref x) h'))) k
theorem x_lstore_n {q : Fin 4} {i : Nat} {x : Int64} {l' : List (Option Value)} (hd : decode (mCode M) pc = .ok (.lstore_n q, 1)) (hi : (q : Nat) = i) (hn : i + 1 < mMaxL M) (hl : ml2 l i (.long x) = l') (k : mX M n0 c0 s0 (pc + 1) l' st σ ι o) : mX M n0 c0 s0 pc l (.long x :: st) σ ι o :=
  mX.stepL (fun _ _ _ _ _ _ _ _ _ _ _ _ _ _ _ _ _ _ _ ad hc h w => lv_lstore_n hc.1 hc.2.1 hd hi (mH_has h) hn rfl (fun ls' h' => w ls' (hl ▸ mH_st2 (v := .long x) h'))) k
theorem x_lstore {i : Nat} {x : Int64} {l' : List (Option Value)} (hd : decode (mCode M) pc = .ok (.lstore i, 2)) (hn : i + 1 < mMaxL M) (hl : ml2 l i (.long x) = l') (k : mX M n0 c0 s0 (pc + 2) l' st σ ι o) : mX M n0 c0 s0 pc l (.long x :: st) σ ι o :=
  mX.stepL (fun _ _ _ _ _ _ _ _ _ _ _ _ _ _ _ _ _ _ _ ad hc h w => lv_lstore hc.1 hc.2.1 hd (mH_has h) hn rfl (fun ls' h' => w ls' (hl ▸ mH_st2 (v := .long x) h'))) k
theorem x_dstore_n {q : Fin 4} {i : Nat} {x : UInt64} {l' : List (Option Value)} (hd : decode (mCode M) pc = .ok (.dstore_n q, 1)) (hi : (q : Nat) = i) (hn : i + 1 < mMaxL M) (hl : ml2 l i (.double x) = l') (k : mX M n0 c0 s0 (pc + 1) l' st σ ι o) : mX M n0 c0 s0 pc l (.double x :: st) σ ι o :=
  mX.stepL (fun _ _ _ _ _ _ _ _ _ _ _ _ _ _ _ _ _ _ _ ad hc h w => lv_dstore_n hc.1 hc.2.1 hd hi (mH_has h) hn rfl (fun ls' h' => w ls' (hl ▸ mH_st2 (v := .double x) h'))) k
theorem x_dstore {i : Nat} {x : UInt64} {l' : List (Option Value)} (hd : decode (mCode M) pc = .ok (.dstore i, 2)) (hn : i + 1 < mMaxL M) (hl : ml2 l i (.double x) = l') (k : mX M n0 c0 s0 (pc + 2) l' st σ ι o) : mX M n0 c0 s0 pc l (.double x :: st) σ ι o :=
  mX.stepL (fun _ _ _ _ _ _ _ _ _ _ _ _ _ _ _ _ _ _ _ ad hc h w => lv_dstore hc.1 hc.2.1 hd (mH_has h) hn rfl (fun ls' h' => w ls' (hl ▸ mH_st2 (v := .double x) h'))) k
theorem mH_pr {ls : Array Slot} {nL : Nat} {ad : Nat → Nat} {l : List (Option Value)} {i : Nat} {v : Value} (h : l[i]? = some (some v)) : ∃ j : Nat, (mPr ad l)[j]? = some (i, mv ad v) := List.mem_iff_getElem?.mp (mPr_mem.mpr ⟨v, h, rfl⟩)
theorem x_iinc {i : Nat} {n : Int} {x v : Int32} {l' : List (Option Value)} (hd : decode (mCode M) pc = .ok (.iinc i n, 3)) (hx : l[i]? = some (some (.int x))) (hv : x + Int32.ofInt n = v) (hn : i < mMaxL M) (hl : ml1 l i (.int v) = l') (k : mX M n0 c0 s0 (pc + 3) l' st σ ι o) : mX M n0 c0 s0 pc l st σ ι o :=
  mX.stepL (fun _ _ _ _ _ _ _ _ _ _ _ _ _ _ _ _ _ _ ls ad hc h w => by
    obtain ⟨j, hj⟩ := mH_pr (ls := ls) (nL := mMaxL M) (ad := ad) hx
    exact lv_iinc hc.1 hc.2.1 hd (mH_has h) hj hv hn rfl (fun ls' h' => w ls' (hl ▸ mH_st1 (v := .int v) h'))) k
end MROWS
end
section
/-! branches, fields, arrays of the numbered machine -/
def gI (S : mSh) (μ : mMm) (o c k : Nat) : Option Int32 := if mok S o c = true then some (μ.1 o k) else none
def gL (S : mSh) (μ : mMm) (o c k : Nat) : Option Int64 := if mok S o c = true then some (μ.2 o k) else none
def gR (S : mSh) (o c k : Nat) : Option Nat := if mok S o c = true then mRf S o k else none
def pI (S : mSh) (μ : mMm) (o c k : Nat) (v : Int32) : Option mMm := if mok S o c = true then some (u2 μ.1 o k v, μ.2) else none
def pL (S : mSh) (μ : mMm) (o c k : Nat) (v : Int64) : Option mMm := if mok S o c = true then some (μ.1, u2 μ.2 o k v) else none
def mIn (i : Int32) (n : Nat) : Bool := decide (0 ≤ i) && decide (i.toNatClampNeg < n)
theorem mIn_in {i : Int32} {n : Nat} (h : mIn i n = true) : vp_in i n := by
  simp only [mIn, Bool.and_eq_true, decide_eq_true_eq] at h
  intro hh
  rcases hh with hh | hh
  · have h1 := h.1
    rw [Int32.le_iff_toInt_le] at h1
    rw [Int32.lt_iff_toInt_lt] at hh
    omega
  · omega
def ldI (S : mSh) (μ : mMm) (a : Nat) (i : Int32) : Option Int32 := if mok S a 12 = true ∧ mIn i (mLn S a) = true then some (μ.1 a i.toNatClampNeg) else none
def stI (S : mSh) (μ : mMm) (a : Nat) (i v : Int32) : Option mMm := if mok S a 12 = true ∧ mIn i (mLn S a) = true then some (u2 μ.1 a i.toNatClampNeg v, μ.2) else none
def ldR (S : mSh) (a : Nat) (i : Int32) : Option Nat := if mok S a 15 = true ∧ mIn i (mLn S a) = true then mRf S a i.toNatClampNeg else none
def aL (S : mSh) (a c : Nat) : Option Int32 := if mok S a c = true then some (Int32.ofNat (mLn S a)) else none
/-- what is the same for all fields of a kind of objects -/
def mFC (c : Nat) (C : String) (T : u_T) (N : Nat) (ty : Nat → FieldType) : Prop := vwCl[c]? = some (C, T, N) ∧ (∀ w ∈ u_ws C T N, w ∈ wsL_law) ∧ (mFt c).length = N ∧ c < 12 ∧ (∀ k, k < N → parseFieldDescriptor (T k).2.2.1 = some (ty k)) ∧ (∀ a, a < N → ∀ b, b < N → a ≠ b → (T a).2.1 ≠ (T b).2.1)
theorem fcX0 : mFC 0 RX0 TX0 3 tyX0 := ⟨rfl, inlX0, rfl, by decide, tyX0_ok, nmX0⟩
theorem fcX1 : mFC 1 RX1 TX1 3 tyX1 := ⟨rfl, inlX1, rfl, by decide, tyX1_ok, nmX1⟩
theorem fcX2 : mFC 2 RX2 TX2 2 tyX2 := ⟨rfl, inlX2, rfl, by decide, tyX2_ok, nmX2⟩
theorem fcX3 : mFC 3 RX3 TX3 3 tyX3 := ⟨rfl, inlX3, rfl, by decide, tyX3_ok, nmX3⟩
theorem fcX4 : mFC 4 RX4 TX4 2 tyX4 := ⟨rfl, inlX4, rfl, by decide, tyX4_ok, nmX4⟩
theorem fcX5 : mFC 5 RX5 TX5 3 tyX5 := ⟨rfl, inlX5, rfl, by decide, tyX5_ok, nmX5⟩
theorem fcX6 : mFC 6 RX6 TX6 5 tyX6 := ⟨rfl, inlX6, rfl, by decide, tyX6_ok, nmX6⟩
theorem fcX7 : mFC 7 RX7 TX7 5 tyX7 := ⟨rfl, inlX7, rfl, by decide, tyX7_ok, nmX7⟩
theorem fcX8 : mFC 8 RX8 TX8 3 tyX8 := ⟨rfl, inlX8, rfl, by decide, tyX8_ok, nmX8⟩
theorem fcX9 : mFC 9 RX9 TX9 2 tyX9 := ⟨rfl, inlX9, rfl, by decide, tyX9_ok, nmX9⟩
theorem fcX10 : mFC 10 RX10 TX10 9 tyX10 := ⟨rfl, inlX10, rfl, by decide, tyX10_ok, nmX10⟩
section MROWS3
variable {M : mM} {n0 c0 s0 : Nat} {pc : Nat} {l : List (Option Value)} {st : List Value} {S : mSh} {μ : mMm} {cx cy : Nat} {α : Type} {ι : α → mO × mSt} {o : Option α}
/-- a row with two ways on -/
theorem mX.br {pc1 pc2 : Nat} {st1 : List Value} {P : Prop} [dP : Decidable P] {σ : mSt} {o1 o2 : Option α} (h : ∀ (p : Program) (lch : Launch) (e : Env) (R : Room) (s : State) (m : MethodId) (args : Array Value) (below : List Frame) (meth : Method) (c : Code) (A : Nat → Prop) (D : va_G) (ca : Nat → ClassId) (Q : State → Prop) (H : Heap) (locs : List Loc) (cells slots : Nat) (ls : Array Slot) (ad : Nat → Nat), mCx M p lch e R s m args below meth c A D ca → (P → W p lch e R s m args below meth c H locs cells slots Q (F0 m pc1 ls (st1.map (mv ad)))) → (¬ P → W p lch e R s m args below meth c H locs cells slots Q (F0 m pc2 ls (st1.map (mv ad)))) → W p lch e R s m args below meth c H locs cells slots Q (F0 m pc ls (st.map (mv ad))))
    (k1 : mX M n0 c0 s0 pc1 l st1 σ ι o1) (k2 : mX M n0 c0 s0 pc2 l st1 σ ι o2) : mX M n0 c0 s0 pc l st σ ι (if P then o1 else o2) := by
  intro a ha
  by_cases hp : P
  · rw [if_pos hp] at ha
    obtain ⟨h1, h2⟩ := k1 a ha
    refine ⟨h1, ?_⟩
    intro p lch e R s m args below meth c A D ca Q ad0 hc ht hr1 hr2 he ad H locs ls hf
    exact h p lch e R s m args below meth c A D ca Q H locs _ _ ls ad hc (fun _ => h2 p lch e R s m args below meth c A D ca Q ad0 hc ht hr1 hr2 he ad H locs ls hf) (fun z => absurd hp z)
  · rw [if_neg hp] at ha
    obtain ⟨h1, h2⟩ := k2 a ha
    refine ⟨h1, ?_⟩
    intro p lch e R s m args below meth c A D ca Q ad0 hc ht hr1 hr2 he ad H locs ls hf
    exact h p lch e R s m args below meth c A D ca Q H locs _ _ ls ad hc (fun z => absurd z hp) (fun _ => h2 p lch e R s m args below meth c A D ca Q ad0 hc ht hr1 hr2 he ad H locs ls hf)
variable {σ : mSt} {o1 o2 : Option α}
theorem x_if_eq {x : Int32} {off : Int} {tgt : Nat} (hd : decode (mCode M) pc = .ok (.ifCond .eq off, 3)) (ht : (pc : Int) + off = (tgt : Int)) (k1 : mX M n0 c0 s0 tgt l st σ ι o1) (k2 : mX M n0 c0 s0 (pc + 3) l st σ ι o2) : mX M n0 c0 s0 pc l (.int x :: st) σ ι (if x = 0 then o1 else o2) :=
  mX.br (fun _ _ _ _ _ _ _ _ _ _ _ _ _ _ _ _ _ _ _ _ hc w1 w2 => lv_if_eq hc.1 hc.2.1 hd ht w1 w2) k1 k2
theorem x_if_ne {x : Int32} {off : Int} {tgt : Nat} (hd : decode (mCode M) pc = .ok (.ifCond .ne off, 3)) (ht : (pc : Int) + off = (tgt : Int)) (k1 : mX M n0 c0 s0 (pc + 3) l st σ ι o1) (k2 : mX M n0 c0 s0 tgt l st σ ι o2) : mX M n0 c0 s0 pc l (.int x :: st) σ ι (if x = 0 then o1 else o2) :=
  mX.br (fun _ _ _ _ _ _ _ _ _ _ _ _ _ _ _ _ _ _ _ _ hc w1 w2 => lv_if_ne hc.1 hc.2.1 hd ht w2 w1) k1 k2
theorem x_if_lt {x : Int32} {off : Int} {tgt : Nat} (hd : decode (mCode M) pc = .ok (.ifCond .lt off, 3)) (ht : (pc : Int) + off = (tgt : Int)) (k1 : mX M n0 c0 s0 tgt l st σ ι o1) (k2 : mX M n0 c0 s0 (pc + 3) l st σ ι o2) : mX M n0 c0 s0 pc l (.int x :: st) σ ι (if x < 0 then o1 else o2) :=
  mX.br (fun _ _ _ _ _ _ _ _ _ _ _ _ _ _ _ _ _ _ _ _ hc w1 w2 => lv_if_lt hc.1 hc.2.1 hd ht w1 w2) k1 k2
theorem x_if_ge {x : Int32} {off : Int} {tgt : Nat} (hd : decode (mCode M) pc = .ok (.ifCond .ge off, 3)) (ht : (pc : Int) + off = (tgt : Int)) (k1 : mX M n0 c0 s0 tgt l st σ ι o1) (k2 : mX M n0 c0 s0 (pc + 3) l st σ ι o2) : mX M n0 c0 s0 pc l (.int x :: st) σ ι (if 0 ≤ x then o1 else o2) :=
  mX.br (fun _ _ _ _ _ _ _ _ _ _ _ _ _ _ _ _ _ _ _ _ hc w1 w2 => lv_if_ge hc.1 hc.2.1 hd ht w1 w2) k1 k2
theorem x_if_gt {x : Int32} {off : Int} {tgt : Nat} (hd : decode (mCode M) pc = .ok (.ifCond .gt off, 3)) (ht : (pc : Int) + off = (tgt : Int)) (k1 : mX M n0 c0 s0 tgt l st σ ι o1) (k2 : mX M n0 c0 s0 (pc + 3) l st σ ι o2) : mX M n0 c0 s0 pc l (.int x :: st) σ ι (if 0 < x then o1 else o2) :=
  mX.br (fun _ _ _ _ _ _ _ _ _ _ _ _ _ _ _ _ _ _ _ _ hc w1 w2 => lv_if_gt hc.1 hc.2.1 hd ht w1 w2) k1 k2
theorem x_if_le {x : Int32} {off : Int} {tgt : Nat} (hd : decode (mCode M) pc = .ok (.ifCond .le off, 3)) (ht : (pc : Int) + off = (tgt : Int)) (k1 : mX M n0 c0 s0 tgt l st σ ι o1) (k2 : mX M n0 c0 s0 (pc + 3) l st σ ι o2) : mX M n0 c0 s0 pc l (.int x :: st) σ ι (if x ≤ 0 then o1 else o2) :=
  mX.br (fun _ _ _ _ _ _ _ _ _ _ _ _ _ _ _ _ _ _ _ _ hc w1 w2 => lv_if_le hc.1 hc.2.1 hd ht w1 w2) k1 k2
theorem x_icmp_eq {x y : Int32} {off : Int} {tgt : Nat} (hd : decode (mCode M) pc = .ok (.if_icmp .eq off, 3)) (ht : (pc : Int) + off = (tgt : Int)) (k1 : mX M n0 c0 s0 tgt l st σ ι o1) (k2 : mX M n0 c0 s0 (pc + 3) l st σ ι o2) : mX M n0 c0 s0 pc l (.int y :: .int x :: st) σ ι (if x = y then o1 else o2) :=
  mX.br (fun _ _ _ _ _ _ _ _ _ _ _ _ _ _ _ _ _ _ _ _ hc w1 w2 => lv_icmp_eq hc.1 hc.2.1 hd ht w1 w2) k1 k2
theorem x_icmp_ne {x y : Int32} {off : Int} {tgt : Nat} (hd : decode (mCode M) pc = .ok (.if_icmp .ne off, 3)) (ht : (pc : Int) + off = (tgt : Int)) (k1 : mX M n0 c0 s0 (pc + 3) l st σ ι o1) (k2 : mX M n0 c0 s0 tgt l st σ ι o2) : mX M n0 c0 s0 pc l (.int y :: .int x :: st) σ ι (if x = y then o1 else o2) :=
  mX.br (fun _ _ _ _ _ _ _ _ _ _ _ _ _ _ _ _ _ _ _ _ hc w1 w2 => lv_icmp_ne hc.1 hc.2.1 hd ht w2 w1) k1 k2
theorem x_icmp_lt {x y : Int32} {off : Int} {tgt : Nat} (hd : decode (mCode M) pc = .ok (.if_icmp .lt off, 3)) (ht : (pc : Int) + off = (tgt : Int)) (k1 : mX M n0 c0 s0 tgt l st σ ι o1) (k2 : mX M n0 c0 s0 (pc + 3) l st σ ι o2) : mX M n0 c0 s0 pc l (.int y :: .int x :: st) σ ι (if x < y then o1 else o2) :=
  mX.br (fun _ _ _ _ _ _ _ _ _ _ _ _ _ _ _ _ _ _ _ _ hc w1 w2 => lv_icmp_lt hc.1 hc.2.1 hd ht w1 w2) k1 k2
theorem x_icmp_ge {x y : Int32} {off : Int} {tgt : Nat} (hd : decode (mCode M) pc = .ok (.if_icmp .ge off, 3)) (ht : (pc : Int) + off = (tgt : Int)) (k1 : mX M n0 c0 s0 tgt l st σ ι o1) (k2 : mX M n0 c0 s0 (pc + 3) l st σ ι o2) : mX M n0 c0 s0 pc l (.int y :: .int x :: st) σ ι (if y ≤ x then o1 else o2) :=
  mX.br (fun _ _ _ _ _ _ _ _ _ _ _ _ _ _ _ _ _ _ _ _ hc w1 w2 => lv_icmp_ge hc.1 hc.2.1 hd ht w1 w2) k1 k2
theorem x_icmp_gt {x y : Int32} {off : Int} {tgt : Nat} (hd : decode (mCode M) pc = .ok (.if_icmp .gt off, 3)) (ht : (pc : Int) + off = (tgt : Int)) (k1 : mX M n0 c0 s0 tgt l st σ ι o1) (k2 : mX M n0 c0 s0 (pc + 3) l st σ ι o2) : mX M n0 c0 s0 pc l (.int y :: .int x :: st) σ ι (if y < x then o1 else o2) :=
  mX.br (fun _ _ _ _ _ _ _ _ _ _ _ _ _ _ _ _ _ _ _ _ hc w1 w2 => lv_icmp_gt hc.1 hc.2.1 hd ht w1 w2) k1 k2
theorem x_icmp_le {x y : Int32} {off : Int} {tgt : Nat} (hd : decode (mCode M) pc = .ok (.if_icmp .le off, 3)) (ht : (pc : Int) + off = (tgt : Int)) (k1 : mX M n0 c0 s0 tgt l st σ ι o1) (k2 : mX M n0 c0 s0 (pc + 3) l st σ ι o2) : mX M n0 c0 s0 pc l (.int y :: .int x :: st) σ ι (if x ≤ y then o1 else o2) :=
  mX.br (fun _ _ _ _ _ _ _ _ _ _ _ _ _ _ _ _ _ _ _ _ hc w1 w2 => lv_icmp_le hc.1 hc.2.1 hd ht w1 w2) k1 k2
/-- a row that reads the world -/
theorem mX.rd {β : Type} {pc' : Nat} {st' : β → List Value} {g : Option β} {kk : β → Option α} (h : ∀ (b : β), g = some b → ∀ (p : Program) (lch : Launch) (e : Env) (R : Room) (s : State) (m : MethodId) (args : Array Value) (below : List Frame) (meth : Method) (c : Code) (A : Nat → Prop) (D : va_G) (ca : Nat → ClassId) (Q : State → Prop) (H : Heap) (locs : List Loc) (cells slots : Nat) (ls : Array Slot) (ad : Nat → Nat), mCx M p lch e R s m args below meth c A D ca → va_P D vwCl (mW ad ca S μ) H → W p lch e R s m args below meth c H locs cells slots Q (F0 m pc' ls ((st' b).map (mv ad))) → W p lch e R s m args below meth c H locs cells slots Q (F0 m pc ls (st.map (mv ad))))
    (k : ∀ b, mX M n0 c0 s0 pc' l (st' b) (S, μ, cx, cy) ι (kk b)) : mX M n0 c0 s0 pc l st (S, μ, cx, cy) ι (g.bind kk) := by
  intro a ha
  obtain ⟨b, hb, hk⟩ := Option.bind_eq_some_iff.mp ha
  obtain ⟨h1, h2⟩ := k b a hk
  refine ⟨h1, ?_⟩
  intro p lch e R s m args below meth c A D ca Q ad0 hc ht hr1 hr2 he ad H locs ls hf
  exact h b hb p lch e R s m args below meth c A D ca Q H locs _ _ ls ad hc hf.1 (h2 p lch e R s m args below meth c A D ca Q ad0 hc ht hr1 hr2 he ad H locs ls hf)
theorem x_gI {c k q index : Nat} {C : String} {T : u_T} {N : Nat} {ty : Nat → FieldType} {kk : Int32 → Option α} (fc : mFC c C T N ty) (hd : decode (mCode M) pc = .ok (.getfield index, 3)) (hw : Cond.fieldLink (mOwn M) index (T k).1 (T k).2.1 (T k).2.2.1 ∈ wsL_law) (hk : k < N) (hg : (mFt c).getD k 0 = 0)
    (kn : ∀ v, mX M n0 c0 s0 (pc + 3) l (.int v :: st) (S, μ, cx, cy) ι (kk v)) : mX M n0 c0 s0 pc l (.ref q :: st) (S, μ, cx, cy) ι ((gI S μ q c k).bind kk) := by
  refine mX.rd (st' := fun v => .int v :: st) (fun v hv => ?_) kn
  unfold gI at hv
  by_cases hm : mok S q c = true
  · rw [if_pos hm] at hv
    cases hv
    intro p lch e R s m args below meth cd A D ca Q H locs cells slots ls ad hc hP w
    have hg2 := mW_get ad ca S μ (mok_n hm)
    rw [mE_obj (mok_k hm) fc.2.2.2.1] at hg2
    have hv := mFs_get (ad := ad) (S := S) (μ := μ) (mok_k hm) (show k < (mFt c).length by rw [fc.2.2.1]; exact hk)
    rw [hg] at hv
    exact va_get hc.1 hc.2.1 hc.2.2.2.2.1 fc.2.1 hc.2.2.2.1 hc.2.2.2.2.2.2.1 hP q hg2 fc.1 k hk (hc.2.2.2.2.1 _ hw) (fun _ h9 => h9) hv hd w
  · rw [if_neg hm] at hv
    cases hv
theorem x_gL {c k q index : Nat} {C : String} {T : u_T} {N : Nat} {ty : Nat → FieldType} {kk : Int64 → Option α} (fc : mFC c C T N ty) (hd : decode (mCode M) pc = .ok (.getfield index, 3)) (hw : Cond.fieldLink (mOwn M) index (T k).1 (T k).2.1 (T k).2.2.1 ∈ wsL_law) (hk : k < N) (hg : (mFt c).getD k 0 = 1)
    (kn : ∀ v, mX M n0 c0 s0 (pc + 3) l (.long v :: st) (S, μ, cx, cy) ι (kk v)) : mX M n0 c0 s0 pc l (.ref q :: st) (S, μ, cx, cy) ι ((gL S μ q c k).bind kk) := by
  refine mX.rd (st' := fun v => .long v :: st) (fun v hv => ?_) kn
  unfold gL at hv
  by_cases hm : mok S q c = true
  · rw [if_pos hm] at hv
    cases hv
    intro p lch e R s m args below meth cd A D ca Q H locs cells slots ls ad hc hP w
    have hg2 := mW_get ad ca S μ (mok_n hm)
    rw [mE_obj (mok_k hm) fc.2.2.2.1] at hg2
    have hv := mFs_get (ad := ad) (S := S) (μ := μ) (mok_k hm) (show k < (mFt c).length by rw [fc.2.2.1]; exact hk)
    rw [hg] at hv
    exact va_get hc.1 hc.2.1 hc.2.2.2.2.1 fc.2.1 hc.2.2.2.1 hc.2.2.2.2.2.2.1 hP q hg2 fc.1 k hk (hc.2.2.2.2.1 _ hw) (fun _ h9 => h9) hv hd w
  · rw [if_neg hm] at hv
    cases hv
theorem x_gR {c k q index : Nat} {C : String} {T : u_T} {N : Nat} {ty : Nat → FieldType} {kk : Nat → Option α} (fc : mFC c C T N ty) (hd : decode (mCode M) pc = .ok (.getfield index, 3)) (hw : Cond.fieldLink (mOwn M) index (T k).1 (T k).2.1 (T k).2.2.1 ∈ wsL_law) (hk : k < N) (hg : (mFt c).getD k 0 = 2)
    (kn : ∀ v, mX M n0 c0 s0 (pc + 3) l (.ref v :: st) (S, μ, cx, cy) ι (kk v)) : mX M n0 c0 s0 pc l (.ref q :: st) (S, μ, cx, cy) ι ((gR S q c k).bind kk) := by
  refine mX.rd (st' := fun v => .ref v :: st) (fun v hv => ?_) kn
  unfold gR at hv
  by_cases hm : mok S q c = true
  · rw [if_pos hm] at hv
    intro p lch e R s m args below meth cd A D ca Q H locs cells slots ls ad hc hP w
    have hg2 := mW_get ad ca S μ (mok_n hm)
    rw [mE_obj (mok_k hm) fc.2.2.2.1] at hg2
    have hz := mFs_get (ad := ad) (S := S) (μ := μ) (mok_k hm) (show k < (mFt c).length by rw [fc.2.2.1]; exact hk)
    rw [hg] at hz
    have he : mVal ad S μ 2 q k = .ref (ad v) := by simp [mVal, hv, va_rf]
    rw [he] at hz
    exact va_get hc.1 hc.2.1 hc.2.2.2.2.1 fc.2.1 hc.2.2.2.1 hc.2.2.2.2.2.2.1 hP q hg2 fc.1 k hk (hc.2.2.2.2.1 _ hw) (fun _ h9 => h9) hz hd w
  · rw [if_neg hm] at hv
    cases hv
theorem x_ldI {q : Nat} {i : Int32} {kk : Int32 → Option α} (hd : decode (mCode M) pc = .ok (.iaload, 1)) (kn : ∀ v, mX M n0 c0 s0 (pc + 1) l (.int v :: st) (S, μ, cx, cy) ι (kk v)) : mX M n0 c0 s0 pc l (.int i :: .ref q :: st) (S, μ, cx, cy) ι ((ldI S μ q i).bind kk) := by
  refine mX.rd (st' := fun v => .int v :: st) (fun v hv => ?_) kn
  unfold ldI at hv
  by_cases hm : mok S q 12 = true ∧ mIn i (mLn S q) = true
  · rw [if_pos hm] at hv
    cases hv
    intro p lch e R s m args below meth cd A D ca Q H locs cells slots ls ad hc hP w
    have hg2 := mW_get ad ca S μ (mok_n hm.1)
    rw [mE_12 (mok_k hm.1)] at hg2
    exact va_iald hc.1 hc.2.1 hc.2.2.2.2.2.2.1 hP q 0 hg2 rfl (mIn_in hm.2) hd w
  · rw [if_neg hm] at hv
    cases hv
theorem x_ldR {q : Nat} {i : Int32} {kk : Nat → Option α} (hd : decode (mCode M) pc = .ok (.aaload, 1)) (kn : ∀ v, mX M n0 c0 s0 (pc + 1) l (.ref v :: st) (S, μ, cx, cy) ι (kk v)) : mX M n0 c0 s0 pc l (.int i :: .ref q :: st) (S, μ, cx, cy) ι ((ldR S q i).bind kk) := by
  refine mX.rd (st' := fun v => .ref v :: st) (fun v hv => ?_) kn
  unfold ldR at hv
  by_cases hm : mok S q 15 = true ∧ mIn i (mLn S q) = true
  · rw [if_pos hm] at hv
    intro p lch e R s m args below meth cd A D ca Q H locs cells slots ls ad hc hP w
    have hg2 := mW_get ad ca S μ (mok_n hm.1)
    rw [mE_15 (mok_k hm.1)] at hg2
    refine va_aldq (C := RX7) hc.1 hc.2.1 hc.2.2.2.2.2.2.1 hP q 1 hg2 rfl (mIn_in hm.2) hd ?_
    rw [hv]
    exact w
  · rw [if_neg hm] at hv
    cases hv
theorem x_aL {q : Nat} {kk : Int32 → Option α} (hd : decode (mCode M) pc = .ok (.arraylength, 1)) (kn : ∀ v, mX M n0 c0 s0 (pc + 1) l (.int v :: st) (S, μ, cx, cy) ι (kk v)) : mX M n0 c0 s0 pc l (.ref q :: st) (S, μ, cx, cy) ι ((aL S q 12).bind kk) := by
  refine mX.rd (st' := fun v => .int v :: st) (fun v hv => ?_) kn
  unfold aL at hv
  by_cases hm : mok S q 12 = true
  · rw [if_pos hm] at hv
    cases hv
    intro p lch e R s m args below meth cd A D ca Q H locs cells slots ls ad hc hP w
    have hg2 := mW_get ad ca S μ (mok_n hm)
    rw [mE_12 (mok_k hm)] at hg2
    exact va_alen hc.1 hc.2.1 hc.2.2.2.2.2.2.1 hP q 0 hg2 (ty := .int) rfl rfl hd w
  · rw [if_neg hm] at hv
    cases hv
theorem x_aLR {q : Nat} {kk : Int32 → Option α} (hd : decode (mCode M) pc = .ok (.arraylength, 1)) (kn : ∀ v, mX M n0 c0 s0 (pc + 1) l (.int v :: st) (S, μ, cx, cy) ι (kk v)) : mX M n0 c0 s0 pc l (.ref q :: st) (S, μ, cx, cy) ι ((aL S q 15).bind kk) := by
  refine mX.rd (st' := fun v => .int v :: st) (fun v hv => ?_) kn
  unfold aL at hv
  by_cases hm : mok S q 15 = true
  · rw [if_pos hm] at hv
    cases hv
    intro p lch e R s m args below meth cd A D ca Q H locs cells slots ls ad hc hP w
    have hg2 := mW_get ad ca S μ (mok_n hm)
    rw [mE_15 (mok_k hm)] at hg2
    exact va_alen hc.1 hc.2.1 hc.2.2.2.2.2.2.1 hP q 1 hg2 (ty := .object RX7) rfl rfl hd w
  · rw [if_neg hm] at hv
    cases hv
/-- a row that checks a number -/
theorem mX.ck {P : Prop} [dP : Decidable P] {σ : mSt} (h : P → mX M n0 c0 s0 pc l st σ ι o) : mX M n0 c0 s0 pc l st σ ι (if P then o else none) := by
  intro a ha
  by_cases hp : P
  · rw [if_pos hp] at ha
    exact h hp a ha
  · rw [if_neg hp] at ha
    cases ha
/-- a double that is a number -/
def vfn (r : UInt64) : Bool := decide (r &&& 0x7fffffffffffffff ≤ 0x7ff0000000000000)
theorem vfn_n {r : UInt64} (h : vfn r = true) : vf_n64 r := by
  simp only [vfn, decide_eq_true_eq] at h
  exact h
theorem x_ddiv {x y : UInt64} (hd : decode (mCode M) pc = .ok (.ddiv, 1)) (k : mX M n0 c0 s0 (pc + 1) l (.double (FP.ddiv x y) :: st) σ ι o) : mX M n0 c0 s0 pc l (.double y :: .double x :: st) σ ι (if vfn (FP.ddiv x y) = true then o else none) :=
  mX.ck (fun hp => mX.step (fun _ _ _ _ _ _ _ _ _ _ _ _ _ _ _ _ _ _ _ _ hc _ _ hl w => lv_ddiv hc.1 hc.2.1 hd (vfn_n hp) w) k)
theorem x_dmul {x y : UInt64} (hd : decode (mCode M) pc = .ok (.dmul, 1)) (k : mX M n0 c0 s0 (pc + 1) l (.double (FP.dmul x y) :: st) σ ι o) : mX M n0 c0 s0 pc l (.double y :: .double x :: st) σ ι (if vfn (FP.dmul x y) = true then o else none) :=
  mX.ck (fun hp => mX.step (fun _ _ _ _ _ _ _ _ _ _ _ _ _ _ _ _ _ _ _ _ hc _ _ hl w => lv_dmul hc.1 hc.2.1 hd (vfn_n hp) w) k)
theorem x_dsub {x y : UInt64} (hd : decode (mCode M) pc = .ok (.dsub, 1)) (k : mX M n0 c0 s0 (pc + 1) l (.double (FP.dsub x y) :: st) σ ι o) : mX M n0 c0 s0 pc l (.double y :: .double x :: st) σ ι (if vfn (FP.dsub x y) = true then o else none) :=
  mX.ck (fun hp => mX.step (fun _ _ _ _ _ _ _ _ _ _ _ _ _ _ _ _ _ _ _ _ hc _ _ hl w => lv_dsub hc.1 hc.2.1 hd (vfn_n hp) w) k)
/-- a row that writes the memory -/
theorem mX.wr {pc' : Nat} {st' : List Value} {g : Option mMm} {kk : mMm → Option α} (h : ∀ (μ' : mMm), g = some μ' → ∀ (p : Program) (lch : Launch) (e : Env) (R : Room) (s : State) (m : MethodId) (args : Array Value) (below : List Frame) (meth : Method) (c : Code) (A : Nat → Prop) (D : va_G) (ca : Nat → ClassId) (Q : State → Prop) (H : Heap) (locs : List Loc) (cells slots : Nat) (ls : Array Slot) (ad : Nat → Nat), mCx M p lch e R s m args below meth c A D ca → va_P D vwCl (mW ad ca S μ) H → va_D A (mW ad ca S μ) → va_S A s.heap H locs → (∀ (H1 : Heap) (locs1 : List Loc), va_P D vwCl (mW ad ca S μ') H1 → va_D A (mW ad ca S μ') → va_S A s.heap H1 locs1 → W p lch e R s m args below meth c H1 locs1 cells slots Q (F0 m pc' ls (st'.map (mv ad)))) → W p lch e R s m args below meth c H locs cells slots Q (F0 m pc ls (st.map (mv ad))))
    (k : ∀ μ', mX M n0 c0 s0 pc' l st' (S, μ', cx, cy) ι (kk μ')) : mX M n0 c0 s0 pc l st (S, μ, cx, cy) ι (g.bind kk) := by
  intro a ha
  obtain ⟨μ', hb, hk⟩ := Option.bind_eq_some_iff.mp ha
  obtain ⟨h1, h2⟩ := k μ' a hk
  refine ⟨h1, ?_⟩
  intro p lch e R s m args below meth c A D ca Q ad0 hc ht hr1 hr2 he ad H locs ls hf
  exact h μ' hb p lch e R s m args below meth c A D ca Q H locs _ _ ls ad hc hf.1 hf.2.1 hf.2.2.1 (fun H1 locs1 hP hD hS => h2 p lch e R s m args below meth c A D ca Q ad0 hc ht hr1 hr2 he ad H1 locs1 ls ⟨hP, hD, hS, hf.2.2.2⟩)
theorem x_pI {c k q index : Nat} {C : String} {T : u_T} {N : Nat} {ty : Nat → FieldType} {v : Int32} {kk : mMm → Option α} (fc : mFC c C T N ty) (hd : decode (mCode M) pc = .ok (.putfield index, 3)) (hw : Cond.fieldLink (mOwn M) index (T k).1 (T k).2.1 (T k).2.2.1 ∈ wsL_law) (hk : k < N) (hg : (mFt c).getD k 0 = 0) (hfin : (T k).2.2.2 = false) (hn : narrow (ty k) (.int v) = .int v) (hfit : fits (ty k) (.int v) = true)
    (kn : ∀ μ', mX M n0 c0 s0 (pc + 3) l st (S, μ', cx, cy) ι (kk μ')) : mX M n0 c0 s0 pc l (.int v :: .ref q :: st) (S, μ, cx, cy) ι ((pI S μ q c k v).bind kk) := by
  refine mX.wr (fun μ' hv => ?_) kn
  unfold pI at hv
  by_cases hm : mok S q c = true
  · rw [if_pos hm] at hv
    cases hv
    intro p lch e R s m args below meth cd A D ca Q H locs cells slots ls ad hc hP hD hS w
    have hg2 := mW_get ad ca S μ (mok_n hm)
    rw [mE_obj (mok_k hm) fc.2.2.2.1] at hg2
    have hkl : k < (mFt c).length := by rw [fc.2.2.1]; exact hk
    have hset : (mW ad ca S μ).set q (ad q, .inr (c, (mFs ad S μ q).set k (.int v))) = mW ad ca S (u2 μ.1 q k v, μ.2) := by
      refine mW_set (mok_n hm) ?_ (fun j hj => mE_neI hj)
      rw [mE_obj (mok_k hm) fc.2.2.2.1, mFs_setI (mok_k hm) hkl hg]
    refine va_put (v := .int v) hc.1 hc.2.1 hc.2.2.2.2.1 fc.2.1 ty fc.2.2.2.2.1 fc.2.2.2.2.2 hc.2.2.2.1 hc.2.2.2.2.2.2.1 hP hD hS q hg2 fc.1 k hk (hc.2.2.2.2.1 _ hw) (fun _ h9 => h9) hfin (fc.2.2.2.2.1 k hk) hn hfit (by rw [mFs_len (mok_k hm)]; exact hkl) hd (fun H1 locs1 hP1 hD1 hS1 => ?_)
    rw [hset] at hP1 hD1
    exact w H1 locs1 hP1 hD1 hS1
  · rw [if_neg hm] at hv
    cases hv
theorem x_pL {c k q index : Nat} {C : String} {T : u_T} {N : Nat} {ty : Nat → FieldType} {v : Int64} {kk : mMm → Option α} (fc : mFC c C T N ty) (hd : decode (mCode M) pc = .ok (.putfield index, 3)) (hw : Cond.fieldLink (mOwn M) index (T k).1 (T k).2.1 (T k).2.2.1 ∈ wsL_law) (hk : k < N) (hg : (mFt c).getD k 0 = 1) (hfin : (T k).2.2.2 = false) (hty : ty k = .long)
    (kn : ∀ μ', mX M n0 c0 s0 (pc + 3) l st (S, μ', cx, cy) ι (kk μ')) : mX M n0 c0 s0 pc l (.long v :: .ref q :: st) (S, μ, cx, cy) ι ((pL S μ q c k v).bind kk) := by
  refine mX.wr (fun μ' hv => ?_) kn
  unfold pL at hv
  by_cases hm : mok S q c = true
  · rw [if_pos hm] at hv
    cases hv
    intro p lch e R s m args below meth cd A D ca Q H locs cells slots ls ad hc hP hD hS w
    have hg2 := mW_get ad ca S μ (mok_n hm)
    rw [mE_obj (mok_k hm) fc.2.2.2.1] at hg2
    have hkl : k < (mFt c).length := by rw [fc.2.2.1]; exact hk
    have hset : (mW ad ca S μ).set q (ad q, .inr (c, (mFs ad S μ q).set k (.long v))) = mW ad ca S (μ.1, u2 μ.2 q k v) := by
      refine mW_set (mok_n hm) ?_ (fun j hj => mE_neL hj)
      rw [mE_obj (mok_k hm) fc.2.2.2.1, mFs_setL (mok_k hm) hkl hg]
    refine va_put (v := .long v) hc.1 hc.2.1 hc.2.2.2.2.1 fc.2.1 ty fc.2.2.2.2.1 fc.2.2.2.2.2 hc.2.2.2.1 hc.2.2.2.2.2.2.1 hP hD hS q hg2 fc.1 k hk (hc.2.2.2.2.1 _ hw) (fun _ h9 => h9) hfin (fc.2.2.2.2.1 k hk) (by rw [hty]; rfl) (by rw [hty]; rfl) (by rw [mFs_len (mok_k hm)]; exact hkl) hd (fun H1 locs1 hP1 hD1 hS1 => ?_)
    rw [hset] at hP1 hD1
    exact w H1 locs1 hP1 hD1 hS1
  · rw [if_neg hm] at hv
    cases hv
theorem x_stI {q : Nat} {i v : Int32} {kk : mMm → Option α} (hd : decode (mCode M) pc = .ok (.iastore, 1)) (kn : ∀ μ', mX M n0 c0 s0 (pc + 1) l st (S, μ', cx, cy) ι (kk μ')) : mX M n0 c0 s0 pc l (.int v :: .int i :: .ref q :: st) (S, μ, cx, cy) ι ((stI S μ q i v).bind kk) := by
  refine mX.wr (fun μ' hv => ?_) kn
  unfold stI at hv
  by_cases hm : mok S q 12 = true ∧ mIn i (mLn S q) = true
  · rw [if_pos hm] at hv
    cases hv
    intro p lch e R s m args below meth cd A D ca Q H locs cells slots ls ad hc hP hD hS w
    have hg2 := mW_get ad ca S μ (mok_n hm.1)
    rw [mE_12 (mok_k hm.1)] at hg2
    have hset : (mW ad ca S μ).set q (ad q, .inl (ca 0, mLn S q, .inl (upd (μ.1 q) i.toNatClampNeg v))) = mW ad ca S (u2 μ.1 q i.toNatClampNeg v, μ.2) := by
      refine mW_set (mok_n hm.1) ?_ (fun j hj => mE_neI hj)
      rw [mE_12 (mok_k hm.1)]
      exact congrArg (fun z => Sum.inl (ca 0, mLn S q, Sum.inl z)) u2_row
    refine va_iast hc.1 hc.2.1 hc.2.2.2.2.2.2.1 hP hD hS q 0 hg2 rfl (mIn_in hm.2) hd (fun H1 locs1 hP1 hD1 hS1 => ?_)
    rw [hset] at hP1 hD1
    exact w H1 locs1 hP1 hD1 hS1
  · rw [if_neg hm] at hv
    cases hv
/-! ends -/
theorem x_ret {a : α} {τ : mSt} (hι : ι a = (.inl none, τ)) (hd : decode (mCode M) pc = .ok (.return_, 1)) (hr : mRet M = none) : mX M n0 c0 s0 pc l [] τ ι (some a) := by
  intro a' ha'
  cases ha'
  rw [hι]
  exact ⟨mLe.rf, fun p lch e R s m args below meth c A D ca Q ad0 hc ht hr1 hr2 he ad H locs ls hf => he l ad H locs ls pc hf hd hr⟩
theorem x_iret {a : α} {τ : mSt} {v : Int32} {ty : FieldType} (hι : ι a = (.inl (some (.int v)), τ)) (hd : decode (mCode M) pc = .ok (.ireturn, 1)) (hr : mRet M = some ty) (hn : narrow ty (.int v) = .int v) : mX M n0 c0 s0 pc l [.int v] τ ι (some a) := by
  intro a' ha'
  cases ha'
  rw [hι]
  exact ⟨mLe.rf, fun p lch e R s m args below meth c A D ca Q ad0 hc ht hr1 hr2 he ad H locs ls hf => he l ad H locs ls pc ty hf hd hr hn⟩
theorem x_lret {a : α} {τ : mSt} {v : Int64} (hι : ι a = (.inl (some (.long v)), τ)) (hd : decode (mCode M) pc = .ok (.lreturn, 1)) (hr : mRet M = some .long) : mX M n0 c0 s0 pc l [.long v] τ ι (some a) := by
  intro a' ha'
  cases ha'
  rw [hι]
  exact ⟨mLe.rf, fun p lch e R s m args below meth c A D ca Q ad0 hc ht hr1 hr2 he ad H locs ls hf => he l ad H locs ls pc hf hd hr⟩
theorem x_dret {a : α} {τ : mSt} {v : UInt64} (hι : ι a = (.inl (some (.double v)), τ)) (hd : decode (mCode M) pc = .ok (.dreturn, 1)) (hr : mRet M = some .double) : mX M n0 c0 s0 pc l [.double v] τ ι (some a) := by
  intro a' ha'
  cases ha'
  rw [hι]
  exact ⟨mLe.rf, fun p lch e R s m args below meth c A D ca Q ad0 hc ht hr1 hr2 he ad H locs ls hf => he l ad H locs ls pc hf hd hr⟩
theorem x_throw {a : α} {E : Nat} (hι : ι a = (.inr E, (S, μ, cx + 1, cy + 6))) (hs : mSite M pc E) (hcat : (st.map fun v => v.category).sum ≤ 8) : mX M n0 c0 s0 pc l st (S, μ, cx, cy) ι (some a) := by
  intro a' ha'
  cases ha'
  rw [hι]
  refine ⟨⟨Nat.le_refl _, by show mN S + cx ≤ mN S + (cx + 1); omega, by show mTot S + cy ≤ mTot S + (cy + 6); omega⟩, fun p lch e R s m args below meth c A D ca Q ad0 hc ht hr1 hr2 he ad H locs ls hf => ?_⟩
  refine he (S, μ, cx, cy) l ad H locs ls pc _ rfl rfl (by show mN S + cx + 1 ≤ mN S + (cx + 1); omega) (by show mTot S + cy + 6 ≤ mTot S + (cy + 6); omega) hf hs ?_
  rw [List.map_map]
  rw [show ((fun v : Value => v.category) ∘ mv ad) = (fun v : Value => v.category) from funext (fun v => mv_cat ad v)]
  exact hcat
end MROWS3
end
section
/-! contracts of the numbered machine, and calls -/
def mRm (M : mM) (mc ms : Nat) : Room := { frames := mFr M, cells := mc, slots := ms, locals := mLo M }
abbrev mWs (M : mM) : List Cond := .code (mY M) (mCode M) (mMaxL M) (mRet M) :: wsL_law
def mB (M : mM) (D : va_G) (ca : Nat → ClassId) (A1 : Nat → Prop) (S : mSh) (μ : mMm) : (Nat → Nat) → State → Prop := fun u t => va_P D vwCl (mW u ca S μ) t.heap ∧ va_K D vwCl (mTy ca) t ∧ va_D A1 (mW u ca S μ) ∧ (mAl M = true → mRk S)
def mAg (M : mM) (n : Nat) (ad u : Nat → Nat) : Prop := (∀ i, (i < n ∨ 1000 ≤ i) → u i = ad i) ∧ (mAl M = false → u = ad)
def mPcs (M : mM) (ad : Nat → Nat) (ca : Nat → ClassId) (D : va_G) (σ : mSt) (sz : Nat) (args : List Value) : Array Value → State → Prop :=
  va_Pc (args.map (mv ad)) (fun U => U.heap.size = sz ∧ va_P D vwCl (mW ad ca σ.1 σ.2.1) U.heap ∧ va_K D vwCl (mTy ca) U ∧ va_D (fun _ => True) (mW ad ca σ.1 σ.2.1) ∧ (mAl M = true → mRk σ.1) ∧ mTF (va_A (mW ad ca σ.1 σ.2.1) sz) U U.heap)
def mQ (M : mM) (n : Nat) (ad : Nat → Nat) (ca : Nat → ClassId) (D : va_G) (A1 : Nat → Prop) (x : mO × mSt) : Array Value → State → Outcome → State → Prop := match x.1 with
  | .inl none => va_Qv (fun u => mAg M n ad u) (mB M D ca A1 x.2.1 x.2.2.1) A1
  | .inl (some (.int v)) => va_Qi (fun r u => r = v ∧ mAg M n ad u) (mB M D ca A1 x.2.1 x.2.2.1) A1
  | .inl (some (.long v)) => va_Ql (fun r u => r = v ∧ mAg M n ad u) (mB M D ca A1 x.2.1 x.2.2.1) A1
  | .inl (some (.double v)) => va_Qd (fun r u => r = v ∧ mAg M n ad u) (mB M D ca A1 x.2.1 x.2.2.1) A1
  | .inl _ => fun _ _ _ _ => True
  | .inr _ => va_Qi (fun _ (_ : Nat → Nat) => False) (fun _ _ => False) A1
def mXC (M : mM) (n : Nat) (ad : Nat → Nat) (ca : Nat → ClassId) (D : va_G) (A1 : Nat → Prop) (x : mO × mSt) : String → State → State → Prop := match x.1 with
  | .inr E => vx_X (fun u => mAg M n ad u) (fun nm u t => nm = mCls E ∧ mB M D ca A1 x.2.1 x.2.2.1 u t) A1
  | .inl _ => fun _ _ _ => False
def mMet (M : mM) (args : List Value) (σ : mSt) {α : Type} (ι : α → mO × mSt) (o : Option α) : Prop := ∀ a, o = some a → mLe σ (ι a).2 ∧ ∀ (lch : Launch) (D : va_G) (ca : Nat → ClassId) (ad : Nat → Nat) (sz : Nat), lch.flags = flags0 →
    vx_Met lch (mY M) (mWs M) (mRm M (mCel (ι a).2 - mCel σ) (mSlo (ι a).2 - mSlo σ)) (mPcs M ad ca D σ sz args) (mQ M (mN σ.1) ad ca D (va_A (mW ad ca σ.1 σ.2.1) sz) (ι a)) (mXC M (mN σ.1) ad ca D (va_A (mW ad ca σ.1 σ.2.1) sz) (ι a)) (mCel (ι a).2 - mCel σ) (mSlo (ι a).2 - mSlo σ) (va_A (mW ad ca σ.1 σ.2.1) sz)
/-- the locals with which a method begins -/
def mEl : List Value → List (Option Value)
  | [] => []
  | v :: vs => if v.category = 2 then some v :: none :: mEl vs else some v :: mEl vs
def mEnt (args : List Value) (n : Nat) : List (Option Value) := mEl args ++ List.replicate (n - (mEl args).length) none
theorem mEl_in (ad : Nat → Nat) : ∀ (args : List Value) (k i : Nat) (v : Value), (mEl args)[i]? = some (some v) → (k + i, mv ad v) ∈ lv_args k (args.map (mv ad))
  | [], k, i, v, h => by simp [mEl] at h
  | a :: as, k, i, v, h => by
    unfold mEl at h
    show _ ∈ (k, mv ad a) :: lv_args (if (mv ad a).category = 2 then k + 2 else k + 1) (as.map (mv ad))
    rw [mv_cat]
    by_cases hc : a.category = 2
    · rw [if_pos hc] at h
      rw [if_pos hc]
      cases i with
      | zero => cases h; exact List.mem_cons_self
      | succ i =>
        cases i with
        | zero => cases h
        | succ i =>
          refine List.mem_cons_of_mem _ ?_
          have h1 := mEl_in ad as (k + 2) i v h
          rw [show k + (i + 1 + 1) = k + 2 + i by omega]
          exact h1
    · rw [if_neg hc] at h
      rw [if_neg hc]
      cases i with
      | zero => cases h; exact List.mem_cons_self
      | succ i =>
        refine List.mem_cons_of_mem _ ?_
        have h1 := mEl_in ad as (k + 1) i v h
        rw [show k + (i + 1) = k + 1 + i by omega]
        exact h1
theorem mEnt_H {ls : Array Slot} {n : Nat} {ad : Nat → Nat} {args : List Value} (h : lv_has ls n (lv_args 0 (args.map (mv ad)))) : mH ls n ad (mEnt args n) := by
  refine ⟨h.1, h.2.1, fun i v hi => ?_⟩
  unfold mEnt at hi
  by_cases hl : i < (mEl args).length
  · rw [List.getElem?_append_left hl] at hi
    have h1 := mEl_in ad args 0 i v hi
    rw [Nat.zero_add] at h1
    exact h.2.2 _ h1
  · rw [List.getElem?_append_right (by omega)] at hi
    have := List.eq_of_mem_replicate (List.mem_of_getElem? hi)
    cases this
theorem mFl {lch : Launch} (h : lch.flags = flags0) : lch.stackTraces = false := by
  unfold Launch.stackTraces
  rw [h]
  decide +kernel
theorem mNg : ∀ E, E < 3 → ∀ ic, (E = 0 ∧ ic = 85) ∨ (E = 1 ∧ ic = 98) ∨ (E = 2 ∧ ic = 114) → (∀ w ∈ (vx_atS RX10 ic (mCls E) mNms).filter goodWord, w ∈ wsL_law) ∧ (∀ w ∈ (vx_atS RX10 ic (mCls E) mNms).filter (fun w => !goodWord w), w ∈ [Cond.castable (mCls E) (mCls E), Cond.declares ⟨"java/lang/RuntimeException", "<init>", "(Ljava/lang/String;)V"⟩, Cond.declares ⟨"java/lang/Exception", "<init>", "(Ljava/lang/String;)V"⟩, Cond.declares ⟨"java/lang/Throwable", "<init>", "(Ljava/lang/String;)V"⟩]) ∧ (∀ ik, ∀ w ∈ Cond.classLink RX10 ik (mCls E) :: Cond.initialized (mCls E) :: vx_atS RX10 ic (mCls E) mNms, vx_ot w = true) ∧ Bundle.fit (mCls E) = true := by
  intro E hE ic h
  rcases h with ⟨rfl, rfl⟩ | ⟨rfl, rfl⟩ | ⟨rfl, rfl⟩
  · exact ⟨fun w h => List.mem_append_left _ (List.mem_append_left _ (List.mem_append_right _ h)), by decide +kernel, fun ik => by
      have h : ∀ w ∈ vx_atS RX10 85 (mCls 0) mNms, vx_ot w = true := by decide +kernel
      exact List.forall_mem_cons.mpr ⟨rfl, List.forall_mem_cons.mpr ⟨rfl, h⟩⟩, by decide +kernel⟩
  · exact ⟨fun w h => List.mem_append_left _ (List.mem_append_right _ h), by decide +kernel, fun ik => by
      have h : ∀ w ∈ vx_atS RX10 98 (mCls 1) mNms, vx_ot w = true := by decide +kernel
      exact List.forall_mem_cons.mpr ⟨rfl, List.forall_mem_cons.mpr ⟨rfl, h⟩⟩, by decide +kernel⟩
  · exact ⟨fun w h => List.mem_append_right _ h, by decide +kernel, fun ik => by
      have h : ∀ w ∈ vx_atS RX10 114 (mCls 2) mNms, vx_ot w = true := by decide +kernel
      exact List.forall_mem_cons.mpr ⟨rfl, List.forall_mem_cons.mpr ⟨rfl, h⟩⟩, by decide +kernel⟩
theorem mNs : ∀ n ∈ mNms, Bundle.fit n = true := by decide +kernel
/-- a body's end is its contract's -/
theorem mEnd_of {M : mM} {n0 c0 s0 : Nat} (x : mO × mSt) {p : Program} {lch : Launch} {e : Env} {R : Room} {s : State} {m : MethodId} {args : Array Value} {below : List Frame} {meth : Method} {c : Code} {A : Nat → Prop} {D : va_G} {ca : Nat → ClassId} {ad0 : Nat → Nat}
    (hc : mCx M p lch e R s m args below meth c A D ca) (hTF : mTF A s s.heap) (hr1 : mCel x.2 - c0 ≤ R.cells) (hr2 : mSlo x.2 - s0 ≤ R.slots) (hsig : meth.sig.returnType = mRet M) (hlocks : meth.locks = false) (hex : ∀ z ∈ c.exceptionTable.toList, False) :
    mEnd M n0 c0 s0 x p lch e R s m args below meth c A D ca (vx_MQ below (mQ M n0 ad0 ca D A x) (mXC M n0 ad0 ca D A x) args s (mCel x.2 - c0) (mSlo x.2 - s0) A) ad0 := by
  obtain ⟨r, τ⟩ := x
  have hx := hc.1
  have hb := hc.2.1
  have hK := hc.2.2.2.2.2.2.1
  cases r with
  | inl r =>
    cases r with
    | none =>
      intro l ad H locs ls pc hf hd hr
      exact vx_ret (W.vret hx hb (hsig.trans hr) (fun t ht hW => ⟨⟨ad, rfl, ⟨hf.2.2.2.2.1, hf.2.2.2.2.2.1⟩, by rw [ht]; exact hf.1, va_K.moved hW.alike hK, hf.2.1, hf.2.2.2.2.2.2.1.2⟩, hf.2.2.1.F ht⟩) hf.2.2.1.2.2 hd)
    | some v =>
      cases v with
      | int v =>
        intro l ad H locs ls pc ty hf hd hr hn
        exact vx_ret (W.zret hx hb (hsig.trans hr) hn (fun t ht hW => ⟨⟨v, ad, rfl, ⟨rfl, hf.2.2.2.2.1, hf.2.2.2.2.2.1⟩, by rw [ht]; exact hf.1, va_K.moved hW.alike hK, hf.2.1, hf.2.2.2.2.2.2.1.2⟩, hf.2.2.1.F ht⟩) hf.2.2.1.2.2 hd)
      | long v =>
        intro l ad H locs ls pc hf hd hr
        exact vx_ret (W.lret hx hb (hsig.trans hr) (fun t ht hW => ⟨⟨v, ad, rfl, ⟨rfl, hf.2.2.2.2.1, hf.2.2.2.2.2.1⟩, by rw [ht]; exact hf.1, va_K.moved hW.alike hK, hf.2.1, hf.2.2.2.2.2.2.1.2⟩, hf.2.2.1.F ht⟩) hf.2.2.1.2.2 hd)
      | double v =>
        intro l ad H locs ls pc hf hd hr
        exact vx_ret (W.dret hx hb (hsig.trans hr) (fun t ht hW => ⟨⟨v, ad, rfl, ⟨rfl, hf.2.2.2.2.1, hf.2.2.2.2.2.1⟩, by rw [ht]; exact hf.1, va_K.moved hW.alike hK, hf.2.1, hf.2.2.2.2.2.2.1.2⟩, hf.2.2.1.F ht⟩) hf.2.2.1.2.2 hd)
      | _ => exact trivial
  | inr E =>
    intro σ l ad H locs ls pc rest e1 e2 h1 h2 hf hsite hcat
    obtain ⟨ik, is, ic, tx, d0, d3, dd, how, hk, hini, hE, htx, hfr, hlo⟩ := hsite
    obtain ⟨hw1, hw2, hw3, hw4⟩ := mNg E (by omega) ic hE
    obtain ⟨hU, hN, hS9, hG9⟩ := hTF
    obtain ⟨sa, hsa⟩ := hS9 _ htx
    have hts := hc.2.2.2.2.1
    have hown : s.vm.findClass RX10 = some m.cls := how ▸ hc.2.2.2.1
    have hat : ∀ w ∈ vx_atS RX10 ic (mCls E) mNms, w.before args s = true := vx_hat (fun w h => hts w (hw1 w h)) hw2 (vx_c (va_Nw.use rfl (hG9.1 E (by omega))) (vx_c (va_Nw.use rfl hG9.2.1) (vx_c (va_Nw.use rfl hG9.2.2.1) (vx_c (va_Nw.use rfl hG9.2.2.2.1) vx_n))))
    have hF1 := hc.2.2.2.2.2.2.2.2.1
    have hF2 := hc.2.2.2.2.2.2.2.2.2.1
    have hp8 := hf.2.2.2.2.2.2.2.1
    have hp9 := hf.2.2.2.2.2.2.2.2
    have hsz : ls.size = c.maxLocals := hf.2.2.2.1.1.trans hc.2.2.1.symm
    have hxx : ∀ t : State, s.vm.Alike t.vm → H.size ≤ t.heap.size → (∀ q : Nat, q < H.size → t.heap[q]? = H[q]?) → mXC M n0 ad0 ca D A (.inr E, τ) (mCls E) s t := by
      intro t hal hz hq
      have hP1 : va_P D vwCl (mW ad ca σ.1 σ.2.1) t.heap := hf.1.kept (fun k q hk => hq _ (hf.1 k q hk).lt)
      rw [e1, e2] at hP1
      have hD1 := hf.2.1
      rw [e1, e2] at hD1
      have hR1 := hf.2.2.2.2.2.2.1.2
      rw [e1] at hR1
      refine ⟨ad, ⟨hf.2.2.2.2.1, hf.2.2.2.2.2.1⟩, ⟨rfl, hP1, va_K.moved hal hK, hD1, hR1⟩, Nat.le_trans hf.2.2.1.1 hz, fun q hq1 hq2 => ?_⟩
      rw [hq q (Nat.lt_of_lt_of_le hq1 hf.2.2.1.1)]
      exact hf.2.2.1.2.1 q hq1 hq2
    have hl1 : mNms.length + 3 < R.frames := by show 2 + 3 < R.frames; omega
    have hl2 : (rest.map fun v => v.category).sum + (13 * (mNms.length + 1) + 43) ≤ R.locals := by show _ + (13 * (2 + 1) + 43) ≤ _; omega
    have hc1 : mCel σ - c0 + 1 ≤ mCel τ - c0 := by have h1 : mCel σ + 1 ≤ mCel τ := h1; omega
    have hc2 : mSlo σ - s0 + 6 ≤ mSlo τ - s0 := by have h2 : mSlo σ + 6 ≤ mSlo τ := h2; omega
    have hr1 : mCel τ - c0 ≤ R.cells := hr1
    have hr2 : mSlo τ - s0 ≤ R.slots := hr2
    rcases dd with ⟨d4, d6, d9⟩ | ⟨d4, d7, d10⟩
    · exact vx_throwS hx hb (mFl hc.2.2.2.2.2.2.2.2.2.2) hown hw4 mNs (hts _ hk) (hts _ hini) hsa hat (hw3 ik) hU hN hf.2.2.1 hsz d0 d3 d4 d6 d9 (fun z hz => (hex z hz).elim) hl1 hl2 (Nat.le_trans hc1 hr1) (Nat.le_trans hc2 hr2) hlocks hxx hf.2.2.1.2.2 hc1 hc2
    · exact vx_throwSW hx hb (mFl hc.2.2.2.2.2.2.2.2.2.2) hown hw4 mNs (hts _ hk) (hts _ hini) hsa hat (hw3 ik) hU hN hf.2.2.1 hsz d0 d3 d4 d7 d10 (fun z hz => (hex z hz).elim) hl1 hl2 (Nat.le_trans hc1 hr1) (Nat.le_trans hc2 hr2) hlocks hxx hf.2.2.1.2.2 hc1 hc2

theorem mTF_blind {A : Nat → Prop} {U V : State} (hvm : U.vm = V.vm) (hh : V.heap = U.heap) (h : mTF A U U.heap) : mTF A V V.heap := by
  obtain ⟨h1, h2, h3, h4, h5, h6, h7, h8, h9⟩ := h
  have ha : U.vm.Alike V.vm := by rw [hvm]; exact Vm.Alike.refl _
  rw [hh]
  exact ⟨vx_Zq.moved ha h1, vx_Zq.moved ha h2, fun q hq => (h3 q hq).imp (fun sa h => vk_R.same hvm.symm h), fun E hE => va_Nw.same rfl hvm (h4 E hE), va_Nw.same rfl hvm h5, va_Nw.same rfl hvm h6, va_Nw.same rfl hvm h7, va_AO.moved ha h8, fun i j hi hj hn => va_Nc.moved ha (h9 i j hi hj hn)⟩
/-- what a throw takes as given, at a callee's start -/
theorem mTF_call {A A1 : Nat → Prop} {s U : State} {H : Heap} {locs : List Loc} (h : mTF A s s.heap) (hS : va_S A s.heap H locs) (hW : s.WarmedH U.vm) (hU : U.heap = H) (hAA : ∀ q, A1 q → A q) : mTF A1 U U.heap := by
  obtain ⟨h1, h2, h3, h4, h5, h6, h7, h8, h9⟩ := h
  have hk : ∀ a : Nat, a < s.heap.size → ¬ A a → H[a]? = s.heap[a]? := hS.2.1
  rw [hU]
  exact ⟨((h1.kept hk).moved hW.alike).narrow hAA, ((h2.kept hk).moved hW.alike).narrow hAA, fun q hq => (h3 q hq).imp (fun sa h => vk_R.warm hW h), fun E hE => va_Nw.warmC hW (h4 E hE), va_Nw.warmD hW h5, va_Nw.warmD hW h6, va_Nw.warmD hW h7, va_AO.moved hW.alike h8, fun i j hi hj hn => va_Nc.moved hW.alike (h9 i j hi hj hn)⟩
theorem mPcs_blind {M : mM} {ad : Nat → Nat} {ca : Nat → ClassId} {D : va_G} {σ : mSt} {sz : Nat} {args : List Value} : FrameBlind (mPcs M ad ca D σ sz args) := by
  intro a U g mk q
  obtain ⟨q0, q1, q2, q3, q4, qr, q5⟩ := q
  exact ⟨q0, q1, q2, va_K.moved (u := U) (U := U.calling g mk a) (Vm.Alike.refl U.vm) q3, q4, qr, mTF_blind (U := U) (V := U.calling g mk a) rfl rfl q5⟩
/-- a body's walk is its method's contract -/
theorem mMet.of {M : mM} {args : List Value} {σ : mSt} {α : Type} {ι : α → mO × mSt} {o : Option α} (hxe : mXe M = eT) (hpl : plainName (mY M).cls = true) (hcl : (mY M).cls = mOwn M) (hin : mInit M = true → (mY M).name = "<init>") (hsz : (mEl args).length ≤ mMaxL M)
    (h : mX M (mN σ.1) (mCel σ) (mSlo σ) 0 (mEnt args (mMaxL M)) [] σ ι o) : mMet M args σ ι o := by
  intro a ha
  obtain ⟨h1, h2⟩ := h a ha
  refine ⟨h1, fun lch D ca ad sz hfl => ?_⟩
  refine vx_ofW hpl rfl ?_
  intro p e s m args' below meth c s₁ B hml hex hv
  obtain ⟨rfl, hsz9, hP, hK, hD0, hRk, hTF⟩ := hv
  subst hsz9
  have hts0 := atoms_spec (ws := mWs M) B.pre
  have hown : s.vm.findClass (mOwn M) = some m.cls := hcl ▸ findClass_of_methodNamed B.named
  have hD := hD0.self (sz := s.heap.size)
  have hc : mCx M p lch e (headSpec (mWs M) (mRm M (mCel (ι a).2 - mCel σ) (mSlo (ι a).2 - mSlo σ))).room s m (args.map (mv ad)).toArray below meth c (va_A (mW ad ca σ.1 σ.2.1) s.heap.size) D ca :=
    ⟨B.exec, B.bytes, hml, hown, fun w hw => hts0 w (List.mem_cons_of_mem _ hw), fun hi => (name_of_methodNamed B.named B.method).1.trans (hin hi), hK, fun q hq => Or.inr hq, Nat.le_refl _, Nat.le_refl _, hfl⟩
  have hend := mEnd_of (M := M) (n0 := mN σ.1) (c0 := mCel σ) (s0 := mSlo σ) (ι a) (ad0 := ad) hc hTF (Nat.le_refl _) (Nat.le_refl _) B.returns B.notSynchronized hex
  rw [lg_entry_eq]
  have hlen : (lg_sl (args.map (mv ad))).length = (mEl args).length := by
    clear h h1 h2 ha hc hend hex hP hK hD0 hTF hD hown hts0 B hml hsz
    induction args with
    | nil => rfl
    | cons v vs ih =>
      show (lg_sl (mv ad v :: vs.map (mv ad))).length = _
      unfold mEl
      have e : lg_sl (mv ad v :: vs.map (mv ad)) = (if (mv ad v).category = 2 then [Slot.val (mv ad v), .second] else [.val (mv ad v)]) ++ lg_sl (vs.map (mv ad)) := rfl
      rw [e, mv_cat]
      by_cases hc : v.category = 2
      · rw [if_pos hc, if_pos hc]
        simp [ih]
      · rw [if_neg hc, if_neg hc]
        simp [ih]
  have hl := lv_entry (args.map (mv ad)) (n := mMaxL M) (by rw [hlen]; exact hsz)
  have hw := h2 p lch e _ s m _ below meth c _ D ca _ ad hc ⟨hTF, by rw [hxe]; exact trivial⟩ (Nat.le_refl _) (Nat.le_refl _) hend ad s.heap [] _ ⟨hP, hD, va_S.rf, mEnt_H hl, fun _ _ => rfl, fun _ => rfl, ⟨Nat.le_refl _, hRk⟩, Nat.le_refl _, Nat.le_refl _⟩
  rw [Nat.sub_self, Nat.sub_self] at hw
  exact hw
end
section
/-! calls: a row for each kind of answer -/
set_option maxRecDepth 100000 in
theorem mGood : wsL_law.all goodWord = true := by decide +kernel
theorem mGoodIn : GoodIn wsL_law wsL_law := fun w h => ⟨h, good_of_word (List.all_eq_true.mp mGood w h)⟩
theorem mGoodC {w : Cond} {ws : List Cond} (hw : w ∈ wsL_law) (h : GoodIn wsL_law ws) : GoodIn wsL_law (w :: ws) := fun v hv => (List.mem_cons.mp hv).elim (fun e => by rw [e]; exact mGoodIn _ hw) (h v)
def mCalV (M : mM) (C : String) (n : Nat) : Prop := Cond.instanceMethod (mY M) ∈ wsL_law ∧ Cond.selects C (mY M) (mY M) ∈ wsL_law ∧ Cond.initialized C ∈ wsL_law ∧ Cond.code (mY M) (mCode M) (mMaxL M) (mRet M) ∈ wsL_law ∧
  ((mY M).cls = C ∧ (mY M).cls ≠ "java/lang/invoke/MethodHandle" ∧ (mY M).cls ≠ "java/lang/invoke/VarHandle" ∧ (parseMethodDescriptor (mY M).desc).map (fun d => d.parameters.length) = some n)
def mCalS (M : mM) (n : Nat) : Prop := Cond.static (mY M) ∈ wsL_law ∧ Cond.initialized (mY M).cls ∈ wsL_law ∧ Cond.code (mY M) (mCode M) (mMaxL M) (mRet M) ∈ wsL_law ∧
  ((mY M).cls ≠ "java/lang/invoke/MethodHandle" ∧ (mY M).cls ≠ "java/lang/invoke/VarHandle" ∧ (parseMethodDescriptor (mY M).desc).map (fun d => d.parameters.length) = some n)
theorem mGV {M : mM} {C own : String} {n idx : Nat} (h : mCalV M C n) (hl : Cond.methodLink own idx (mY M) ∈ wsL_law) : GoodIn wsL_law (wsV own idx C (mY M) (mWs M)) :=
  mGoodC hl (mGoodC h.1 (mGoodC h.2.1 (mGoodC h.2.2.1 (mGoodC h.2.2.2.1 mGoodIn))))
theorem mGS {M : mM} {own : String} {n idx : Nat} (h : mCalS M n) (hl : Cond.methodLink own idx (mY M) ∈ wsL_law) : GoodIn wsL_law (va_wsS own idx (mY M) (mWs M)) :=
  mGoodC hl (mGoodC h.1 (mGoodC h.2.1 (mGoodC h.2.2.1 mGoodIn)))
theorem vx_toMet {l : Launch} {y : MethodName} {ws : List Cond} {rm : Room} {Pc : Array Value → State → Prop} {Qc : Array Value → State → Outcome → State → Prop} {XC : String → State → State → Prop} {mc ms : Nat} {free : Addr → Prop}
    (h : vx_Met l y ws rm Pc Qc XC mc ms free) (hX : ∀ E st t, ¬ XC E st t) : Met l y ws rm Pc Qc mc ms free := by
  intro p e ha hc hk s m args below hf happ hp ht
  obtain ⟨k, o, h1, h2, h3, hQ⟩ := h p e ha hc hk s m args below hf happ hp ht
  refine ⟨k, o, h1, h2, h3, ?_⟩
  rcases hQ with hQ | ⟨q, -, E, ce, L, hx, -⟩
  · exact hQ
  · exact absurd hx (hX _ _ _)
section MCALL
variable {M M' : mM} {n0 c0 s0 : Nat} {pc : Nat} {l : List (Option Value)} {st : List Value} {S : mSh} {μ : mMm} {cx cy : Nat} {α β : Type} {ι : α → mO × mSt} {o : Option α}
variable {p : Program} {lch : Launch} {e : Env} {R : Room} {s : State} {m : MethodId} {args : Array Value} {below : List Frame} {meth : Method} {c : Code} {A : Nat → Prop} {D : va_G} {ca : Nat → ClassId} {ad0 ad : Nat → Nat} {H : Heap} {locs : List Loc} {ls : Array Slot} {cells slots : Nat} {Qc : Array Value → State → Outcome → State → Prop}
theorem mFree (hc : mCx M p lch e R s m args below meth c A D ca) (hf : mCf M s A D ca n0 c0 s0 ad0 (S, μ, cx, cy) l ad H locs ls) : ∀ q, va_A (mW ad ca S μ) H.size q → A q := by
  intro q hq
  rcases hq with ⟨k, e, hk⟩ | hq
  · exact hf.2.1.2 k _ hk
  · exact hc.2.2.2.2.2.2.2.1 q (Nat.le_trans hf.2.2.1.1 hq)
theorem mPre (hMM : mAl M' = true → mAl M = true) (hc : mCx M p lch e R s m args below meth c A D ca) (hTF : mTF A s s.heap) (hf : mCf M s A D ca n0 c0 s0 ad0 (S, μ, cx, cy) l ad H locs ls) (As : List Value) : PreS s H (mPcs M' ad ca D (S, μ, cx, cy) H.size As) (As.map (mv ad)) :=
  ⟨mPcs_blind, fun U hU hW => ⟨rfl, by rw [hU], by rw [hU]; exact hf.1, va_K.moved hW.alike hc.2.2.2.2.2.2.1, hf.2.1.weaken (fun _ _ _ _ => trivial), fun hz => hf.2.2.2.2.2.2.1.2 (hMM hz), mTF_call hTF hf.2.2.1 hW hU (mFree hc hf)⟩⟩
theorem mCat (st : List Value) (h : (st.map fun v => v.category).sum ≤ 8) : ((st.map (mv ad)).map fun v => v.category).sum ≤ 8 := by
  rw [List.map_map, show ((fun v : Value => v.category) ∘ mv ad) = (fun v : Value => v.category) from funext (fun v => mv_cat ad v)]
  exact h
theorem mRunV (hal : mAl M' = false) {ci b index n mc ms : Nat} {As rest : List Value} {C : String} {T : u_T} {N : Nat} {ty : Nat → FieldType} (fc : mFC ci C T N ty) (hc : mCx M p lch e R s m args below meth c A D ca) (hTF : mTF A s s.heap) (hf : mCf M s A D ca n0 c0 s0 ad0 (S, μ, cx, cy) l ad H locs ls) (hcl : cells + mc ≤ R.cells) (hsl : slots + ms ≤ R.slots)
    (hM : Met lch (mY M') (mWs M') (mRm M' mc ms) (mPcs M' ad ca D (S, μ, cx, cy) H.size (.ref b :: As)) Qc mc ms (va_A (mW ad ca S μ) H.size)) (hok : mok S b ci = true) (hd : decode (mCode M) pc = .ok (.invokevirtual index, 3)) (hl : Cond.methodLink (mOwn M) index (mY M') ∈ wsL_law) (hk : mCalV M' C n) (hn : As.length = n)
    (hroom : mFr M' + 1 ≤ mFr M ∧ 8 + (mMaxL M' + 11) + mLo M' ≤ mLo M) (hst : st = As.reverse ++ .ref b :: rest) (hcat : (rest.map fun v => v.category).sum ≤ 8) :
    va_Run p lch e R s m args below meth c H locs cells slots mc ms (F0 m pc ls (st.map (mv ad))) (rest.map (mv ad)) (Qc ((.ref b :: As).map (mv ad)).toArray) (va_A (mW ad ca S μ) H.size) := by
  have hF1 := hc.2.2.2.2.2.2.2.2.1
  have hF2 := hc.2.2.2.2.2.2.2.2.2.1
  have hg2 := mW_get ad ca S μ (mok_n hok)
  rw [mE_obj (mok_k hok) fc.2.2.2.1] at hg2
  have hp := mPre (M' := M') (fun hz => by rw [hal] at hz; cases hz) hc hTF hf (.ref b :: As)
  refine va_runV (As := As.map (mv ad)) (b := ad b) (cc := mCode M) (nL := mMaxL M) (Ts := wsL_law) (own := mOwn M) (C := C) (n := n) (index := index) (bytes := mCode M') (maxL := mMaxL M') (ret := mRet M') ⟨hc.1, hc.2.1, hc.2.2.1, hc.2.2.2.1, hc.2.2.2.2.1⟩ hM (cwV n hc.2.2.2.2.1 (mGV hk hl) rfl rfl rfl hk.2.2.2.2 ⟨?_, ?_⟩) ⟨hp.1, va_recv hc.2.2.2.2.2.2.1 hf.1 fc.1 hg2, hp.2⟩ rfl (by rw [List.length_map]; exact hn) hf.2.2.2.1.1 ?_ (lv_room (mCat rest hcat)) hd ⟨hcl, hsl⟩
  · show mFr M' + 1 ≤ R.frames; omega
  · show 8 + (mMaxL M' + 11) + mLo M' ≤ R.locals; omega
  · show st.map (mv ad) = _
    rw [hst, List.map_append, List.map_reverse]
    rfl
theorem mRunS (hal : mAl M' = false) {index n mc ms : Nat} {As rest : List Value} (hc : mCx M p lch e R s m args below meth c A D ca) (hTF : mTF A s s.heap) (hf : mCf M s A D ca n0 c0 s0 ad0 (S, μ, cx, cy) l ad H locs ls) (hcl : cells + mc ≤ R.cells) (hsl : slots + ms ≤ R.slots)
    (hM : Met lch (mY M') (mWs M') (mRm M' mc ms) (mPcs M' ad ca D (S, μ, cx, cy) H.size As) Qc mc ms (va_A (mW ad ca S μ) H.size)) (hd : decode (mCode M) pc = .ok (.invokestatic index, 3)) (hl : Cond.methodLink (mOwn M) index (mY M') ∈ wsL_law) (hk : mCalS M' n) (hn : As.length = n)
    (hroom : mFr M' + 1 ≤ mFr M ∧ 8 + (mMaxL M' + 11) + mLo M' ≤ mLo M) (hst : st = As.reverse ++ rest) (hcat : (rest.map fun v => v.category).sum ≤ 8) :
    va_Run p lch e R s m args below meth c H locs cells slots mc ms (F0 m pc ls (st.map (mv ad))) (rest.map (mv ad)) (Qc (As.map (mv ad)).toArray) (va_A (mW ad ca S μ) H.size) := by
  have hF1 := hc.2.2.2.2.2.2.2.2.1
  have hF2 := hc.2.2.2.2.2.2.2.2.2.1
  refine va_runS (As := As.map (mv ad)) (cc := mCode M) (nL := mMaxL M) (Ts := wsL_law) (own := mOwn M) (n := n) (index := index) (bytes := mCode M') (maxL := mMaxL M') (ret := mRet M') ⟨hc.1, hc.2.1, hc.2.2.1, hc.2.2.2.1, hc.2.2.2.2.1⟩ hM (va_cwS n hc.2.2.2.2.1 (mGS hk hl) rfl rfl rfl hk.2.2.2 ⟨?_, ?_⟩) (mPre (M' := M') (fun hz => by rw [hal] at hz; cases hz) hc hTF hf As) rfl (by rw [List.length_map]; exact hn) hf.2.2.2.1.1 ?_ (lv_room (mCat rest hcat)) hd ⟨hcl, hsl⟩
  · show mFr M' + 1 ≤ R.frames; omega
  · show 8 + (mMaxL M' + 11) + mLo M' ≤ R.locals; omega
  · show st.map (mv ad) = _
    rw [hst, List.map_append, List.map_reverse]
/-- the world behind a call -/
theorem mBack (hc : mCx M p lch e R s m args below meth c A D ca) (hf : mCf M s A D ca n0 c0 s0 ad0 (S, μ, cx, cy) l ad H locs ls) {μ' : mMm} {u : Nat → Nat} {t : State} {H1 : Heap} {locs1 : List Loc} (hal : mAl M' = false) (ht : t.heap = H1) (hg : mAg M' (mN S) ad u) (hB : mB M' D ca (va_A (mW ad ca S μ) H.size) S μ' u t) (hS : va_S A s.heap H1 locs1) : mCf M s A D ca n0 c0 s0 ad0 (S, μ', cx, cy) l ad H1 locs1 ls := by
  have hu := hg.2 hal
  subst hu
  obtain ⟨hP, -, hD, -⟩ := hB
  rw [ht] at hP
  exact ⟨hP, hD.weaken (fun _ q _ hq => mFree hc hf q.1 hq), hS, hf.2.2.2⟩
theorem x_callVi {ci b index n : Nat} {As rest : List Value} {C : String} {T : u_T} {N : Nat} {ty : Nat → FieldType} {o1 : Option β} {ι' : β → mO × mSt} {vx : β → Int32} {μf : β → mMm} {kk : β → Option α} (fc : mFC ci C T N ty) (hm : mMet M' (.ref b :: As) (S, μ, cx, cy) ι' o1) (hι : ∀ a, ι' a = (.inl (some (.int (vx a))), (S, μf a, cx, cy))) (hal : mAl M' = false) (hok : ∀ a, o1 = some a → mok S b ci = true) (hd : decode (mCode M) pc = .ok (.invokevirtual index, 3)) (hl : Cond.methodLink (mOwn M) index (mY M') ∈ wsL_law) (hk : mCalV M' C n) (hn : As.length = n)
    (hroom : mFr M' + 1 ≤ mFr M ∧ 8 + (mMaxL M' + 11) + mLo M' ≤ mLo M) (hst : st = As.reverse ++ .ref b :: rest) (hcat : (rest.map fun v => v.category).sum ≤ 8) (kn : ∀ a, mX M n0 c0 s0 (pc + 3) l (.int (vx a) :: rest) (S, μf a, cx, cy) ι (kk a)) : mX M n0 c0 s0 pc l st (S, μ, cx, cy) ι (o1.bind kk) := by
  intro a ha
  obtain ⟨b1, hb1, hk1⟩ := Option.bind_eq_some_iff.mp ha
  obtain ⟨g1, g2⟩ := hm b1 hb1
  obtain ⟨h1, h2⟩ := kn b1 a hk1
  refine ⟨h1, ?_⟩
  intro p lch e R s m args below meth c A D ca Q ad0 hc ht hr1 hr2 he ad H locs ls hf
  have hM := g2 lch D ca ad H.size hc.2.2.2.2.2.2.2.2.2.2
  rw [hι b1] at hM
  rw [show mCel (S, μf b1, cx, cy) - mCel (S, μ, cx, cy) = 0 from Nat.sub_self _, show mSlo (S, μf b1, cx, cy) - mSlo (S, μ, cx, cy) = 0 from Nat.sub_self _] at hM
  have hM := vx_toMet hM (fun _ _ _ h => h)
  have e1 := h1.2.1
  have e2 := h1.2.2
  have hcl : mCel (S, μ, cx, cy) - c0 ≤ R.cells := by
    have e1 : mCel (S, μ, cx, cy) ≤ mCel (ι a).2 := e1
    omega
  have hsl : mSlo (S, μ, cx, cy) - s0 ≤ R.slots := by
    have e2 : mSlo (S, μ, cx, cy) ≤ mSlo (ι a).2 := e2
    omega
  refine va_calli (mRunV hal fc hc ht.1 hf hcl hsl hM (hok _ hb1) hd hl hk hn hroom hst hcat) hf.2.2.1 (fun q _ h => mFree hc hf q h) (mFree hc hf) (fun r u t H1 locs1 ht1 hvm hw hB hz1 hk1 hS => ?_)
  obtain ⟨rfl, hg⟩ := hw
  exact h2 p lch e R s m args below meth c A D ca Q ad0 hc ht hr1 hr2 he ad H1 locs1 ls (mBack hc hf hal ht1 hg hB hS)
theorem x_callVl {ci b index n : Nat} {As rest : List Value} {C : String} {T : u_T} {N : Nat} {ty : Nat → FieldType} {o1 : Option β} {ι' : β → mO × mSt} {vx : β → Int64} {μf : β → mMm} {kk : β → Option α} (fc : mFC ci C T N ty) (hm : mMet M' (.ref b :: As) (S, μ, cx, cy) ι' o1) (hι : ∀ a, ι' a = (.inl (some (.long (vx a))), (S, μf a, cx, cy))) (hal : mAl M' = false) (hok : ∀ a, o1 = some a → mok S b ci = true) (hd : decode (mCode M) pc = .ok (.invokevirtual index, 3)) (hl : Cond.methodLink (mOwn M) index (mY M') ∈ wsL_law) (hk : mCalV M' C n) (hn : As.length = n)
    (hroom : mFr M' + 1 ≤ mFr M ∧ 8 + (mMaxL M' + 11) + mLo M' ≤ mLo M) (hst : st = As.reverse ++ .ref b :: rest) (hcat : (rest.map fun v => v.category).sum ≤ 8) (kn : ∀ a, mX M n0 c0 s0 (pc + 3) l (.long (vx a) :: rest) (S, μf a, cx, cy) ι (kk a)) : mX M n0 c0 s0 pc l st (S, μ, cx, cy) ι (o1.bind kk) := by
  intro a ha
  obtain ⟨b1, hb1, hk1⟩ := Option.bind_eq_some_iff.mp ha
  obtain ⟨g1, g2⟩ := hm b1 hb1
  obtain ⟨h1, h2⟩ := kn b1 a hk1
  refine ⟨h1, ?_⟩
  intro p lch e R s m args below meth c A D ca Q ad0 hc ht hr1 hr2 he ad H locs ls hf
  have hM := g2 lch D ca ad H.size hc.2.2.2.2.2.2.2.2.2.2
  rw [hι b1] at hM
  rw [show mCel (S, μf b1, cx, cy) - mCel (S, μ, cx, cy) = 0 from Nat.sub_self _, show mSlo (S, μf b1, cx, cy) - mSlo (S, μ, cx, cy) = 0 from Nat.sub_self _] at hM
  have hM := vx_toMet hM (fun _ _ _ h => h)
  have e1 := h1.2.1
  have e2 := h1.2.2
  have hcl : mCel (S, μ, cx, cy) - c0 ≤ R.cells := by
    have e1 : mCel (S, μ, cx, cy) ≤ mCel (ι a).2 := e1
    omega
  have hsl : mSlo (S, μ, cx, cy) - s0 ≤ R.slots := by
    have e2 : mSlo (S, μ, cx, cy) ≤ mSlo (ι a).2 := e2
    omega
  refine va_calll (mRunV hal fc hc ht.1 hf hcl hsl hM (hok _ hb1) hd hl hk hn hroom hst hcat) hf.2.2.1 (fun q _ h => mFree hc hf q h) (mFree hc hf) (fun r u t H1 locs1 ht1 hvm hw hB hz1 hk1 hS => ?_)
  obtain ⟨rfl, hg⟩ := hw
  exact h2 p lch e R s m args below meth c A D ca Q ad0 hc ht hr1 hr2 he ad H1 locs1 ls (mBack hc hf hal ht1 hg hB hS)
theorem x_callVd {ci b index n : Nat} {As rest : List Value} {C : String} {T : u_T} {N : Nat} {ty : Nat → FieldType} {o1 : Option β} {ι' : β → mO × mSt} {vx : β → UInt64} {μf : β → mMm} {kk : β → Option α} (fc : mFC ci C T N ty) (hm : mMet M' (.ref b :: As) (S, μ, cx, cy) ι' o1) (hι : ∀ a, ι' a = (.inl (some (.double (vx a))), (S, μf a, cx, cy))) (hal : mAl M' = false) (hok : ∀ a, o1 = some a → mok S b ci = true) (hd : decode (mCode M) pc = .ok (.invokevirtual index, 3)) (hl : Cond.methodLink (mOwn M) index (mY M') ∈ wsL_law) (hk : mCalV M' C n) (hn : As.length = n)
    (hroom : mFr M' + 1 ≤ mFr M ∧ 8 + (mMaxL M' + 11) + mLo M' ≤ mLo M) (hst : st = As.reverse ++ .ref b :: rest) (hcat : (rest.map fun v => v.category).sum ≤ 8) (kn : ∀ a, mX M n0 c0 s0 (pc + 3) l (.double (vx a) :: rest) (S, μf a, cx, cy) ι (kk a)) : mX M n0 c0 s0 pc l st (S, μ, cx, cy) ι (o1.bind kk) := by
  intro a ha
  obtain ⟨b1, hb1, hk1⟩ := Option.bind_eq_some_iff.mp ha
  obtain ⟨g1, g2⟩ := hm b1 hb1
  obtain ⟨h1, h2⟩ := kn b1 a hk1
  refine ⟨h1, ?_⟩
  intro p lch e R s m args below meth c A D ca Q ad0 hc ht hr1 hr2 he ad H locs ls hf
  have hM := g2 lch D ca ad H.size hc.2.2.2.2.2.2.2.2.2.2
  rw [hι b1] at hM
  rw [show mCel (S, μf b1, cx, cy) - mCel (S, μ, cx, cy) = 0 from Nat.sub_self _, show mSlo (S, μf b1, cx, cy) - mSlo (S, μ, cx, cy) = 0 from Nat.sub_self _] at hM
  have hM := vx_toMet hM (fun _ _ _ h => h)
  have e1 := h1.2.1
  have e2 := h1.2.2
  have hcl : mCel (S, μ, cx, cy) - c0 ≤ R.cells := by
    have e1 : mCel (S, μ, cx, cy) ≤ mCel (ι a).2 := e1
    omega
  have hsl : mSlo (S, μ, cx, cy) - s0 ≤ R.slots := by
    have e2 : mSlo (S, μ, cx, cy) ≤ mSlo (ι a).2 := e2
    omega
  refine va_calld (mRunV hal fc hc ht.1 hf hcl hsl hM (hok _ hb1) hd hl hk hn hroom hst hcat) hf.2.2.1 (fun q _ h => mFree hc hf q h) (mFree hc hf) (fun r u t H1 locs1 ht1 hvm hw hB hz1 hk1 hS => ?_)
  obtain ⟨rfl, hg⟩ := hw
  exact h2 p lch e R s m args below meth c A D ca Q ad0 hc ht hr1 hr2 he ad H1 locs1 ls (mBack hc hf hal ht1 hg hB hS)
theorem x_callVv {ci b index n : Nat} {As rest : List Value} {C : String} {T : u_T} {N : Nat} {ty : Nat → FieldType} {o1 : Option β} {ι' : β → mO × mSt} {μf : β → mMm} {kk : β → Option α} (fc : mFC ci C T N ty) (hm : mMet M' (.ref b :: As) (S, μ, cx, cy) ι' o1) (hι : ∀ a, ι' a = (.inl none, (S, μf a, cx, cy))) (hal : mAl M' = false) (hok : ∀ a, o1 = some a → mok S b ci = true) (hd : decode (mCode M) pc = .ok (.invokevirtual index, 3)) (hl : Cond.methodLink (mOwn M) index (mY M') ∈ wsL_law) (hk : mCalV M' C n) (hn : As.length = n)
    (hroom : mFr M' + 1 ≤ mFr M ∧ 8 + (mMaxL M' + 11) + mLo M' ≤ mLo M) (hst : st = As.reverse ++ .ref b :: rest) (hcat : (rest.map fun v => v.category).sum ≤ 8) (kn : ∀ a, mX M n0 c0 s0 (pc + 3) l (rest) (S, μf a, cx, cy) ι (kk a)) : mX M n0 c0 s0 pc l st (S, μ, cx, cy) ι (o1.bind kk) := by
  intro a ha
  obtain ⟨b1, hb1, hk1⟩ := Option.bind_eq_some_iff.mp ha
  obtain ⟨g1, g2⟩ := hm b1 hb1
  obtain ⟨h1, h2⟩ := kn b1 a hk1
  refine ⟨h1, ?_⟩
  intro p lch e R s m args below meth c A D ca Q ad0 hc ht hr1 hr2 he ad H locs ls hf
  have hM := g2 lch D ca ad H.size hc.2.2.2.2.2.2.2.2.2.2
  rw [hι b1] at hM
  rw [show mCel (S, μf b1, cx, cy) - mCel (S, μ, cx, cy) = 0 from Nat.sub_self _, show mSlo (S, μf b1, cx, cy) - mSlo (S, μ, cx, cy) = 0 from Nat.sub_self _] at hM
  have hM := vx_toMet hM (fun _ _ _ h => h)
  have e1 := h1.2.1
  have e2 := h1.2.2
  have hcl : mCel (S, μ, cx, cy) - c0 ≤ R.cells := by
    have e1 : mCel (S, μ, cx, cy) ≤ mCel (ι a).2 := e1
    omega
  have hsl : mSlo (S, μ, cx, cy) - s0 ≤ R.slots := by
    have e2 : mSlo (S, μ, cx, cy) ≤ mSlo (ι a).2 := e2
    omega
  refine va_callv (mRunV hal fc hc ht.1 hf hcl hsl hM (hok _ hb1) hd hl hk hn hroom hst hcat) hf.2.2.1 (fun q _ h => mFree hc hf q h) (mFree hc hf) (fun u t H1 locs1 ht1 hvm hw hB hz1 hk1 hS => ?_)
  exact h2 p lch e R s m args below meth c A D ca Q ad0 hc ht hr1 hr2 he ad H1 locs1 ls (mBack hc hf hal ht1 hw hB hS)
theorem x_callSi {index n : Nat} {As rest : List Value} {o1 : Option β} {ι' : β → mO × mSt} {vx : β → Int32} {μf : β → mMm} {kk : β → Option α} (hm : mMet M' As (S, μ, cx, cy) ι' o1) (hι : ∀ a, ι' a = (.inl (some (.int (vx a))), (S, μf a, cx, cy))) (hal : mAl M' = false) (hd : decode (mCode M) pc = .ok (.invokestatic index, 3)) (hl : Cond.methodLink (mOwn M) index (mY M') ∈ wsL_law) (hk : mCalS M' n) (hn : As.length = n)
    (hroom : mFr M' + 1 ≤ mFr M ∧ 8 + (mMaxL M' + 11) + mLo M' ≤ mLo M) (hst : st = As.reverse ++ rest) (hcat : (rest.map fun v => v.category).sum ≤ 8) (kn : ∀ a, mX M n0 c0 s0 (pc + 3) l (.int (vx a) :: rest) (S, μf a, cx, cy) ι (kk a)) : mX M n0 c0 s0 pc l st (S, μ, cx, cy) ι (o1.bind kk) := by
  intro a ha
  obtain ⟨b1, hb1, hk1⟩ := Option.bind_eq_some_iff.mp ha
  obtain ⟨g1, g2⟩ := hm b1 hb1
  obtain ⟨h1, h2⟩ := kn b1 a hk1
  refine ⟨h1, ?_⟩
  intro p lch e R s m args below meth c A D ca Q ad0 hc ht hr1 hr2 he ad H locs ls hf
  have hM := g2 lch D ca ad H.size hc.2.2.2.2.2.2.2.2.2.2
  rw [hι b1] at hM
  rw [show mCel (S, μf b1, cx, cy) - mCel (S, μ, cx, cy) = 0 from Nat.sub_self _, show mSlo (S, μf b1, cx, cy) - mSlo (S, μ, cx, cy) = 0 from Nat.sub_self _] at hM
  have hM := vx_toMet hM (fun _ _ _ h => h)
  have e1 := h1.2.1
  have e2 := h1.2.2
  have hcl : mCel (S, μ, cx, cy) - c0 ≤ R.cells := by
    have e1 : mCel (S, μ, cx, cy) ≤ mCel (ι a).2 := e1
    omega
  have hsl : mSlo (S, μ, cx, cy) - s0 ≤ R.slots := by
    have e2 : mSlo (S, μ, cx, cy) ≤ mSlo (ι a).2 := e2
    omega
  refine va_calli (mRunS hal hc ht.1 hf hcl hsl hM hd hl hk hn hroom hst hcat) hf.2.2.1 (fun q _ h => mFree hc hf q h) (mFree hc hf) (fun r u t H1 locs1 ht1 hvm hw hB hz1 hk1 hS => ?_)
  obtain ⟨rfl, hg⟩ := hw
  exact h2 p lch e R s m args below meth c A D ca Q ad0 hc ht hr1 hr2 he ad H1 locs1 ls (mBack hc hf hal ht1 hg hB hS)
theorem x_callSl {index n : Nat} {As rest : List Value} {o1 : Option β} {ι' : β → mO × mSt} {vx : β → Int64} {μf : β → mMm} {kk : β → Option α} (hm : mMet M' As (S, μ, cx, cy) ι' o1) (hι : ∀ a, ι' a = (.inl (some (.long (vx a))), (S, μf a, cx, cy))) (hal : mAl M' = false) (hd : decode (mCode M) pc = .ok (.invokestatic index, 3)) (hl : Cond.methodLink (mOwn M) index (mY M') ∈ wsL_law) (hk : mCalS M' n) (hn : As.length = n)
    (hroom : mFr M' + 1 ≤ mFr M ∧ 8 + (mMaxL M' + 11) + mLo M' ≤ mLo M) (hst : st = As.reverse ++ rest) (hcat : (rest.map fun v => v.category).sum ≤ 8) (kn : ∀ a, mX M n0 c0 s0 (pc + 3) l (.long (vx a) :: rest) (S, μf a, cx, cy) ι (kk a)) : mX M n0 c0 s0 pc l st (S, μ, cx, cy) ι (o1.bind kk) := by
  intro a ha
  obtain ⟨b1, hb1, hk1⟩ := Option.bind_eq_some_iff.mp ha
  obtain ⟨g1, g2⟩ := hm b1 hb1
  obtain ⟨h1, h2⟩ := kn b1 a hk1
  refine ⟨h1, ?_⟩
  intro p lch e R s m args below meth c A D ca Q ad0 hc ht hr1 hr2 he ad H locs ls hf
  have hM := g2 lch D ca ad H.size hc.2.2.2.2.2.2.2.2.2.2
  rw [hι b1] at hM
  rw [show mCel (S, μf b1, cx, cy) - mCel (S, μ, cx, cy) = 0 from Nat.sub_self _, show mSlo (S, μf b1, cx, cy) - mSlo (S, μ, cx, cy) = 0 from Nat.sub_self _] at hM
  have hM := vx_toMet hM (fun _ _ _ h => h)
  have e1 := h1.2.1
  have e2 := h1.2.2
  have hcl : mCel (S, μ, cx, cy) - c0 ≤ R.cells := by
    have e1 : mCel (S, μ, cx, cy) ≤ mCel (ι a).2 := e1
    omega
  have hsl : mSlo (S, μ, cx, cy) - s0 ≤ R.slots := by
    have e2 : mSlo (S, μ, cx, cy) ≤ mSlo (ι a).2 := e2
    omega
  refine va_calll (mRunS hal hc ht.1 hf hcl hsl hM hd hl hk hn hroom hst hcat) hf.2.2.1 (fun q _ h => mFree hc hf q h) (mFree hc hf) (fun r u t H1 locs1 ht1 hvm hw hB hz1 hk1 hS => ?_)
  obtain ⟨rfl, hg⟩ := hw
  exact h2 p lch e R s m args below meth c A D ca Q ad0 hc ht hr1 hr2 he ad H1 locs1 ls (mBack hc hf hal ht1 hg hB hS)
theorem x_callSd {index n : Nat} {As rest : List Value} {o1 : Option β} {ι' : β → mO × mSt} {vx : β → UInt64} {μf : β → mMm} {kk : β → Option α} (hm : mMet M' As (S, μ, cx, cy) ι' o1) (hι : ∀ a, ι' a = (.inl (some (.double (vx a))), (S, μf a, cx, cy))) (hal : mAl M' = false) (hd : decode (mCode M) pc = .ok (.invokestatic index, 3)) (hl : Cond.methodLink (mOwn M) index (mY M') ∈ wsL_law) (hk : mCalS M' n) (hn : As.length = n)
    (hroom : mFr M' + 1 ≤ mFr M ∧ 8 + (mMaxL M' + 11) + mLo M' ≤ mLo M) (hst : st = As.reverse ++ rest) (hcat : (rest.map fun v => v.category).sum ≤ 8) (kn : ∀ a, mX M n0 c0 s0 (pc + 3) l (.double (vx a) :: rest) (S, μf a, cx, cy) ι (kk a)) : mX M n0 c0 s0 pc l st (S, μ, cx, cy) ι (o1.bind kk) := by
  intro a ha
  obtain ⟨b1, hb1, hk1⟩ := Option.bind_eq_some_iff.mp ha
  obtain ⟨g1, g2⟩ := hm b1 hb1
  obtain ⟨h1, h2⟩ := kn b1 a hk1
  refine ⟨h1, ?_⟩
  intro p lch e R s m args below meth c A D ca Q ad0 hc ht hr1 hr2 he ad H locs ls hf
  have hM := g2 lch D ca ad H.size hc.2.2.2.2.2.2.2.2.2.2
  rw [hι b1] at hM
  rw [show mCel (S, μf b1, cx, cy) - mCel (S, μ, cx, cy) = 0 from Nat.sub_self _, show mSlo (S, μf b1, cx, cy) - mSlo (S, μ, cx, cy) = 0 from Nat.sub_self _] at hM
  have hM := vx_toMet hM (fun _ _ _ h => h)
  have e1 := h1.2.1
  have e2 := h1.2.2
  have hcl : mCel (S, μ, cx, cy) - c0 ≤ R.cells := by
    have e1 : mCel (S, μ, cx, cy) ≤ mCel (ι a).2 := e1
    omega
  have hsl : mSlo (S, μ, cx, cy) - s0 ≤ R.slots := by
    have e2 : mSlo (S, μ, cx, cy) ≤ mSlo (ι a).2 := e2
    omega
  refine va_calld (mRunS hal hc ht.1 hf hcl hsl hM hd hl hk hn hroom hst hcat) hf.2.2.1 (fun q _ h => mFree hc hf q h) (mFree hc hf) (fun r u t H1 locs1 ht1 hvm hw hB hz1 hk1 hS => ?_)
  obtain ⟨rfl, hg⟩ := hw
  exact h2 p lch e R s m args below meth c A D ca Q ad0 hc ht hr1 hr2 he ad H1 locs1 ls (mBack hc hf hal ht1 hg hB hS)
theorem x_callSv {index n : Nat} {As rest : List Value} {o1 : Option β} {ι' : β → mO × mSt} {μf : β → mMm} {kk : β → Option α} (hm : mMet M' As (S, μ, cx, cy) ι' o1) (hι : ∀ a, ι' a = (.inl none, (S, μf a, cx, cy))) (hal : mAl M' = false) (hd : decode (mCode M) pc = .ok (.invokestatic index, 3)) (hl : Cond.methodLink (mOwn M) index (mY M') ∈ wsL_law) (hk : mCalS M' n) (hn : As.length = n)
    (hroom : mFr M' + 1 ≤ mFr M ∧ 8 + (mMaxL M' + 11) + mLo M' ≤ mLo M) (hst : st = As.reverse ++ rest) (hcat : (rest.map fun v => v.category).sum ≤ 8) (kn : ∀ a, mX M n0 c0 s0 (pc + 3) l (rest) (S, μf a, cx, cy) ι (kk a)) : mX M n0 c0 s0 pc l st (S, μ, cx, cy) ι (o1.bind kk) := by
  intro a ha
  obtain ⟨b1, hb1, hk1⟩ := Option.bind_eq_some_iff.mp ha
  obtain ⟨g1, g2⟩ := hm b1 hb1
  obtain ⟨h1, h2⟩ := kn b1 a hk1
  refine ⟨h1, ?_⟩
  intro p lch e R s m args below meth c A D ca Q ad0 hc ht hr1 hr2 he ad H locs ls hf
  have hM := g2 lch D ca ad H.size hc.2.2.2.2.2.2.2.2.2.2
  rw [hι b1] at hM
  rw [show mCel (S, μf b1, cx, cy) - mCel (S, μ, cx, cy) = 0 from Nat.sub_self _, show mSlo (S, μf b1, cx, cy) - mSlo (S, μ, cx, cy) = 0 from Nat.sub_self _] at hM
  have hM := vx_toMet hM (fun _ _ _ h => h)
  have e1 := h1.2.1
  have e2 := h1.2.2
  have hcl : mCel (S, μ, cx, cy) - c0 ≤ R.cells := by
    have e1 : mCel (S, μ, cx, cy) ≤ mCel (ι a).2 := e1
    omega
  have hsl : mSlo (S, μ, cx, cy) - s0 ≤ R.slots := by
    have e2 : mSlo (S, μ, cx, cy) ≤ mSlo (ι a).2 := e2
    omega
  refine va_callv (mRunS hal hc ht.1 hf hcl hsl hM hd hl hk hn hroom hst hcat) hf.2.2.1 (fun q _ h => mFree hc hf q h) (mFree hc hf) (fun u t H1 locs1 ht1 hvm hw hB hz1 hk1 hS => ?_)
  exact h2 p lch e R s m args below meth c A D ca Q ad0 hc ht hr1 hr2 he ad H1 locs1 ls (mBack hc hf hal ht1 hw hB hS)
/-- Math.min -/
def mMin (x y : Int32) : Int32 := if y < x then y else x
theorem x_min {x y : Int32} {index : Nat} {σ : mSt} (hd : decode (mCode M) pc = .ok (.invokestatic index, 3)) (hl : Cond.methodLink (mOwn M) index Lib.Math.min.name ∈ wsL_law) (h1 : Cond.static Lib.Math.min.name ∈ wsL_law) (h2 : Cond.initialized "java/lang/Math" ∈ wsL_law) (h3 : Cond.code Lib.Math.min.name Lib.Math.min.code 2 (some .int) ∈ wsL_law)
    (hroom : 1 ≤ mFr M ∧ 21 ≤ mLo M) (hcat : (st.map fun v => v.category).sum ≤ 8) (k : mX M n0 c0 s0 (pc + 3) l (.int (mMin x y) :: st) σ ι o) : mX M n0 c0 s0 pc l (.int y :: .int x :: st) σ ι o :=
  mX.step (fun _ _ _ R _ _ _ _ _ _ _ _ _ _ _ _ _ _ ls ad hc hcl hsl hl9 w => by
    have hF1 := hc.2.2.2.2.2.2.2.2.1
    have hF2 := hc.2.2.2.2.2.2.2.2.2.1
    have hcat' := mCat (ad := ad) st hcat
    have hts := hc.2.2.2.2.1
    exact va_mmin hc.1 hc.2.1 (hc.2.2.1.trans hl9.1.symm) hc.2.2.2.1 (hts _ hl) (hts _ h1) (hts _ h2) (hts _ h3) (by omega) (by omega) hcl hsl hd w) k
theorem x_rawbits {x : UInt64} {index : Nat} {σ : mSt} (hd : decode (mCode M) pc = .ok (.invokestatic index, 3)) (hl : Cond.methodLink (mOwn M) index ⟨"java/lang/Double", "doubleToRawLongBits", "(D)J"⟩ ∈ wsL_law) (h1 : Cond.native ⟨"java/lang/Double", "doubleToRawLongBits", "(D)J"⟩ ∈ wsL_law) (h2 : Cond.static ⟨"java/lang/Double", "doubleToRawLongBits", "(D)J"⟩ ∈ wsL_law) (h3 : Cond.initialized "java/lang/Double" ∈ wsL_law)
    (hroom : 1 ≤ mFr M ∧ 23 ≤ mLo M) (hcat : (st.map fun v => v.category).sum ≤ 8) (k : mX M n0 c0 s0 (pc + 3) l (.long x.toInt64 :: st) σ ι o) : mX M n0 c0 s0 pc l (.double x :: st) σ ι o :=
  mX.step (fun _ _ _ R _ _ _ _ _ _ _ _ _ _ _ _ _ _ ls ad hc hcl hsl hl9 w => by
    have hF1 := hc.2.2.2.2.2.2.2.2.1
    have hF2 := hc.2.2.2.2.2.2.2.2.2.1
    have hcat' := mCat (ad := ad) st hcat
    have hts := hc.2.2.2.2.1
    exact vn_d2l hc.1 hc.2.1 (hc.2.2.1.trans hl9.1.symm) hc.2.2.2.1 (hts _ hl) (hts _ h1) (hts _ h2) (hts _ h3) (by omega) (by omega) hd w) k
end MCALL
end
section
/-! making objects and arrays, references written, constructors called -/
def zI (f : Nat → Nat → Int32) (n : Nat) : Nat → Nat → Int32 := fun a b => if a = n then 0 else f a b
def zL (f : Nat → Nat → Int64) (n : Nat) : Nat → Nat → Int64 := fun a b => if a = n then 0 else f a b
/-- the shape with one object more -/
def nSh (S : mSh) (c len t : Nat) : mSh := ((mN S + 1, mTot S + t), (fun i => if i = mN S then c else mKd S i), (fun i => if i = mN S then len else mLn S i), (fun i k => if i = mN S then none else mRf S i k))
def nMm (S : mSh) (μ : mMm) : mMm := (zI μ.1 (mN S), zL μ.2 (mN S))
/-- the shape with one reference written -/
def rSh (S : mSh) (q k r : Nat) : mSh := (S.1, S.2.1, S.2.2.1, u2 (mRf S) q k (some r))
/-- the references at hand are objects' numbers -/
def mvk1 (S : mSh) : Value → Bool
  | .ref r => decide (r < mN S ∨ 1000 ≤ r)
  | _ => true
def mvkO (S : mSh) : Option Value → Bool
  | some v => mvk1 S v
  | none => true
def mvk (S : mSh) (l : List (Option Value)) (st : List Value) : Bool := l.all (mvkO S) && st.all (mvk1 S)
def mAd (ad : Nat → Nat) (n q : Nat) : Nat → Nat := fun i => if i = n then q else ad i
theorem mv_ag {S : mSh} {ad u : Nat → Nat} {v : Value} (h : ∀ i, (i < mN S ∨ 1000 ≤ i) → u i = ad i) (hv : mvk1 S v = true) : mv u v = mv ad v := by
  cases v <;> try rfl
  rename_i r
  simp only [mvk1, decide_eq_true_eq] at hv
  simp only [mv, h r hv]
theorem mH_ag {S : mSh} {ad u : Nat → Nat} {ls : Array Slot} {nL : Nat} {l : List (Option Value)} (h : ∀ i, (i < mN S ∨ 1000 ≤ i) → u i = ad i) (hv : l.all (mvkO S) = true) (hl : mH ls nL ad l) : mH ls nL u l := by
  refine ⟨hl.1, hl.2.1, fun i v hi => ?_⟩
  have h1 := List.all_eq_true.mp hv _ (List.mem_of_getElem? hi)
  rw [mv_ag h h1]
  exact hl.2.2 i v hi
theorem mst_ag {S : mSh} {ad u : Nat → Nat} {st : List Value} (h : ∀ i, (i < mN S ∨ 1000 ≤ i) → u i = ad i) (hv : st.all (mvk1 S) = true) : st.map (mv u) = st.map (mv ad) :=
  List.map_congr_left (fun v hm => mv_ag h (List.all_eq_true.mp hv _ hm))
theorem mvk_l {S : mSh} {l : List (Option Value)} {st : List Value} (h : mvk S l st = true) : l.all (mvkO S) = true := by simp only [mvk, Bool.and_eq_true] at h; exact h.1
theorem mvk_s {S : mSh} {l : List (Option Value)} {st : List Value} (h : mvk S l st = true) : st.all (mvk1 S) = true := by simp only [mvk, Bool.and_eq_true] at h; exact h.2
theorem mAd_ag {S : mSh} {ad : Nat → Nat} {q : Nat} (hn : mN S < 1000) : ∀ i, (i < mN S ∨ 1000 ≤ i) → mAd ad (mN S) q i = ad i := fun i hi => if_neg (by omega)
theorem mRf_ag {S : mSh} {ad u : Nat → Nat} (hR : mRk S) (h : ∀ i, i < mN S → u i = ad i) (i k : Nat) : (mRf S i k).map u = (mRf S i k).map ad := by
  cases hr : mRf S i k with
  | none => rfl
  | some r => simp only [Option.map_some, h r (hR i k r hr)]
theorem mE_ag {S S' : mSh} {μ μ' : mMm} {ad u : Nat → Nat} {ca : Nat → ClassId} {i : Nat} (hR : mRk S) (h : ∀ r, r < mN S → u r = ad r) (h1 : mKd S' i = mKd S i) (h2 : mLn S' i = mLn S i) (h3 : ∀ k, mRf S' i k = mRf S i k) (h4 : μ'.1 i = μ.1 i) (h5 : μ'.2 i = μ.2 i) : mE u ca S' μ' i = mE ad ca S μ i := by
  have h6 : ∀ k, (mRf S' i k).map u = (mRf S i k).map ad := fun k => by rw [h3, mRf_ag hR h]
  simp only [mE, mFs, mVal, h1, h2, h4, h5, h6]
theorem mW_new {S : mSh} {μ : mMm} {ad : Nat → Nat} {ca : Nat → ClassId} {c len t q : Nat} (hR : mRk S) (hn : mN S < 1000) : mW (mAd ad (mN S) q) ca (nSh S c len t) (nMm S μ) = mW ad ca S μ ++ [(q, mE (mAd ad (mN S) q) ca (nSh S c len t) (nMm S μ) (mN S))] := by
  show (List.range (mN S + 1)).map _ = _
  rw [List.range_succ, List.map_append]
  congr 1
  · refine List.map_congr_left (fun i hi => ?_)
    have hi := List.mem_range.mp hi
    have hne : i ≠ mN S := Nat.ne_of_lt hi
    rw [mAd_ag hn i (Or.inl hi), mE_ag hR (fun r hr => mAd_ag hn r (Or.inl hr)) (S := S) (μ := μ) (ad := ad)]
    · exact if_neg hne
    · exact if_neg hne
    · exact fun k => if_neg hne
    · funext b; exact if_neg hne
    · funext b; exact if_neg hne
  · show [(mAd ad (mN S) q (mN S), _)] = _
    rw [show mAd ad (mN S) q (mN S) = q from if_pos rfl]
theorem mRk_new {S : mSh} {c len t : Nat} (hR : mRk S) : mRk (nSh S c len t) := by
  intro i k r h
  have h : (if i = mN S then none else mRf S i k) = some r := h
  by_cases hi : i = mN S
  · rw [if_pos hi] at h; cases h
  · rw [if_neg hi] at h
    exact Nat.lt_succ_of_lt (hR i k r h)
theorem mRk_r {S : mSh} {q k r : Nat} (hR : mRk S) (hr : r < mN S) : mRk (rSh S q k r) := by
  intro i j x h
  have h : u2 (mRf S) q k (some r) i j = some x := h
  by_cases h1 : i = q ∧ j = k
  · obtain ⟨rfl, rfl⟩ := h1
    rw [u2_same] at h
    cases h
    exact hr
  · rw [u2_other (by omega)] at h
    exact hR i j x h
theorem mE_r {S S' : mSh} {μ : mMm} {ad : Nat → Nat} {ca : Nat → ClassId} {i : Nat} (h1 : mKd S' i = mKd S i) (h2 : mLn S' i = mLn S i) (h3 : ∀ k, mRf S' i k = mRf S i k) : mE ad ca S' μ i = mE ad ca S μ i := by
  simp only [mE, mFs, mVal, h1, h2, h3]
def mDf : Nat → Value
  | 0 => .int 0
  | 1 => .long 0
  | _ => .null
theorem mFs_new {S : mSh} {μ : mMm} {u : Nat → Nat} {c len t : Nat} : mFs u (nSh S c len t) (nMm S μ) (mN S) = (mFt c).map mDf := by
  have hk : mKd (nSh S c len t) (mN S) = c := if_pos rfl
  unfold mFs
  rw [hk]
  apply List.ext_getElem?
  intro j
  rw [List.getElem?_map, List.getElem?_map]
  by_cases hj : j < (mFt c).length
  · rw [List.getElem?_range hj]
    rw [List.getElem?_eq_getElem hj]
    show some (mVal _ _ _ ((mFt c).getD j 0) _ _) = some (mDf _)
    rw [List.getD_eq_getElem?_getD, List.getElem?_eq_getElem hj]
    show some (mVal _ _ _ (mFt c)[j] _ _) = some (mDf _)
    generalize (mFt c)[j] = x
    match x with
    | 0 => exact congrArg some (congrArg Value.int (if_pos rfl))
    | 1 => exact congrArg some (congrArg Value.long (if_pos rfl))
    | x + 2 =>
      show some (va_rf ((mRf (nSh S c len t) (mN S) j).map u)) = some .null
      rw [show mRf (nSh S c len t) (mN S) j = none from if_pos rfl]
      rfl
  · rw [List.getElem?_eq_none (by simpa using hj), List.getElem?_eq_none (by omega)]
    rfl
section MALLOC
variable {M M' : mM} {n0 c0 s0 : Nat} {pc : Nat} {l : List (Option Value)} {st : List Value} {S : mSh} {μ : mMm} {cx cy : Nat} {α β : Type} {ι : α → mO × mSt} {o : Option α}
/-- one object more: what a row that makes it owes -/
theorem mX.mk {pc' c len t : Nat} {st' : List Value} (hal : mAl M = true) (h : ∀ (p : Program) (lch : Launch) (e : Env) (R : Room) (s : State) (m : MethodId) (args : Array Value) (below : List Frame) (meth : Method) (cd : Code) (A : Nat → Prop) (D : va_G) (ca : Nat → ClassId) (Q : State → Prop) (H : Heap) (locs : List Loc) (cells slots : Nat) (ls : Array Slot) (ad : Nat → Nat), mCx M p lch e R s m args below meth cd A D ca → mTF A s s.heap → va_P D vwCl (mW ad ca S μ) H → va_D A (mW ad ca S μ) → va_S A s.heap H locs → cells + 1 ≤ R.cells → slots + t ≤ R.slots →
      (∀ (q : Nat) (H1 : Heap), va_P D vwCl (mW ad ca S μ ++ [(q, mE (mAd ad (mN S) q) ca (nSh S c len t) (nMm S μ) (mN S))]) H1 → va_D A (mW ad ca S μ ++ [(q, mE (mAd ad (mN S) q) ca (nSh S c len t) (nMm S μ) (mN S))]) → va_S A s.heap H1 locs → W p lch e R s m args below meth cd H1 locs (cells + 1) (slots + t) Q (F0 m pc' ls (.ref q :: st'.map (mv ad)))) → W p lch e R s m args below meth cd H locs cells slots Q (F0 m pc ls (st.map (mv ad))))
    (k : mX M n0 c0 s0 pc' l (.ref (mN S) :: st') (nSh S c len t, nMm S μ, cx, cy) ι o) : mX M n0 c0 s0 pc l st (S, μ, cx, cy) ι (if mvk S l st' = true ∧ mN S < 1000 then o else none) := by
  refine mX.ck (fun hv => ?_)
  obtain ⟨hv, hn⟩ := hv
  intro a ha
  obtain ⟨h1, h2⟩ := k a ha
  have g1 : mN S + 1 ≤ mN (ι a).2.1 := h1.1
  have g2 : mN S + 1 + cx ≤ mCel (ι a).2 := h1.2.1
  have g3 : mTot S + t + cy ≤ mSlo (ι a).2 := h1.2.2
  refine ⟨⟨by show mN S ≤ _; omega, by show mN S + cx ≤ _; omega, by show mTot S + cy ≤ _; omega⟩, ?_⟩
  intro p lch e R s m args below meth cd A D ca Q ad0 hc ht hr1 hr2 he ad H locs ls hf
  have f7 : n0 ≤ mN S := hf.2.2.2.2.2.2.1.1
  have f8 : c0 ≤ mN S + cx := hf.2.2.2.2.2.2.2.1
  have f9 : s0 ≤ mTot S + cy := hf.2.2.2.2.2.2.2.2
  have hR : mRk S := hf.2.2.2.2.2.2.1.2 hal
  refine h p lch e R s m args below meth cd A D ca Q H locs _ _ ls ad hc ht.1 hf.1 hf.2.1 hf.2.2.1 (by show mN S + cx - c0 + 1 ≤ _; omega) (by show mTot S + cy - s0 + t ≤ _; omega) (fun q H1 hP1 hD1 hS1 => ?_)
  rw [← mW_new hR hn] at hP1 hD1
  have w := h2 p lch e R s m args below meth cd A D ca Q ad0 hc ht hr1 hr2 he (mAd ad (mN S) q) H1 locs ls ⟨hP1, hD1, hS1, mH_ag (mAd_ag hn) (mvk_l hv) hf.2.2.2.1, fun i hi => (mAd_ag hn i (by omega)).trans (hf.2.2.2.2.1 i hi), fun hz => absurd (hal.symm.trans hz) (by decide), ⟨Nat.le_succ_of_le f7, fun _ => mRk_new hR⟩, by show c0 ≤ mN S + 1 + cx; omega, by show s0 ≤ mTot S + t + cy; omega⟩
  rw [List.map_cons, mst_ag (mAd_ag hn) (mvk_s hv), show mv (mAd ad (mN S) q) (.ref (mN S)) = .ref q from congrArg Value.ref (if_pos rfl)] at w
  rw [show mCel (S, μ, cx, cy) - c0 + 1 = mCel (nSh S c len t, nMm S μ, cx, cy) - c0 by show mN S + cx - c0 + 1 = mN S + 1 + cx - c0; omega, show mSlo (S, μ, cx, cy) - s0 + t = mSlo (nSh S c len t, nMm S μ, cx, cy) - s0 by show mTot S + cy - s0 + t = mTot S + t + cy - s0; omega]
  exact w
theorem x_new {c index : Nat} {C : String} {T : u_T} {N : Nat} {ty : Nat → FieldType} (fc : mFC c C T N ty) (hal : mAl M = true) (hd : decode (mCode M) pc = .ok (.new index, 3)) (hcl : Cond.classLink (mOwn M) index C ∈ wsL_law) (hin : Cond.instantiable C N ∈ wsL_law) (hini : Cond.initialized C ∈ wsL_law) (hdf : ∀ j, j < N → defaultValue (ty j) = mDf ((mFt c).getD j 0))
    (k : mX M n0 c0 s0 (pc + 3) l (.ref (mN S) :: st) (nSh S c 0 N, nMm S μ, cx, cy) ι o) : mX M n0 c0 s0 pc l st (S, μ, cx, cy) ι (if mvk S l st = true ∧ mN S < 1000 then o else none) := by
  refine mX.mk hal ?_ k
  intro p lch e R s m args below meth cd A D ca Q H locs cells slots ls ad hc hT hP hD hS h1 h2 kk
  refine va_new (fs := (mFt c).map mDf) hc.1 hc.2.1 hc.2.2.2.2.1 fc.2.1 ty fc.2.2.2.2.1 hc.2.2.2.1 (hc.2.2.2.2.1 _ hcl) (hc.2.2.2.2.1 _ hin) (hc.2.2.2.2.1 _ hini) hc.2.2.2.2.2.2.1 hP hD hS hc.2.2.2.2.2.2.2.1 fc.1 ?_ h1 h2 hd (fun q H1 hP1 hD1 hS1 => ?_)
  · intro j hj
    rw [hdf j hj]
    unfold vp_V
    rw [List.getD_eq_getElem?_getD, List.getD_eq_getElem?_getD, List.getElem?_map]
    have : j < (mFt c).length := by rw [fc.2.2.1]; exact hj
    rw [List.getElem?_eq_getElem this]
    rfl
  · have e : mE (mAd ad (mN S) q) ca (nSh S c 0 N) (nMm S μ) (mN S) = .inr (c, (mFt c).map mDf) := by
      rw [mE_obj (c := c) (if_pos rfl) fc.2.2.2.1, mFs_new]
    exact kk q H1 (by rw [e]; exact hP1) (by rw [e]; exact hD1) hS1
theorem mTyU {D : va_G} {ca : Nat → ClassId} {s : State} {cA : ClassId} {ty : FieldType} {i j : Nat} (hK : va_K D vwCl (mTy ca ++ [(cA, ty)]) s) (hi : (mTy ca)[i]? = some (ca j, ty)) : cA = ca j := by
  have h1 := (hK.2 i (ca j, ty) (by rw [List.getElem?_append_left (List.getElem?_eq_some_iff.mp hi).1]; exact hi)).2
  have h2 := (hK.2 2 (cA, ty) (by rfl)).2
  have key : ∃ nm, s.vm.findClass nm = some cA ∧ s.vm.findClass nm = some (ca j) := by
    cases ty with
    | object C =>
      obtain ⟨_, _, _, _, _, a1⟩ := h1
      obtain ⟨_, _, _, _, _, a2⟩ := h2
      exact ⟨_, a2, a1⟩
    | _ => exact ⟨_, h2, h1⟩
  obtain ⟨nm, a1, a2⟩ := key
  exact Option.some.inj (a1.symm.trans a2)
theorem x_newI {n : Int32} {N' : Nat} (hal : mAl M = true) (hd : decode (mCode M) pc = .ok (.newarray .int, 2)) (hw : Cond.arrayClass .int ∈ wsL_law) (hn : ¬ n < 0) (hN : n.toNatClampNeg = N') (hb : N' * componentBytes .int ≤ 536870912)
    (k : mX M n0 c0 s0 (pc + 2) l (.ref (mN S) :: st) (nSh S 12 N' N', nMm S μ, cx, cy) ι o) : mX M n0 c0 s0 pc l (.int n :: st) (S, μ, cx, cy) ι (if mvk S l st = true ∧ mN S < 1000 then o else none) := by
  refine mX.mk hal ?_ k
  intro p lch e R s m args below meth cd A D ca Q H locs cells slots ls ad hc hT hP hD hS h1 h2 kk
  refine va_newa (atype := .int) (ty := .int) (a0 := (N', .inl (fun _ => 0))) hc.1 hc.2.1 (hc.2.2.2.2.1 _ hw) rfl hc.2.2.2.2.2.2.1 hP hD hS hc.2.2.2.2.2.2.2.1 (fun cA => vp_cell_i cA N' _) hn hN hb h1 h2 hd (fun q cA H1 hK1 hP1 hD1 hS1 => ?_)
  have hca : cA = ca 0 := mTyU (i := 0) (j := 0) hK1 rfl
  subst hca
  have e : mE (mAd ad (mN S) q) ca (nSh S 12 N' N') (nMm S μ) (mN S) = .inl (ca 0, N', .inl (fun _ => 0)) := by
    rw [mE_12 (if_pos rfl), show mLn (nSh S 12 N' N') (mN S) = N' from if_pos rfl, show (nMm S μ).1 (mN S) = fun _ => 0 from funext (fun b => if_pos rfl)]
  exact kk q H1 (by rw [e]; exact hP1) (by rw [e]; exact hD1) hS1
theorem x_newR {index : Nat} {n : Int32} {N' : Nat} (hal : mAl M = true) (hd : decode (mCode M) pc = .ok (.anewarray index, 3)) (hw : Cond.classLink (mOwn M) index RX7 ∈ wsL_law) (hn : ¬ n < 0) (hN : n.toNatClampNeg = N') (hb : N' * 4 ≤ 536870912)
    (k : mX M n0 c0 s0 (pc + 3) l (.ref (mN S) :: st) (nSh S 15 N' N', nMm S μ, cx, cy) ι o) : mX M n0 c0 s0 pc l (.int n :: st) (S, μ, cx, cy) ι (if mvk S l st = true ∧ mN S < 1000 then o else none) := by
  refine mX.mk hal ?_ k
  intro p lch e R s m args below meth cd A D ca Q H locs cells slots ls ad hc hT hP hD hS h1 h2 kk
  refine va_newq hc.1 hc.2.1 hc.2.2.2.1 (hc.2.2.2.2.1 _ hw) hT.2.2.2.2.2.2.2.1 hc.2.2.2.2.2.2.1 hP hD hS hc.2.2.2.2.2.2.2.1 hn hN hb h1 h2 hd (fun q cA H1 hK1 hP1 hD1 hS1 => ?_)
  have hca : cA = ca 3 := mTyU (i := 1) (j := 3) hK1 rfl
  subst hca
  have e : mE (mAd ad (mN S) q) ca (nSh S 15 N' N') (nMm S μ) (mN S) = .inl (ca 3, N', .inr (.inr (.inr (.inr (fun _ => none))))) := by
    rw [mE_15 (if_pos rfl), show mLn (nSh S 15 N' N') (mN S) = N' from if_pos rfl, show (fun j => (mRf (nSh S 15 N' N') (mN S) j).map (mAd ad (mN S) q)) = fun _ => none from funext (fun b => by rw [show mRf (nSh S 15 N' N') (mN S) b = none from if_pos rfl]; rfl)]
  exact kk q H1 (by rw [e]; exact hP1) (by rw [e]; exact hD1) hS1
/-- a row that writes a reference -/
theorem mX.wrR {pc' q k r : Nat} {st' : List Value} {P : Prop} [dP : Decidable P] (hr : P → r < mN S) (h : P → ∀ (p : Program) (lch : Launch) (e : Env) (R : Room) (s : State) (m : MethodId) (args : Array Value) (below : List Frame) (meth : Method) (c : Code) (A : Nat → Prop) (D : va_G) (ca : Nat → ClassId) (Q : State → Prop) (H : Heap) (locs : List Loc) (cells slots : Nat) (ls : Array Slot) (ad : Nat → Nat), mCx M p lch e R s m args below meth c A D ca → va_P D vwCl (mW ad ca S μ) H → va_D A (mW ad ca S μ) → va_S A s.heap H locs → (∀ (H1 : Heap) (locs1 : List Loc), va_P D vwCl (mW ad ca (rSh S q k r) μ) H1 → va_D A (mW ad ca (rSh S q k r) μ) → va_S A s.heap H1 locs1 → W p lch e R s m args below meth c H1 locs1 cells slots Q (F0 m pc' ls (st'.map (mv ad)))) → W p lch e R s m args below meth c H locs cells slots Q (F0 m pc ls (st.map (mv ad))))
    (kk : mX M n0 c0 s0 pc' l st' (rSh S q k r, μ, cx, cy) ι o) : mX M n0 c0 s0 pc l st (S, μ, cx, cy) ι (if P then o else none) := by
  refine mX.ck (fun hp => ?_)
  intro a ha
  obtain ⟨h1, h2⟩ := kk a ha
  refine ⟨h1, ?_⟩
  intro p lch e R s m args below meth c A D ca Q ad0 hc ht hr1 hr2 he ad H locs ls hf
  exact h hp p lch e R s m args below meth c A D ca Q H locs _ _ ls ad hc hf.1 hf.2.1 hf.2.2.1 (fun H1 locs1 hP hD hS => h2 p lch e R s m args below meth c A D ca Q ad0 hc ht hr1 hr2 he ad H1 locs1 ls ⟨hP, hD, hS, hf.2.2.2.1, hf.2.2.2.2.1, hf.2.2.2.2.2.1, ⟨hf.2.2.2.2.2.2.1.1, fun hz => mRk_r (hf.2.2.2.2.2.2.1.2 hz) (hr hp)⟩, hf.2.2.2.2.2.2.2⟩)
theorem mW_r {ad : Nat → Nat} {ca : Nat → ClassId} {q k r : Nat} {e : va_E} (h : q < mN S) (he : mE ad ca (rSh S q k r) μ q = e) : (mW ad ca S μ).set q (ad q, e) = mW ad ca (rSh S q k r) μ := by
  refine mset (mN S) _ _ q _ h (by rw [he]) (fun j hj => ?_)
  have h1 : u2 (mRf S) q k (some r) j = mRf S j := u2_ne hj
  exact congrArg (Prod.mk (ad j)) (mE_r (S' := rSh S q k r) rfl rfl (fun b => congrFun h1 b))
theorem x_pR {c k q r index : Nat} {C : String} {T : u_T} {N : Nat} {ty : Nat → FieldType} (fc : mFC c C T N ty) (hd : decode (mCode M) pc = .ok (.putfield index, 3)) (hw : Cond.fieldLink (mOwn M) index (T k).1 (T k).2.1 (T k).2.2.1 ∈ wsL_law) (hk : k < N) (hg : (mFt c).getD k 0 = 2) (hfin : (T k).2.2.2 = true) (hi : mInit M = true) (hdecl : (T k).1 = mOwn M) (hn : ∀ a, narrow (ty k) (.ref a) = .ref a) (hfit : ∀ a, fits (ty k) (.ref a) = true)
    (kk : mX M n0 c0 s0 (pc + 3) l st (rSh S q k r, μ, cx, cy) ι o) : mX M n0 c0 s0 pc l (.ref r :: .ref q :: st) (S, μ, cx, cy) ι (if mok S q c = true ∧ r < mN S then o else none) := by
  refine mX.wrR (fun hp => hp.2) ?_ kk
  intro hm p lch e R s m args below meth cd A D ca Q H locs cells slots ls ad hc hP hD hS w
  have hg2 := mW_get ad ca S μ (mok_n hm.1)
  rw [mE_obj (mok_k hm.1) fc.2.2.2.1] at hg2
  have hkl : k < (mFt c).length := by rw [fc.2.2.1]; exact hk
  have hset : (mW ad ca S μ).set q (ad q, .inr (c, (mFs ad S μ q).set k (.ref (ad r)))) = mW ad ca (rSh S q k r) μ := by
    refine mW_r (mok_n hm.1) ?_
    rw [mE_obj (c := c) (show mKd (rSh S q k r) q = c from mok_k hm.1) fc.2.2.2.1]
    have hkd : mKd S q = c := mok_k hm.1
    have hset2 : (mFs ad S μ q).set k (.ref (ad r)) = mFs ad (rSh S q k r) μ q := by
      unfold mFs
      have hkd2 : mKd (rSh S q k r) q = c := hkd
      rw [hkd, hkd2]
      refine mset _ _ _ k _ hkl ?_ (fun j hj => ?_)
      · rw [hg]
        show va_rf ((u2 (mRf S) q k (some r) q k).map ad) = _
        rw [u2_same]
        rfl
      · have h1 : u2 (mRf S) q k (some r) q j = mRf S q j := u2_other (Or.inr hj)
        have h2 : mRf (rSh S q k r) q j = mRf S q j := h1
        unfold mVal
        rw [h2]
    rw [hset2]
  refine va_putF (v := .ref (ad r)) hc.1 hc.2.1 hc.2.2.2.2.1 fc.2.1 ty fc.2.2.2.2.1 fc.2.2.2.2.2 hc.2.2.2.1 hc.2.2.2.2.2.2.1 hP hD hS q hg2 fc.1 k hk (hc.2.2.2.2.1 _ hw) (fun _ h9 => h9) hfin (hc.2.2.2.2.2.1 hi) hdecl (fc.2.2.2.2.1 k hk) (hn _) (hfit _) (by rw [mFs_len (mok_k hm.1)]; exact hkl) hd (fun H1 locs1 hP1 hD1 hS1 => ?_)
  rw [hset] at hP1 hD1
  exact w H1 locs1 hP1 hD1 hS1
theorem x_stR {q v : Nat} {i : Int32} (hd : decode (mCode M) pc = .ok (.aastore, 1)) (kk : mX M n0 c0 s0 (pc + 1) l st (rSh S q i.toNatClampNeg v, μ, cx, cy) ι o) : mX M n0 c0 s0 pc l (.ref v :: .int i :: .ref q :: st) (S, μ, cx, cy) ι (if mok S q 15 = true ∧ mIn i (mLn S q) = true ∧ mok S v 7 = true then o else none) := by
  refine mX.wrR (fun hp => mok_n hp.2.2) ?_ kk
  intro hm p lch e R s m args below meth cd A D ca Q H locs cells slots ls ad hc hP hD hS w
  have hg2 := mW_get ad ca S μ (mok_n hm.1)
  rw [mE_15 (mok_k hm.1)] at hg2
  have hg3 := mW_get ad ca S μ (mok_n hm.2.2)
  rw [mE_obj (mok_k hm.2.2) (by decide)] at hg3
  have hset : (mW ad ca S μ).set q (ad q, .inl (ca 3, mLn S q, .inr (.inr (.inr (.inr (va_up (fun j => (mRf S q j).map ad) i.toNatClampNeg (some (ad v)))))))) = mW ad ca (rSh S q i.toNatClampNeg v) μ := by
    refine mW_r (mok_n hm.1) ?_
    rw [mE_15 (show mKd (rSh S q i.toNatClampNeg v) q = 15 from mok_k hm.1)]
    refine congrArg (fun z => Sum.inl (ca 3, mLn S q, Sum.inr (Sum.inr (Sum.inr (Sum.inr z))))) ?_
    funext j
    show (u2 (mRf S) q i.toNatClampNeg (some v) q j).map ad = va_up _ _ _ j
    by_cases hj : j = i.toNatClampNeg
    · subst hj
      rw [u2_same, va_up_self]
      rfl
    · rw [u2_other (Or.inr hj), va_up_ne _ _ hj]
  refine va_astq (r := (RX7, TX7, 5)) hc.1 hc.2.1 hc.2.2.2.2.2.2.1 hP hD hS q 1 v 7 hg2 rfl hg3 fcX7.1 (mIn_in hm.2.1) hd (fun H1 locs1 hP1 hD1 hS1 => ?_)
  rw [hset] at hP1 hD1
  exact w H1 locs1 hP1 hD1 hS1
theorem x_oI {q index : Nat} {σ : mSt} (hd : decode (mCode M) pc = .ok (.invokespecial index, 3)) (hl : Cond.methodLink (mOwn M) index objectInit ∈ wsL_law) (h1 : Cond.instanceMethod objectInit ∈ wsL_law) (h2 : Cond.code objectInit ⟨#[0xb1]⟩ 1 none ∈ wsL_law) (hroom : 1 ≤ mFr M ∧ 20 ≤ mLo M) (hcat : (st.map fun v => v.category).sum ≤ 8)
    (k : mX M n0 c0 s0 (pc + 3) l st σ ι o) : mX M n0 c0 s0 pc l (.ref q :: st) σ ι o :=
  mX.step (fun _ _ _ R _ _ _ _ _ _ _ _ _ _ _ _ _ _ ls ad hc hcl hsl hl9 w => by
    have hF1 := hc.2.2.2.2.2.2.2.2.1
    have hF2 := hc.2.2.2.2.2.2.2.2.2.1
    have hcat' := mCat (ad := ad) st hcat
    have hts := hc.2.2.2.2.1
    exact W.objInit hc.1 hc.2.1 hc.2.2.2.1 (hts _ hl) (hts _ h1) (hts _ h2) rfl (hl9.1.trans hc.2.2.1.symm) rfl hd (by omega) (by show 2 * 0 + ((st.map (mv ad)).map fun v => v.category).sum + 12 ≤ R.locals; omega) w) k
def mCalI (M : mM) (n : Nat) : Prop := Cond.instanceMethod (mY M) ∈ wsL_law ∧ Cond.initialized (mY M).cls ∈ wsL_law ∧ Cond.code (mY M) (mCode M) (mMaxL M) (mRet M) ∈ wsL_law ∧ ((mY M).name = "<init>" ∧ mRet M = none ∧
  (mY M).cls ≠ "java/lang/invoke/MethodHandle" ∧ (mY M).cls ≠ "java/lang/invoke/VarHandle" ∧ (parseMethodDescriptor (mY M).desc).map (fun d => d.parameters.length) = some n)
/-- a constructor's call -/
theorem x_callI {b index n : Nat} {As rest : List Value} {o1 : Option β} {ι' : β → mO × mSt} {Sf : β → mSh} {μf : β → mMm} {kk : β → Option α} (hm : mMet M' (.ref b :: As) (S, μ, cx, cy) ι' o1) (hι : ∀ a, ι' a = (.inl none, (Sf a, μf a, cx, cy))) (hSf : mAl M' = true ∨ ∀ a, Sf a = S) (hal : mAl M = true) (hd : decode (mCode M) pc = .ok (.invokespecial index, 3)) (hl : Cond.methodLink (mOwn M) index (mY M') ∈ wsL_law) (hk : mCalI M' n) (hn : As.length = n)
    (hroom : mFr M' + 1 ≤ mFr M ∧ 8 + (mMaxL M' + 11) + mLo M' ≤ mLo M) (hst : st = As.reverse ++ .ref b :: rest) (hcat : (rest.map fun v => v.category).sum ≤ 8) (kn : ∀ a, mX M n0 c0 s0 (pc + 3) l rest (Sf a, μf a, cx, cy) ι (kk a)) : mX M n0 c0 s0 pc l st (S, μ, cx, cy) ι (if mvk S l rest = true then o1.bind kk else none) := by
  refine mX.ck (fun hv => ?_)
  intro a ha
  obtain ⟨b1, hb1, hk1⟩ := Option.bind_eq_some_iff.mp ha
  obtain ⟨g1, g2⟩ := hm b1 hb1
  obtain ⟨h1, h2⟩ := kn b1 a hk1
  rw [hι b1] at g1
  have t1 : mN S ≤ mN (Sf b1) := g1.1
  have t2 : mN S + cx ≤ mN (Sf b1) + cx := g1.2.1
  have t3 : mTot S + cy ≤ mTot (Sf b1) + cy := g1.2.2
  have t4 : mN (Sf b1) + cx ≤ mCel (ι a).2 := h1.2.1
  have t5 : mTot (Sf b1) + cy ≤ mSlo (ι a).2 := h1.2.2
  refine ⟨mLe.tr g1 h1, ?_⟩
  intro p lch e R s m args below meth c A D ca Q ad0 hc ht hr1 hr2 he ad H locs ls hf
  have f7 : n0 ≤ mN S := hf.2.2.2.2.2.2.1.1
  have f8 : c0 ≤ mN S + cx := hf.2.2.2.2.2.2.2.1
  have f9 : s0 ≤ mTot S + cy := hf.2.2.2.2.2.2.2.2
  have hM := g2 lch D ca ad H.size hc.2.2.2.2.2.2.2.2.2.2
  rw [hι b1] at hM
  have hM := vx_toMet hM (fun _ _ _ h => h)
  rw [show mCel (Sf b1, μf b1, cx, cy) - mCel (S, μ, cx, cy) = mN (Sf b1) - mN S by show mN (Sf b1) + cx - (mN S + cx) = _; omega, show mSlo (Sf b1, μf b1, cx, cy) - mSlo (S, μ, cx, cy) = mTot (Sf b1) - mTot S by show mTot (Sf b1) + cy - (mTot S + cy) = _; omega] at hM
  have hF1 := hc.2.2.2.2.2.2.2.2.1
  have hF2 := hc.2.2.2.2.2.2.2.2.2.1
  have hts := hc.2.2.2.2.1
  have hcat' := mCat (ad := ad) rest hcat
  have hgood : GoodIn wsL_law (mWs M') := mGoodC hk.2.2.1 mGoodIn
  have hrun : va_Run p lch e R s m args below meth c H locs (mCel (S, μ, cx, cy) - c0) (mSlo (S, μ, cx, cy) - s0) (mN (Sf b1) - mN S) (mTot (Sf b1) - mTot S) (F0 m pc ls (st.map (mv ad))) (rest.map (mv ad)) (mQ M' (mN S) ad ca D (va_A (mW ad ca S μ) H.size) (.inl none, (Sf b1, μf b1, cx, cy)) ((.ref b :: As).map (mv ad)).toArray) (va_A (mW ad ca S μ) H.size) := by
    refine va_runI (b := ad b) (As := As.map (mv ad)) (cc := mCode M) (nL := mMaxL M) (Ts := wsL_law) (own := mOwn M) (n := n) (index := index) (bytes := mCode M') (maxL := mMaxL M') ⟨hc.1, hc.2.1, hc.2.2.1, hc.2.2.2.1, hts⟩ hM (cwI n hts hgood (by show _ :: _ = _ :: _; rw [hk.2.2.2.2.1]) rfl rfl (hts _ hk.2.1) (hts _ hl) (hts _ hk.1) hk.2.2.2.1 hk.2.2.2.2.2 ⟨?_, ?_⟩) (mPre (M' := M') (fun _ => hal) hc ht.1 hf (.ref b :: As)) rfl (by rw [List.length_map]; exact hn) hf.2.2.2.1.1 ?_ (lv_room hcat') hd ⟨?_, ?_⟩
    · show mFr M' + 1 ≤ R.frames; omega
    · show 8 + (mMaxL M' + 11) + mLo M' ≤ R.locals; omega
    · show st.map (mv ad) = _
      rw [hst, List.map_append, List.map_reverse]
      rfl
    · show mN S + cx - c0 + (mN (Sf b1) - mN S) ≤ R.cells; omega
    · show mTot S + cy - s0 + (mTot (Sf b1) - mTot S) ≤ R.slots; omega
  refine va_callv (a := ((Value.ref b :: As).map (mv ad)).toArray) hrun hf.2.2.1 (fun q _ h => mFree hc hf q h) (mFree hc hf) (fun u t H1 locs1 ht1 hvm hw hB hz1 hk1 hS => ?_)
  obtain ⟨hP1, -, hD1, hR1⟩ := hB
  have hR9 : mAl M = true → mRk (Sf b1) := fun hz => by
    rcases hSf with h9 | h9
    · exact hR1 h9
    · rw [h9]
      exact hf.2.2.2.2.2.2.1.2 hz
  rw [ht1] at hP1
  have w := h2 p lch e R s m args below meth c A D ca Q ad0 hc ht hr1 hr2 he u H1 locs1 ls ⟨hP1, hD1.weaken (fun _ q _ hq => mFree hc hf q.1 hq), hS, mH_ag hw.1 (mvk_l hv) hf.2.2.2.1, fun i hi => (hw.1 i (by omega)).trans (hf.2.2.2.2.1 i hi), fun hz => absurd (hal.symm.trans hz) (by decide), ⟨Nat.le_trans f7 t1, hR9⟩, by show c0 ≤ mN (Sf b1) + cx; omega, by show s0 ≤ mTot (Sf b1) + cy; omega⟩
  rw [mst_ag hw.1 (mvk_s hv)] at w
  rw [show mCel (S, μ, cx, cy) - c0 + (mN (Sf b1) - mN S) = mCel (Sf b1, μf b1, cx, cy) - c0 by show mN S + cx - c0 + (mN (Sf b1) - mN S) = mN (Sf b1) + cx - c0; omega, show mSlo (S, μ, cx, cy) - s0 + (mTot (Sf b1) - mTot S) = mSlo (Sf b1, μf b1, cx, cy) - s0 by show mTot S + cy - s0 + (mTot (Sf b1) - mTot S) = mTot (Sf b1) + cy - s0; omega]
  exact w
end MALLOC
end
