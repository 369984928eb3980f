/-! contracts of the numbered machine, and calls -/
def mRm (M : mM) (mc ms : Nat) : Room := { frames := mFr M, cells := mc, slots := ms, locals := mLo M }
abbrev mWs (M : mM) : List Cond := .code (mY M) (mCode M) (mMaxL M) (mRet M) :: wsL_law
def mB (M : mM) (D : va_G) (ca : Nat → ClassId) (A1 : Nat → Prop) (S : mSh) (μ : mMm) : (Nat → Nat) → State → Prop := fun u t => va_P D vwCl (mW u ca S μ) t.heap ∧ va_K D vwCl (mTy ca) t ∧ va_D A1 (mW u ca S μ) ∧ (mAl M = true → mRk S)
def mAg (M : mM) (n : Nat) (ad u : Nat → Nat) : Prop := (∀ i, (i < n ∨ 1000 ≤ i) → u i = ad i) ∧ (mAl M = false → u = ad)
def mPcs (M : mM) (ad : Nat → Nat) (ca : Nat → ClassId) (D : va_G) (σ : mSt) (sz : Nat) (args : List Value) : Array Value → State → Prop :=
  va_Pc (args.map (mv ad)) (fun U => U.heap.size = sz ∧ va_P D vwCl (mW ad ca σ.1 σ.2.1) U.heap ∧ va_K D vwCl (mTy ca) U ∧ va_D (fun _ => True) (mW ad ca σ.1 σ.2.1) ∧ (mAl M = true → mRk σ.1) ∧ mTF (va_A (mW ad ca σ.1 σ.2.1) sz) U U.heap)
def mQ (M : mM) (n : Nat) (ad : Nat → Nat) (ca : Nat → ClassId) (D : va_G) (A1 : Nat → Prop) (x : mO × mSt) : Array Value → State → Outcome → State → Prop := match x.1 with
  | .inl none => va_Qv (fun u => mAg M n ad u) (mB M D ca A1 x.2.1 x.2.2.1) A1
  | .inl (some (.int v)) => va_Qi (fun r u => r = v ∧ mAg M n ad u) (mB M D ca A1 x.2.1 x.2.2.1) A1
  | .inl (some (.long v)) => va_Ql (fun r u => r = v ∧ mAg M n ad u) (mB M D ca A1 x.2.1 x.2.2.1) A1
  | .inl (some (.double v)) => va_Qd (fun r u => r = v ∧ mAg M n ad u) (mB M D ca A1 x.2.1 x.2.2.1) A1
  | .inl _ => fun _ _ _ _ => True
  | .inr _ => va_Qi (fun _ (_ : Nat → Nat) => False) (fun _ _ => False) A1
def mXC (M : mM) (n : Nat) (ad : Nat → Nat) (ca : Nat → ClassId) (D : va_G) (A1 : Nat → Prop) (x : mO × mSt) : String → State → State → Prop := match x.1 with
  | .inr E => vx_X (fun u => mAg M n ad u) (fun nm u t => nm = mCls E ∧ mB M D ca A1 x.2.1 x.2.2.1 u t) A1
  | .inl _ => fun _ _ _ => False
def mMet (M : mM) (args : List Value) (σ : mSt) {α : Type} (ι : α → mO × mSt) (o : Option α) : Prop := ∀ a, o = some a → mLe σ (ι a).2 ∧ ∀ (lch : Launch) (D : va_G) (ca : Nat → ClassId) (ad : Nat → Nat) (sz : Nat), lch.flags = flags0 →
    vx_Met lch (mY M) (mWs M) (mRm M (mCel (ι a).2 - mCel σ) (mSlo (ι a).2 - mSlo σ)) (mPcs M ad ca D σ sz args) (mQ M (mN σ.1) ad ca D (va_A (mW ad ca σ.1 σ.2.1) sz) (ι a)) (mXC M (mN σ.1) ad ca D (va_A (mW ad ca σ.1 σ.2.1) sz) (ι a)) (mCel (ι a).2 - mCel σ) (mSlo (ι a).2 - mSlo σ) (va_A (mW ad ca σ.1 σ.2.1) sz)
/-- the locals with which a method begins -/
def mEl : List Value → List (Option Value)
  | [] => []
  | v :: vs => if v.category = 2 then some v :: none :: mEl vs else some v :: mEl vs
def mEnt (args : List Value) (n : Nat) : List (Option Value) := mEl args ++ List.replicate (n - (mEl args).length) none
theorem mEl_in (ad : Nat → Nat) : ∀ (args : List Value) (k i : Nat) (v : Value), (mEl args)[i]? = some (some v) → (k + i, mv ad v) ∈ lv_args k (args.map (mv ad))
  | [], k, i, v, h => by simp [mEl] at h
  | a :: as, k, i, v, h => by
    unfold mEl at h
    show _ ∈ (k, mv ad a) :: lv_args (if (mv ad a).category = 2 then k + 2 else k + 1) (as.map (mv ad))
    rw [mv_cat]
    by_cases hc : a.category = 2
    · rw [if_pos hc] at h
      rw [if_pos hc]
      cases i with
      | zero => cases h; exact List.mem_cons_self
      | succ i =>
        cases i with
        | zero => cases h
        | succ i =>
          refine List.mem_cons_of_mem _ ?_
          have h1 := mEl_in ad as (k + 2) i v h
          rw [show k + (i + 1 + 1) = k + 2 + i by omega]
          exact h1
    · rw [if_neg hc] at h
      rw [if_neg hc]
      cases i with
      | zero => cases h; exact List.mem_cons_self
      | succ i =>
        refine List.mem_cons_of_mem _ ?_
        have h1 := mEl_in ad as (k + 1) i v h
        rw [show k + (i + 1) = k + 1 + i by omega]
        exact h1
theorem mEnt_H {ls : Array Slot} {n : Nat} {ad : Nat → Nat} {args : List Value} (h : lv_has ls n (lv_args 0 (args.map (mv ad)))) : mH ls n ad (mEnt args n) := by
  refine ⟨h.1, h.2.1, fun i v hi => ?_⟩
  unfold mEnt at hi
  by_cases hl : i < (mEl args).length
  · rw [List.getElem?_append_left hl] at hi
    have h1 := mEl_in ad args 0 i v hi
    rw [Nat.zero_add] at h1
    exact h.2.2 _ h1
  · rw [List.getElem?_append_right (by omega)] at hi
    have := List.eq_of_mem_replicate (List.mem_of_getElem? hi)
    cases this
theorem mFl {lch : Launch} (h : lch.flags = flags0) : lch.stackTraces = false := by
  unfold Launch.stackTraces
  rw [h]
  decide +kernel
theorem mNg : ∀ E, E < 3 → ∀ ic, (E = 0 ∧ ic = 85) ∨ (E = 1 ∧ ic = 98) ∨ (E = 2 ∧ ic = 114) → (∀ w ∈ (vx_atS RX10 ic (mCls E) mNms).filter goodWord, w ∈ wsL_law) ∧ (∀ w ∈ (vx_atS RX10 ic (mCls E) mNms).filter (fun w => !goodWord w), w ∈ [Cond.castable (mCls E) (mCls E), Cond.declares ⟨"java/lang/RuntimeException", "<init>", "(Ljava/lang/String;)V"⟩, Cond.declares ⟨"java/lang/Exception", "<init>", "(Ljava/lang/String;)V"⟩, Cond.declares ⟨"java/lang/Throwable", "<init>", "(Ljava/lang/String;)V"⟩]) ∧ (∀ ik, ∀ w ∈ Cond.classLink RX10 ik (mCls E) :: Cond.initialized (mCls E) :: vx_atS RX10 ic (mCls E) mNms, vx_ot w = true) ∧ Bundle.fit (mCls E) = true := by
  intro E hE ic h
  rcases h with ⟨rfl, rfl⟩ | ⟨rfl, rfl⟩ | ⟨rfl, rfl⟩
  · exact ⟨fun w h => List.mem_append_left _ (List.mem_append_left _ (List.mem_append_right _ h)), by decide +kernel, fun ik => by
      have h : ∀ w ∈ vx_atS RX10 85 (mCls 0) mNms, vx_ot w = true := by decide +kernel
      exact List.forall_mem_cons.mpr ⟨rfl, List.forall_mem_cons.mpr ⟨rfl, h⟩⟩, by decide +kernel⟩
  · exact ⟨fun w h => List.mem_append_left _ (List.mem_append_right _ h), by decide +kernel, fun ik => by
      have h : ∀ w ∈ vx_atS RX10 98 (mCls 1) mNms, vx_ot w = true := by decide +kernel
      exact List.forall_mem_cons.mpr ⟨rfl, List.forall_mem_cons.mpr ⟨rfl, h⟩⟩, by decide +kernel⟩
  · exact ⟨fun w h => List.mem_append_right _ h, by decide +kernel, fun ik => by
      have h : ∀ w ∈ vx_atS RX10 114 (mCls 2) mNms, vx_ot w = true := by decide +kernel
      exact List.forall_mem_cons.mpr ⟨rfl, List.forall_mem_cons.mpr ⟨rfl, h⟩⟩, by decide +kernel⟩
theorem mNs : ∀ n ∈ mNms, Bundle.fit n = true := by decide +kernel
/-- a body's end is its contract's -/
theorem mEnd_of {M : mM} {n0 c0 s0 : Nat} (x : mO × mSt) {p : Program} {lch : Launch} {e : Env} {R : Room} {s : State} {m : MethodId} {args : Array Value} {below : List Frame} {meth : Method} {c : Code} {A : Nat → Prop} {D : va_G} {ca : Nat → ClassId} {ad0 : Nat → Nat}
    (hc : mCx M p lch e R s m args below meth c A D ca) (hTF : mTF A s s.heap) (hr1 : mCel x.2 - c0 ≤ R.cells) (hr2 : mSlo x.2 - s0 ≤ R.slots) (hsig : meth.sig.returnType = mRet M) (hlocks : meth.locks = false) (hex : ∀ z ∈ c.exceptionTable.toList, False) :
    mEnd M n0 c0 s0 x p lch e R s m args below meth c A D ca (vx_MQ below (mQ M n0 ad0 ca D A x) (mXC M n0 ad0 ca D A x) args s (mCel x.2 - c0) (mSlo x.2 - s0) A) ad0 := by
  obtain ⟨r, τ⟩ := x
  have hx := hc.1
  have hb := hc.2.1
  have hK := hc.2.2.2.2.2.2.1
  cases r with
  | inl r =>
    cases r with
    | none =>
      intro l ad H locs ls pc hf hd hr
      exact vx_ret (W.vret hx hb (hsig.trans hr) (fun t ht hW => ⟨⟨ad, rfl, ⟨hf.2.2.2.2.1, hf.2.2.2.2.2.1⟩, by rw [ht]; exact hf.1, va_K.moved hW.alike hK, hf.2.1, hf.2.2.2.2.2.2.1.2⟩, hf.2.2.1.F ht⟩) hf.2.2.1.2.2 hd)
    | some v =>
      cases v with
      | int v =>
        intro l ad H locs ls pc ty hf hd hr hn
        exact vx_ret (W.zret hx hb (hsig.trans hr) hn (fun t ht hW => ⟨⟨v, ad, rfl, ⟨rfl, hf.2.2.2.2.1, hf.2.2.2.2.2.1⟩, by rw [ht]; exact hf.1, va_K.moved hW.alike hK, hf.2.1, hf.2.2.2.2.2.2.1.2⟩, hf.2.2.1.F ht⟩) hf.2.2.1.2.2 hd)
      | long v =>
        intro l ad H locs ls pc hf hd hr
        exact vx_ret (W.lret hx hb (hsig.trans hr) (fun t ht hW => ⟨⟨v, ad, rfl, ⟨rfl, hf.2.2.2.2.1, hf.2.2.2.2.2.1⟩, by rw [ht]; exact hf.1, va_K.moved hW.alike hK, hf.2.1, hf.2.2.2.2.2.2.1.2⟩, hf.2.2.1.F ht⟩) hf.2.2.1.2.2 hd)
      | double v =>
        intro l ad H locs ls pc hf hd hr
        exact vx_ret (W.dret hx hb (hsig.trans hr) (fun t ht hW => ⟨⟨v, ad, rfl, ⟨rfl, hf.2.2.2.2.1, hf.2.2.2.2.2.1⟩, by rw [ht]; exact hf.1, va_K.moved hW.alike hK, hf.2.1, hf.2.2.2.2.2.2.1.2⟩, hf.2.2.1.F ht⟩) hf.2.2.1.2.2 hd)
      | _ => exact trivial
  | inr E =>
    intro σ l ad H locs ls pc rest e1 e2 h1 h2 hf hsite hcat
    obtain ⟨ik, is, ic, tx, d0, d3, dd, how, hk, hini, hE, htx, hfr, hlo⟩ := hsite
    obtain ⟨hw1, hw2, hw3, hw4⟩ := mNg E (by omega) ic hE
    obtain ⟨hU, hN, hS9, hG9⟩ := hTF
    obtain ⟨sa, hsa⟩ := hS9 _ htx
    have hts := hc.2.2.2.2.1
    have hown : s.vm.findClass RX10 = some m.cls := how ▸ hc.2.2.2.1
    have hat : ∀ w ∈ vx_atS RX10 ic (mCls E) mNms, w.before args s = true := vx_hat (fun w h => hts w (hw1 w h)) hw2 (vx_c (va_Nw.use rfl (hG9.1 E (by omega))) (vx_c (va_Nw.use rfl hG9.2.1) (vx_c (va_Nw.use rfl hG9.2.2.1) (vx_c (va_Nw.use rfl hG9.2.2.2.1) vx_n))))
    have hF1 := hc.2.2.2.2.2.2.2.2.1
    have hF2 := hc.2.2.2.2.2.2.2.2.2.1
    have hp8 := hf.2.2.2.2.2.2.2.1
    have hp9 := hf.2.2.2.2.2.2.2.2
    have hsz : ls.size = c.maxLocals := hf.2.2.2.1.1.trans hc.2.2.1.symm
    have hxx : ∀ t : State, s.vm.Alike t.vm → H.size ≤ t.heap.size → (∀ q : Nat, q < H.size → t.heap[q]? = H[q]?) → mXC M n0 ad0 ca D A (.inr E, τ) (mCls E) s t := by
      intro t hal hz hq
      have hP1 : va_P D vwCl (mW ad ca σ.1 σ.2.1) t.heap := hf.1.kept (fun k q hk => hq _ (hf.1 k q hk).lt)
      rw [e1, e2] at hP1
      have hD1 := hf.2.1
      rw [e1, e2] at hD1
      have hR1 := hf.2.2.2.2.2.2.1.2
      rw [e1] at hR1
      refine ⟨ad, ⟨hf.2.2.2.2.1, hf.2.2.2.2.2.1⟩, ⟨rfl, hP1, va_K.moved hal hK, hD1, hR1⟩, Nat.le_trans hf.2.2.1.1 hz, fun q hq1 hq2 => ?_⟩
      rw [hq q (Nat.lt_of_lt_of_le hq1 hf.2.2.1.1)]
      exact hf.2.2.1.2.1 q hq1 hq2
    have hl1 : mNms.length + 3 < R.frames := by show 2 + 3 < R.frames; omega
    have hl2 : (rest.map fun v => v.category).sum + (13 * (mNms.length + 1) + 43) ≤ R.locals := by show _ + (13 * (2 + 1) + 43) ≤ _; omega
    have hc1 : mCel σ - c0 + 1 ≤ mCel τ - c0 := by have h1 : mCel σ + 1 ≤ mCel τ := h1; omega
    have hc2 : mSlo σ - s0 + 6 ≤ mSlo τ - s0 := by have h2 : mSlo σ + 6 ≤ mSlo τ := h2; omega
    have hr1 : mCel τ - c0 ≤ R.cells := hr1
    have hr2 : mSlo τ - s0 ≤ R.slots := hr2
    rcases dd with ⟨d4, d6, d9⟩ | ⟨d4, d7, d10⟩
    · exact vx_throwS hx hb (mFl hc.2.2.2.2.2.2.2.2.2.2) hown hw4 mNs (hts _ hk) (hts _ hini) hsa hat (hw3 ik) hU hN hf.2.2.1 hsz d0 d3 d4 d6 d9 (fun z hz => (hex z hz).elim) hl1 hl2 (Nat.le_trans hc1 hr1) (Nat.le_trans hc2 hr2) hlocks hxx hf.2.2.1.2.2 hc1 hc2
    · exact vx_throwSW hx hb (mFl hc.2.2.2.2.2.2.2.2.2.2) hown hw4 mNs (hts _ hk) (hts _ hini) hsa hat (hw3 ik) hU hN hf.2.2.1 hsz d0 d3 d4 d7 d10 (fun z hz => (hex z hz).elim) hl1 hl2 (Nat.le_trans hc1 hr1) (Nat.le_trans hc2 hr2) hlocks hxx hf.2.2.1.2.2 hc1 hc2

theorem mTF_blind {A : Nat → Prop} {U V : State} (hvm : U.vm = V.vm) (hh : V.heap = U.heap) (h : mTF A U U.heap) : mTF A V V.heap := by
  obtain ⟨h1, h2, h3, h4, h5, h6, h7, h8, h9⟩ := h
  have ha : U.vm.Alike V.vm := by rw [hvm]; exact Vm.Alike.refl _
  rw [hh]
  exact ⟨vx_Zq.moved ha h1, vx_Zq.moved ha h2, fun q hq => (h3 q hq).imp (fun sa h => vk_R.same hvm.symm h), fun E hE => va_Nw.same rfl hvm (h4 E hE), va_Nw.same rfl hvm h5, va_Nw.same rfl hvm h6, va_Nw.same rfl hvm h7, va_AO.moved ha h8, fun i j hi hj hn => va_Nc.moved ha (h9 i j hi hj hn)⟩
/-- what a throw takes as given, at a callee's start -/
theorem mTF_call {A A1 : Nat → Prop} {s U : State} {H : Heap} {locs : List Loc} (h : mTF A s s.heap) (hS : va_S A s.heap H locs) (hW : s.WarmedH U.vm) (hU : U.heap = H) (hAA : ∀ q, A1 q → A q) : mTF A1 U U.heap := by
  obtain ⟨h1, h2, h3, h4, h5, h6, h7, h8, h9⟩ := h
  have hk : ∀ a : Nat, a < s.heap.size → ¬ A a → H[a]? = s.heap[a]? := hS.2.1
  rw [hU]
  exact ⟨((h1.kept hk).moved hW.alike).narrow hAA, ((h2.kept hk).moved hW.alike).narrow hAA, fun q hq => (h3 q hq).imp (fun sa h => vk_R.warm hW h), fun E hE => va_Nw.warmC hW (h4 E hE), va_Nw.warmD hW h5, va_Nw.warmD hW h6, va_Nw.warmD hW h7, va_AO.moved hW.alike h8, fun i j hi hj hn => va_Nc.moved hW.alike (h9 i j hi hj hn)⟩
theorem mPcs_blind {M : mM} {ad : Nat → Nat} {ca : Nat → ClassId} {D : va_G} {σ : mSt} {sz : Nat} {args : List Value} : FrameBlind (mPcs M ad ca D σ sz args) := by
  intro a U g mk q
  obtain ⟨q0, q1, q2, q3, q4, qr, q5⟩ := q
  exact ⟨q0, q1, q2, va_K.moved (u := U) (U := U.calling g mk a) (Vm.Alike.refl U.vm) q3, q4, qr, mTF_blind (U := U) (V := U.calling g mk a) rfl rfl q5⟩
/-- a body's walk is its method's contract -/
theorem mMet.of {M : mM} {args : List Value} {σ : mSt} {α : Type} {ι : α → mO × mSt} {o : Option α} (hxe : mXe M = eT) (hpl : plainName (mY M).cls = true) (hcl : (mY M).cls = mOwn M) (hin : mInit M = true → (mY M).name = "<init>") (hsz : (mEl args).length ≤ mMaxL M)
    (h : mX M (mN σ.1) (mCel σ) (mSlo σ) 0 (mEnt args (mMaxL M)) [] σ ι o) : mMet M args σ ι o := by
  intro a ha
  obtain ⟨h1, h2⟩ := h a ha
  refine ⟨h1, fun lch D ca ad sz hfl => ?_⟩
  refine vx_ofW hpl rfl ?_
  intro p e s m args' below meth c s₁ B hml hex hv
  obtain ⟨rfl, hsz9, hP, hK, hD0, hRk, hTF⟩ := hv
  subst hsz9
  have hts0 := atoms_spec (ws := mWs M) B.pre
  have hown : s.vm.findClass (mOwn M) = some m.cls := hcl ▸ findClass_of_methodNamed B.named
  have hD := hD0.self (sz := s.heap.size)
  have hc : mCx M p lch e (headSpec (mWs M) (mRm M (mCel (ι a).2 - mCel σ) (mSlo (ι a).2 - mSlo σ))).room s m (args.map (mv ad)).toArray below meth c (va_A (mW ad ca σ.1 σ.2.1) s.heap.size) D ca :=
    ⟨B.exec, B.bytes, hml, hown, fun w hw => hts0 w (List.mem_cons_of_mem _ hw), fun hi => (name_of_methodNamed B.named B.method).1.trans (hin hi), hK, fun q hq => Or.inr hq, Nat.le_refl _, Nat.le_refl _, hfl⟩
  have hend := mEnd_of (M := M) (n0 := mN σ.1) (c0 := mCel σ) (s0 := mSlo σ) (ι a) (ad0 := ad) hc hTF (Nat.le_refl _) (Nat.le_refl _) B.returns B.notSynchronized hex
  rw [lg_entry_eq]
  have hlen : (lg_sl (args.map (mv ad))).length = (mEl args).length := by
    clear h h1 h2 ha hc hend hex hP hK hD0 hTF hD hown hts0 B hml hsz
    induction args with
    | nil => rfl
    | cons v vs ih =>
      show (lg_sl (mv ad v :: vs.map (mv ad))).length = _
      unfold mEl
      have e : lg_sl (mv ad v :: vs.map (mv ad)) = (if (mv ad v).category = 2 then [Slot.val (mv ad v), .second] else [.val (mv ad v)]) ++ lg_sl (vs.map (mv ad)) := rfl
      rw [e, mv_cat]
      by_cases hc : v.category = 2
      · rw [if_pos hc, if_pos hc]
        simp [ih]
      · rw [if_neg hc, if_neg hc]
        simp [ih]
  have hl := lv_entry (args.map (mv ad)) (n := mMaxL M) (by rw [hlen]; exact hsz)
  have hw := h2 p lch e _ s m _ below meth c _ D ca _ ad hc ⟨hTF, by rw [hxe]; exact trivial⟩ (Nat.le_refl _) (Nat.le_refl _) hend ad s.heap [] _ ⟨hP, hD, va_S.rf, mEnt_H hl, fun _ _ => rfl, fun _ => rfl, ⟨Nat.le_refl _, hRk⟩, Nat.le_refl _, Nat.le_refl _⟩
  rw [Nat.sub_self, Nat.sub_self] at hw
  exact hw
