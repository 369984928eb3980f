/-! making in the bound form; helpers with a table; the law's script -/
def aN (S : mSh) (μ : mMm) (l : List (Option Value)) (st : List Value) (c len t : Nat) : Option (mSh × mMm) := if mvk S l st = true ∧ mN S < 1000 then some (nSh S c len t, nMm S μ) else none
def aR (S : mSh) (q c k r : Nat) : Option mSh := if mok S q c = true ∧ r < mN S then some (rSh S q k r) else none
def aS (S : mSh) (q : Nat) (i : Int32) (v : Nat) : Option mSh := if mok S q 15 = true ∧ mIn i (mLn S q) = true ∧ mok S v 7 = true then some (rSh S q i.toNatClampNeg v) else none
def ldS (L : Nat) (xs : Nat → Int32) (i : Int32) : Option Int32 := if mIn i L = true then some (xs i.toNatClampNeg) else none
/-- a call that returns or throws, within a table -/
def hTry {γ : Type} (r : (Int32 ⊕ Nat) × mMm) (kn : Int32 → mMm → Option γ) (kx : Nat → mMm → Option γ) : Option γ := match r with
  | (.inl v, μ) => kn v μ
  | (.inr E, μ) => kx E μ
def iAV (cx cy : Nat) (x : mSh × mMm) : mO × mSt := (.inl none, (x.1, x.2, cx, cy))
def iAI (x : Int32 × mSh × mMm × Nat) : mO × mSt := (.inl (some (.int x.1)), (x.2.1, x.2.2.1, x.2.2.2, 41 * x.2.2.2))
def iHI (S : mSh) (cx cy : Nat) (x : Int32 × mMm × Nat) : mO × mSt := (.inl (some (.int x.1)), (S, x.2.1, cx + x.2.2, cy + 6 * x.2.2))
def eH (hh : List (Nat × Nat × Nat × Nat)) : mEx := fun c _ _ _ => c.exceptionTable.toList = tableOf hh
def eL (b L : Nat) (xs : Nat → Int32) : mEx := fun _ ad0 s A => ad0 1000 = b ∧ va_X b L xs s s.heap ∧ b < s.heap.size ∧ ¬ A b
theorem ndX0 : ∀ j, j < 3 → defaultValue (tyX0 j) = mDf ((mFt 0).getD j 0) := fun j hj => by match j, hj with
  | 0, _ => rfl
  | 1, _ => rfl
  | 2, _ => rfl
theorem ndX1 : ∀ j, j < 3 → defaultValue (tyX1 j) = mDf ((mFt 1).getD j 0) := fun j hj => by match j, hj with
  | 0, _ => rfl
  | 1, _ => rfl
  | 2, _ => rfl
theorem ndX2 : ∀ j, j < 2 → defaultValue (tyX2 j) = mDf ((mFt 2).getD j 0) := fun j hj => by match j, hj with
  | 0, _ => rfl
  | 1, _ => rfl
theorem ndX3 : ∀ j, j < 3 → defaultValue (tyX3 j) = mDf ((mFt 3).getD j 0) := fun j hj => by match j, hj with
  | 0, _ => rfl
  | 1, _ => rfl
  | 2, _ => rfl
theorem ndX4 : ∀ j, j < 2 → defaultValue (tyX4 j) = mDf ((mFt 4).getD j 0) := fun j hj => by match j, hj with
  | 0, _ => rfl
  | 1, _ => rfl
theorem ndX5 : ∀ j, j < 3 → defaultValue (tyX5 j) = mDf ((mFt 5).getD j 0) := fun j hj => by match j, hj with
  | 0, _ => rfl
  | 1, _ => rfl
  | 2, _ => rfl
theorem ndX6 : ∀ j, j < 5 → defaultValue (tyX6 j) = mDf ((mFt 6).getD j 0) := fun j hj => by match j, hj with
  | 0, _ => rfl
  | 1, _ => rfl
  | 2, _ => rfl
  | 3, _ => rfl
  | 4, _ => rfl
theorem ndX7 : ∀ j, j < 5 → defaultValue (tyX7 j) = mDf ((mFt 7).getD j 0) := fun j hj => by match j, hj with
  | 0, _ => rfl
  | 1, _ => rfl
  | 2, _ => rfl
  | 3, _ => rfl
  | 4, _ => rfl
theorem ndX8 : ∀ j, j < 3 → defaultValue (tyX8 j) = mDf ((mFt 8).getD j 0) := fun j hj => by match j, hj with
  | 0, _ => rfl
  | 1, _ => rfl
  | 2, _ => rfl
theorem ndX9 : ∀ j, j < 2 → defaultValue (tyX9 j) = mDf ((mFt 9).getD j 0) := fun j hj => by match j, hj with
  | 0, _ => rfl
  | 1, _ => rfl
theorem ndX10 : ∀ j, j < 9 → defaultValue (tyX10 j) = mDf ((mFt 10).getD j 0) := fun j hj => by match j, hj with
  | 0, _ => rfl
  | 1, _ => rfl
  | 2, _ => rfl
  | 3, _ => rfl
  | 4, _ => rfl
  | 5, _ => rfl
  | 6, _ => rfl
  | 7, _ => rfl
  | 8, _ => rfl
section MLAW
variable {M M' : mM} {n0 c0 s0 : Nat} {pc : Nat} {l : List (Option Value)} {st : List Value} {S : mSh} {μ : mMm} {cx cy : Nat} {α β : Type} {ι : α → mO × mSt} {o : Option α}
theorem mX.bnd {P : Prop} [dP : Decidable P] {γ : Type} {x : γ} {kk : γ → Option α} {σ : mSt} (h : mX M n0 c0 s0 pc l st σ ι (if P then kk x else none)) : mX M n0 c0 s0 pc l st σ ι ((if P then some x else none).bind kk) := by
  by_cases hp : P
  · rw [if_pos hp] at h ⊢
    exact h
  · rw [if_neg hp] at h ⊢
    exact h
theorem x_aN {c index : Nat} {C : String} {T : u_T} {N : Nat} {ty : Nat → FieldType} {kk : mSh × mMm → Option α} (fc : mFC c C T N ty) (hal : mAl M = true) (hd : decode (mCode M) pc = .ok (.new index, 3)) (hcl : Cond.classLink (mOwn M) index C ∈ wsL_law) (hin : Cond.instantiable C N ∈ wsL_law) (hini : Cond.initialized C ∈ wsL_law) (hdf : ∀ j, j < N → defaultValue (ty j) = mDf ((mFt c).getD j 0))
    (kn : ∀ r : mSh × mMm, mX M n0 c0 s0 (pc + 3) l (.ref (mN S) :: st) (r.1, r.2, cx, cy) ι (kk r)) : mX M n0 c0 s0 pc l st (S, μ, cx, cy) ι ((aN S μ l st c 0 N).bind kk) :=
  mX.bnd (x_new fc hal hd hcl hin hini hdf (kn _))
theorem x_aI {n : Int32} {N' : Nat} {kk : mSh × mMm → Option α} (hal : mAl M = true) (hd : decode (mCode M) pc = .ok (.newarray .int, 2)) (hw : Cond.arrayClass .int ∈ wsL_law) (hn : ¬ n < 0) (hN : n.toNatClampNeg = N') (hb : N' * componentBytes .int ≤ 536870912)
    (kn : ∀ r : mSh × mMm, mX M n0 c0 s0 (pc + 2) l (.ref (mN S) :: st) (r.1, r.2, cx, cy) ι (kk r)) : mX M n0 c0 s0 pc l (.int n :: st) (S, μ, cx, cy) ι ((aN S μ l st 12 N' N').bind kk) :=
  mX.bnd (x_newI hal hd hw hn hN hb (kn _))
theorem x_aA {index : Nat} {n : Int32} {N' : Nat} {kk : mSh × mMm → Option α} (hal : mAl M = true) (hd : decode (mCode M) pc = .ok (.anewarray index, 3)) (hw : Cond.classLink (mOwn M) index RX7 ∈ wsL_law) (hn : ¬ n < 0) (hN : n.toNatClampNeg = N') (hb : N' * 4 ≤ 536870912)
    (kn : ∀ r : mSh × mMm, mX M n0 c0 s0 (pc + 3) l (.ref (mN S) :: st) (r.1, r.2, cx, cy) ι (kk r)) : mX M n0 c0 s0 pc l (.int n :: st) (S, μ, cx, cy) ι ((aN S μ l st 15 N' N').bind kk) :=
  mX.bnd (x_newR hal hd hw hn hN hb (kn _))
theorem x_aR {c k q r index : Nat} {C : String} {T : u_T} {N : Nat} {ty : Nat → FieldType} {kk : mSh → Option α} (fc : mFC c C T N ty) (hd : decode (mCode M) pc = .ok (.putfield index, 3)) (hw : Cond.fieldLink (mOwn M) index (T k).1 (T k).2.1 (T k).2.2.1 ∈ wsL_law) (hk : k < N) (hg : (mFt c).getD k 0 = 2) (hfin : (T k).2.2.2 = true) (hi : mInit M = true) (hdecl : (T k).1 = mOwn M) (hn : ∀ a, narrow (ty k) (.ref a) = .ref a) (hfit : ∀ a, fits (ty k) (.ref a) = true)
    (kn : ∀ S', mX M n0 c0 s0 (pc + 3) l st (S', μ, cx, cy) ι (kk S')) : mX M n0 c0 s0 pc l (.ref r :: .ref q :: st) (S, μ, cx, cy) ι ((aR S q c k r).bind kk) :=
  mX.bnd (x_pR fc hd hw hk hg hfin hi hdecl hn hfit (kn _))
theorem x_aS {q v : Nat} {i : Int32} {kk : mSh → Option α} (hd : decode (mCode M) pc = .ok (.aastore, 1)) (kn : ∀ S', mX M n0 c0 s0 (pc + 1) l st (S', μ, cx, cy) ι (kk S')) : mX M n0 c0 s0 pc l (.ref v :: .int i :: .ref q :: st) (S, μ, cx, cy) ι ((aS S q i v).bind kk) :=
  mX.bnd (x_stR hd (kn _))
/-! the law's script -/
theorem mX.rdE {β : Type} {pc' : Nat} {st' : β → List Value} {g : Option β} {kk : β → Option α} {σ : mSt} (h : ∀ (b : β), g = some b → ∀ (p : Program) (lch : Launch) (e : Env) (R : Room) (s : State) (m : MethodId) (args : Array Value) (below : List Frame) (meth : Method) (c : Code) (A : Nat → Prop) (D : va_G) (ca : Nat → ClassId) (Q : State → Prop) (H : Heap) (locs : List Loc) (cells slots : Nat) (ls : Array Slot) (ad ad0 : Nat → Nat), mCx M p lch e R s m args below meth c A D ca → mXe M c ad0 s A → ad 1000 = ad0 1000 → va_S A s.heap H locs → W p lch e R s m args below meth c H locs cells slots Q (F0 m pc' ls ((st' b).map (mv ad))) → W p lch e R s m args below meth c H locs cells slots Q (F0 m pc ls (st.map (mv ad))))
    (k : ∀ b, mX M n0 c0 s0 pc' l (st' b) σ ι (kk b)) : mX M n0 c0 s0 pc l st σ ι (g.bind kk) := by
  intro a ha
  obtain ⟨b, hb, hk⟩ := Option.bind_eq_some_iff.mp ha
  obtain ⟨h1, h2⟩ := k b a hk
  refine ⟨h1, ?_⟩
  intro p lch e R s m args below meth c A D ca Q ad0 hc ht hr1 hr2 he ad H locs ls hf
  exact h b hb p lch e R s m args below meth c A D ca Q H locs _ _ ls ad ad0 hc ht.2 (hf.2.2.2.2.1 1000 (Or.inr (Nat.le_refl _))) hf.2.2.1 (h2 p lch e R s m args below meth c A D ca Q ad0 hc ht hr1 hr2 he ad H locs ls hf)
theorem x_sld {b L : Nat} {xs : Nat → Int32} {σ : mSt} {i : Int32} {kk : Int32 → Option α} (hxe : mXe M = eL b L xs) (hd : decode (mCode M) pc = .ok (.iaload, 1)) (kn : ∀ v, mX M n0 c0 s0 (pc + 1) l (.int v :: st) σ ι (kk v)) : mX M n0 c0 s0 pc l (.int i :: .ref 1000 :: st) σ ι ((ldS L xs i).bind kk) := by
  refine mX.rdE (st' := fun v => .int v :: st) (fun v hv => ?_) kn
  unfold ldS at hv
  by_cases hm : mIn i L = true
  · rw [if_pos hm] at hv
    cases hv
    intro p lch e R s m args below meth cd A D ca Q H locs cells slots ls ad ad0 hc hE had hS w
    rw [hxe] at hE
    obtain ⟨e1, hX, hbl, hbA⟩ := hE
    show W p lch e R s m args below meth cd H locs cells slots Q (F0 m pc ls (.int i :: .ref (ad 1000) :: st.map (mv ad)))
    rw [had, e1]
    exact va_sld hc.1 hc.2.1 hX hbl hbA hS (mIn_in hm) hd w
  · rw [if_neg hm] at hv
    cases hv
theorem x_slen {b L : Nat} {xs : Nat → Int32} {σ : mSt} (hxe : mXe M = eL b L xs) (hd : decode (mCode M) pc = .ok (.arraylength, 1)) (kn : mX M n0 c0 s0 (pc + 1) l (.int (Int32.ofNat L) :: st) σ ι o) : mX M n0 c0 s0 pc l (.ref 1000 :: st) σ ι o := by
  have := mX.rdE (g := some ()) (kk := fun _ => o) (st := .ref 1000 :: st) (st' := fun _ => .int (Int32.ofNat L) :: st) (pc := pc) (pc' := pc + 1) (M := M) (n0 := n0) (c0 := c0) (s0 := s0) (l := l) (σ := σ) (ι := ι) (fun _ _ p lch e R s m args below meth cd A D ca Q H locs cells slots ls ad ad0 hc hE had hS w => by
    rw [hxe] at hE
    obtain ⟨e1, hX, hbl, hbA⟩ := hE
    show W p lch e R s m args below meth cd H locs cells slots Q (F0 m pc ls (.ref (ad 1000) :: st.map (mv ad)))
    rw [had, e1]
    exact va_slen hc.1 hc.2.1 hX hbl hbA hS hd w) (fun _ => kn)
  exact this
/-! a helper's end, contract, call -/
theorem mEnd_ofI {M : mM} {n0 c0 s0 : Nat} (v : Int32) (τ : mSt) {p : Program} {lch : Launch} {e : Env} {R : Room} {s : State} {m : MethodId} {args : Array Value} {below : List Frame} {meth : Method} {c : Code} {A : Nat → Prop} {D : va_G} {ca : Nat → ClassId} {ad0 : Nat → Nat}
    (hc : mCx M p lch e R s m args below meth c A D ca) (hsig : meth.sig.returnType = mRet M) (hlocks : meth.locks = false) :
    mEnd M n0 c0 s0 (.inl (some (.int v)), τ) p lch e R s m args below meth c A D ca (vx_MQ below (mQ M n0 ad0 ca D A (.inl (some (.int v)), τ)) (mXC M n0 ad0 ca D A (.inl (some (.int v)), τ)) args s (mCel τ - c0) (mSlo τ - s0) A) ad0 := by
  have hx := hc.1
  have hb := hc.2.1
  have hK := hc.2.2.2.2.2.2.1
  intro l ad H locs ls pc ty hf hd hr hn
  exact vx_ret (W.zret hx hb (hsig.trans hr) hn (fun t ht hW => ⟨⟨v, ad, rfl, ⟨rfl, hf.2.2.2.2.1, hf.2.2.2.2.2.1⟩, by rw [ht]; exact hf.1, va_K.moved hW.alike hK, hf.2.1, hf.2.2.2.2.2.2.1.2⟩, hf.2.2.1.F ht⟩) hf.2.2.1.2.2 hd)
abbrev mWsH (M : mM) (hh : List (Nat × Nat × Nat × Nat)) : List Cond := .codeWith (mY M) (mCode M) (mMaxL M) (mRet M) hh :: wsL_law
def mMetH (M : mM) (hh : List (Nat × Nat × Nat × Nat)) (args : List Value) (σ : mSt) {α : Type} (ι : α → mO × mSt) (o : Option α) : Prop := ∀ a, o = some a → mLe σ (ι a).2 ∧ ∀ (lch : Launch) (D : va_G) (ca : Nat → ClassId) (ad : Nat → Nat) (sz : Nat), lch.flags = flags0 →
    vx_Met lch (mY M) (mWsH M hh) (mRm M (mCel (ι a).2 - mCel σ) (mSlo (ι a).2 - mSlo σ)) (mPcs M ad ca D σ sz args) (mQ M (mN σ.1) ad ca D (va_A (mW ad ca σ.1 σ.2.1) sz) (ι a)) (mXC M (mN σ.1) ad ca D (va_A (mW ad ca σ.1 σ.2.1) sz) (ι a)) (mCel (ι a).2 - mCel σ) (mSlo (ι a).2 - mSlo σ) (va_A (mW ad ca σ.1 σ.2.1) sz)
theorem mSl_len (ad : Nat → Nat) : ∀ args : List Value, (lg_sl (args.map (mv ad))).length = (mEl args).length
  | [] => rfl
  | v :: vs => by
    show (lg_sl (mv ad v :: vs.map (mv ad))).length = _
    unfold mEl
    have e : lg_sl (mv ad v :: vs.map (mv ad)) = (if (mv ad v).category = 2 then [Slot.val (mv ad v), .second] else [.val (mv ad v)]) ++ lg_sl (vs.map (mv ad)) := rfl
    have ih := mSl_len ad vs
    rw [e, mv_cat]
    by_cases hc : v.category = 2
    · rw [if_pos hc, if_pos hc]
      simp [ih]
    · rw [if_neg hc, if_neg hc]
      simp [ih]
theorem mMetH.of {M : mM} {hh : List (Nat × Nat × Nat × Nat)} {args : List Value} {σ : mSt} {α : Type} {ι : α → mO × mSt} {o : Option α} (hxe : mXe M = eH hh) (hint : ∀ a, (ι a).1 = .inl (some (.int (match (ι a).1 with | .inl (some (.int v)) => v | _ => 0)))) (hpl : plainName (mY M).cls = true) (hcl : (mY M).cls = mOwn M) (hin : mInit M = true → (mY M).name = "<init>") (hsz : (mEl args).length ≤ mMaxL M)
    (h : mX M (mN σ.1) (mCel σ) (mSlo σ) 0 (mEnt args (mMaxL M)) [] σ ι o) : mMetH M hh args σ ι o := by
  intro a ha
  obtain ⟨h1, h2⟩ := h a ha
  refine ⟨h1, fun lch D ca ad sz hfl => ?_⟩
  refine vx_ofWH hpl rfl ?_
  intro p e s m args' below meth c s₁ B hml hv
  obtain ⟨rfl, hsz9, hP, hK, hD0, hRk, hTF⟩ := hv
  subst hsz9
  have hts0 := atoms_spec (ws := mWsH M hh) B.pre
  have hown : s.vm.findClass (mOwn M) = some m.cls := hcl ▸ findClass_of_methodNamed B.named
  have hD := hD0.self (sz := s.heap.size)
  have htab := vx_table (x := mY M) B (hts0 _ List.mem_cons_self)
  have hc : mCx M p lch e (headSpec (mWsH M hh) (mRm M (mCel (ι a).2 - mCel σ) (mSlo (ι a).2 - mSlo σ))).room s m (args.map (mv ad)).toArray below meth c (va_A (mW ad ca σ.1 σ.2.1) s.heap.size) D ca :=
    ⟨B.exec, B.bytes, hml, hown, fun w hw => hts0 w (List.mem_cons_of_mem _ hw), fun hi => (name_of_methodNamed B.named B.method).1.trans (hin hi), hK, fun q hq => Or.inr hq, Nat.le_refl _, Nat.le_refl _, hfl⟩
  obtain ⟨v, hv9⟩ : ∃ v, (ι a).1 = .inl (some (.int v)) := ⟨_, hint a⟩
  have hia : ι a = (.inl (some (.int v)), (ι a).2) := by rw [← hv9]
  have hend := mEnd_ofI (M := M) (n0 := mN σ.1) (c0 := mCel σ) (s0 := mSlo σ) v (ι a).2 (ad0 := ad) hc B.returns B.notSynchronized
  rw [← hia] at hend
  rw [lg_entry_eq]
  have hl := lv_entry (args.map (mv ad)) (n := mMaxL M) (by rw [mSl_len]; exact hsz)
  have hw := h2 p lch e _ s m _ below meth c _ D ca _ ad hc ⟨hTF, by rw [hxe]; exact htab⟩ (Nat.le_refl _) (Nat.le_refl _) hend ad s.heap [] _ ⟨hP, hD, va_S.rf, mEnt_H hl, fun _ _ => rfl, fun _ => rfl, ⟨Nat.le_refl _, hRk⟩, Nat.le_refl _, Nat.le_refl _⟩
  rw [Nat.sub_self, Nat.sub_self] at hw
  exact hw
def mCalH (M : mM) (hh : List (Nat × Nat × Nat × Nat)) (n : Nat) : Prop := Cond.static (mY M) ∈ wsL_law ∧ Cond.initialized (mY M).cls ∈ wsL_law ∧ Cond.codeWith (mY M) (mCode M) (mMaxL M) (mRet M) hh ∈ wsL_law ∧
  ((mY M).cls ≠ "java/lang/invoke/MethodHandle" ∧ (mY M).cls ≠ "java/lang/invoke/VarHandle" ∧ (parseMethodDescriptor (mY M).desc).map (fun d => d.parameters.length) = some n)
theorem mGH {M : mM} {hh : List (Nat × Nat × Nat × Nat)} {own : String} {n idx : Nat} (h : mCalH M hh n) (hl : Cond.methodLink own idx (mY M) ∈ wsL_law) : GoodIn wsL_law (va_wsS own idx (mY M) (mWsH M hh)) :=
  mGoodC hl (mGoodC h.1 (mGoodC h.2.1 (mGoodC h.2.2.1 mGoodIn)))
theorem x_callH {hh : List (Nat × Nat × Nat × Nat)} {index n : Nat} {As rest : List Value} {o1 : Option (Int32 × mMm × Nat)} {kk : Int32 × mMm × Nat → Option α} (hm : mMetH M' hh As (S, μ, cx, 41 * cx) (iHI S cx (41 * cx)) o1) (hal : mAl M' = false) (hd : decode (mCode M) pc = .ok (.invokestatic index, 3)) (hl : Cond.methodLink (mOwn M) index (mY M') ∈ wsL_law) (hk : mCalH M' hh n) (hn : As.length = n)
    (hroom : mFr M' + 1 ≤ mFr M ∧ 8 + (mMaxL M' + 11) + mLo M' ≤ mLo M) (hst : st = As.reverse ++ rest) (hcat : (rest.map fun v => v.category).sum ≤ 8) (kn : ∀ a : Int32 × mMm × Nat, mX M n0 c0 s0 (pc + 3) l (.int a.1 :: rest) (S, a.2.1, cx + a.2.2, 41 * (cx + a.2.2)) ι (kk a)) : mX M n0 c0 s0 pc l st (S, μ, cx, 41 * cx) ι (o1.bind kk) := by
  intro a ha
  obtain ⟨b1, hb1, hk1⟩ := Option.bind_eq_some_iff.mp ha
  obtain ⟨g1, g2⟩ := hm b1 hb1
  obtain ⟨h1, h2⟩ := kn b1 a hk1
  obtain ⟨vr, μ', ex⟩ := b1
  dsimp only at h1 h2
  have t4 : mN S + (cx + ex) ≤ mCel (ι a).2 := h1.2.1
  have t5 : mTot S + 41 * (cx + ex) ≤ mSlo (ι a).2 := h1.2.2
  refine ⟨⟨h1.1, by show mN S + cx ≤ _; omega, by show mTot S + 41 * cx ≤ _; omega⟩, ?_⟩
  intro p lch e R s m args below meth c A D ca Q ad0 hc ht hr1 hr2 he ad H locs ls hf
  have f8 : c0 ≤ mN S + cx := hf.2.2.2.2.2.2.2.1
  have f9 : s0 ≤ mTot S + 41 * cx := hf.2.2.2.2.2.2.2.2
  have hM := g2 lch D ca ad H.size hc.2.2.2.2.2.2.2.2.2.2
  have hM := vx_toMet hM (fun _ _ _ h => h)
  rw [show mCel (iHI S cx (41 * cx) (vr, μ', ex)).2 - mCel (S, μ, cx, 41 * cx) = ex by show mN S + (cx + ex) - (mN S + cx) = ex; omega, show mSlo (iHI S cx (41 * cx) (vr, μ', ex)).2 - mSlo (S, μ, cx, 41 * cx) = 6 * ex by show mTot S + (41 * cx + 6 * ex) - (mTot S + 41 * cx) = 6 * ex; omega] at hM
  have hF1 := hc.2.2.2.2.2.2.2.2.1
  have hF2 := hc.2.2.2.2.2.2.2.2.2.1
  have hts := hc.2.2.2.2.1
  have hcat' := mCat (ad := ad) rest hcat
  have hrun : va_Run p lch e R s m args below meth c H locs (mCel (S, μ, cx, 41 * cx) - c0) (mSlo (S, μ, cx, 41 * cx) - s0) ex (6 * ex) (F0 m pc ls (st.map (mv ad))) (rest.map (mv ad)) (mQ M' (mN S) ad ca D (va_A (mW ad ca S μ) H.size) (iHI S cx (41 * cx) (vr, μ', ex)) (As.map (mv ad)).toArray) (va_A (mW ad ca S μ) H.size) := by
    refine vx_runSW (hh := hh) (As := As.map (mv ad)) (cc := mCode M) (nL := mMaxL M) (Ts := wsL_law) (own := mOwn M) (n := n) (index := index) (bytes := mCode M') (maxL := mMaxL M') (ret := mRet M') ⟨hc.1, hc.2.1, hc.2.2.1, hc.2.2.2.1, hts⟩ hM (vx_cwSW n hts (mGH hk hl) rfl rfl rfl hk.2.2.2 ⟨?_, ?_⟩) (mPre (M' := M') (fun hz => by rw [hal] at hz; cases hz) hc ht.1 hf As) rfl (by rw [List.length_map]; exact hn) hf.2.2.2.1.1 ?_ (lv_room hcat') hd ⟨?_, ?_⟩
    · show mFr M' + 1 ≤ R.frames; omega
    · show 8 + (mMaxL M' + 11) + mLo M' ≤ R.locals; omega
    · show st.map (mv ad) = _
      rw [hst, List.map_append, List.map_reverse]
    · show mN S + cx - c0 + ex ≤ R.cells; omega
    · show mTot S + 41 * cx - s0 + 6 * ex ≤ R.slots; omega
  refine va_calli (a := (As.map (mv ad)).toArray) hrun hf.2.2.1 (fun q _ h => mFree hc hf q h) (mFree hc hf) (fun r u t H1 locs1 ht1 hvm hw hB hz1 hk1 hS => ?_)
  obtain ⟨rfl, hg⟩ := hw
  have hb9 := mBack hc hf hal ht1 hg hB hS
  have w := h2 p lch e R s m args below meth c A D ca Q ad0 hc ht hr1 hr2 he ad H1 locs1 ls ⟨hb9.1, hb9.2.1, hb9.2.2.1, hb9.2.2.2.1, hb9.2.2.2.2.1, hb9.2.2.2.2.2.1, hb9.2.2.2.2.2.2.1, by show c0 ≤ mN S + (cx + ex); omega, by show s0 ≤ mTot S + 41 * (cx + ex); omega⟩
  refine W.widen (k := mCel (S, μ', cx + ex, 41 * (cx + ex)) - c0) (n := mSlo (S, μ', cx + ex, 41 * (cx + ex)) - s0) ?_ ?_ w
  · show mN S + cx - c0 + ex ≤ mN S + (cx + ex) - c0; omega
  · show mTot S + 41 * cx - s0 + 6 * ex ≤ mTot S + 41 * (cx + ex) - s0; omega
/-! a call that may throw, within a table -/
theorem mMetQ {args : List Value} {o1 : Option (Int32 ⊕ Nat)} (h : mMet M args (S, μ, cx, cy) (iQI S μ cx cy) o1) : mMet M args (S, μ, cx, cy) (iTI S cx cy) (o1.map fun x => (x, μ)) := by
  intro a ha
  obtain ⟨x, hx, rfl⟩ := Option.map_eq_some_iff.mp ha
  have e : iTI S cx cy (x, μ) = iQI S μ cx cy x := by cases x <;> rfl
  rw [e]
  exact h x hx
theorem ifokQ {c : Prop} [dc : Decidable c] {γ δ : Type} {x : Option γ} {g : γ → δ} {a : δ} (h : (if c then x else none).map g = some a) : c := by
  by_cases hc : c
  · exact hc
  · rw [if_neg hc] at h
    cases h
def mCatch (M : mM) (hh : List (Nat × Nat × Nat × Nat)) (pc E tgt : Nat) : Prop := E < 3 ∧ ∃ (pre : List ExceptionTableEntry) (x : ExceptionTableEntry) (suf : List ExceptionTableEntry), tableOf hh = pre ++ x :: suf ∧ (∀ z ∈ pre, z.catchType ≠ 0 ∧ ∃ E', E' < 2 ∧ E ≠ E' ∧ Cond.classLink (mOwn M) z.catchType (mCls E') ∈ wsL_law) ∧ covers x pc = true ∧ x.catchType ≠ 0 ∧ Cond.classLink (mOwn M) x.catchType (mCls E) ∈ wsL_law ∧ x.handlerPc = tgt
def mAst (M : mM) (tgt nx : Nat) : Prop := (∃ q : Fin 4, decode (mCode M) tgt = .ok (.astore_n q, 1) ∧ nx = tgt + 1) ∨ (∃ i : Nat, decode (mCode M) tgt = .ok (.astore i, 2) ∧ nx = tgt + 2)
def mHd (M : mM) (hh : List (Nat × Nat × Nat × Nat)) (n0 c0 s0 pc E : Nat) (S : mSh) (μ : mMm) (cx cy : Nat) {α : Type} (ι : α → mO × mSt) (o : Option α) : Prop := o = none ∨ ∃ tgt nx i, (mCatch M hh pc E tgt ∧ i < mMaxL M ∧ ((∃ q : Fin 4, (q : Nat) = i ∧ decode (mCode M) tgt = .ok (.astore_n q, 1) ∧ nx = tgt + 1) ∨ (decode (mCode M) tgt = .ok (.astore i, 2) ∧ nx = tgt + 2))) ∧ mX M n0 c0 s0 nx [] [] (S, μ, cx + 1, cy + 6) ι o
theorem mHd.no {hh : List (Nat × Nat × Nat × Nat)} {E : Nat} : mHd M hh n0 c0 s0 pc E S μ cx cy ι none := Or.inl rfl
theorem mHd.of {hh : List (Nat × Nat × Nat × Nat)} {E tgt nx i : Nat} (h1 : mCatch M hh pc E tgt) (h3 : i < mMaxL M) (h2 : (∃ q : Fin 4, (q : Nat) = i ∧ decode (mCode M) tgt = .ok (.astore_n q, 1) ∧ nx = tgt + 1) ∨ (decode (mCode M) tgt = .ok (.astore i, 2) ∧ nx = tgt + 2)) (k : mX M n0 c0 s0 nx [] [] (S, μ, cx + 1, cy + 6) ι o) : mHd M hh n0 c0 s0 pc E S μ cx cy ι o := Or.inr ⟨tgt, nx, i, ⟨h1, h3, h2⟩, k⟩
theorem mHd.ite {hh : List (Nat × Nat × Nat × Nat)} {E e : Nat} {o1 o2 : Option α} (h1 : mHd M hh n0 c0 s0 pc e S μ cx cy ι o1) (h2 : mHd M hh n0 c0 s0 pc E S μ cx cy ι o2) : mHd M hh n0 c0 s0 pc E S μ cx cy ι (if E = e then o1 else o2) := by
  by_cases he : E = e
  · rw [if_pos he, he]
    exact h1
  · rw [if_neg he]
    exact h2
theorem mH_nil {ls : Array Slot} {nL : Nat} {ad : Nat → Nat} {q : List (Nat × Value)} (h : lv_has ls nL q) : mH ls nL ad [] := ⟨h.1, h.2.1, fun i v h => by cases h⟩
theorem x_tryT {hh : List (Nat × Nat × Nat × Nat)} {ci b index n : Nat} {As rest : List Value} {C : String} {T : u_T} {N : Nat} {ty : Nat → FieldType} {o1 : Option ((Int32 ⊕ Nat) × mMm)} {kn : Int32 → mMm → Option α} {kx : Nat → mMm → Option α} (fc : mFC ci C T N ty) (hm : mMet M' (.ref b :: As) (S, μ, cx, cy) (iTI S cx cy) o1) (hal : mAl M' = false) (hxe : mXe M = eH hh) (hok : ∀ a, o1 = some a → mok S b ci = true) (hd : decode (mCode M) pc = .ok (.invokevirtual index, 3)) (hl : Cond.methodLink (mOwn M) index (mY M') ∈ wsL_law) (hk : mCalV M' C n) (hn : As.length = n)
    (hroom : mFr M' + 1 ≤ mFr M ∧ 8 + (mMaxL M' + 11) + mLo M' ≤ mLo M) (hst : st = As.reverse ++ .ref b :: rest) (hcat : (rest.map fun v => v.category).sum ≤ 8) (k1 : ∀ v μ', mX M n0 c0 s0 (pc + 3) l (.int v :: rest) (S, μ', cx, cy) ι (kn v μ')) (k2 : ∀ E μ', mHd M hh n0 c0 s0 pc E S μ' cx cy ι (kx E μ')) : mX M n0 c0 s0 pc l st (S, μ, cx, cy) ι (o1.bind fun r => hTry r kn kx) := by
  intro a ha
  obtain ⟨b1, hb1, hk1⟩ := Option.bind_eq_some_iff.mp ha
  obtain ⟨g1, g2⟩ := hm b1 hb1
  have hok1 := hok b1 hb1
  obtain ⟨r, μ'⟩ := b1
  cases r with
  | inl v =>
    obtain ⟨h1, h2⟩ := k1 v μ' a hk1
    refine ⟨h1, ?_⟩
    intro p lch e R s m args below meth c A D ca Q ad0 hc ht hr1 hr2 he ad H locs ls hf
    have hM := g2 lch D ca ad H.size hc.2.2.2.2.2.2.2.2.2.2
    rw [show mCel (iTI S cx cy (.inl v, μ')).2 - mCel (S, μ, cx, cy) = 0 from Nat.sub_self _, show mSlo (iTI S cx cy (.inl v, μ')).2 - mSlo (S, μ, cx, cy) = 0 from Nat.sub_self _] at hM
    have hM := vx_toMet hM (fun _ _ _ h => h)
    have e1 := h1.2.1
    have e2 := h1.2.2
    have hcl : mCel (S, μ, cx, cy) - c0 ≤ R.cells := by
      have e1 : mCel (S, μ, cx, cy) ≤ mCel (ι a).2 := e1
      omega
    have hsl : mSlo (S, μ, cx, cy) - s0 ≤ R.slots := by
      have e2 : mSlo (S, μ, cx, cy) ≤ mSlo (ι a).2 := e2
      omega
    refine va_calli (mRunV hal fc hc ht.1 hf hcl hsl hM hok1 hd hl hk hn hroom hst hcat) hf.2.2.1 (fun q _ h => mFree hc hf q h) (mFree hc hf) (fun r u t H1 locs1 ht1 hvm hw hB hz1 hk1 hS => ?_)
    obtain ⟨rfl, hg⟩ := hw
    exact h2 p lch e R s m args below meth c A D ca Q ad0 hc ht hr1 hr2 he ad H1 locs1 ls (mBack hc hf hal ht1 hg hB hS)
  | inr E =>
    have hk1 : kx E μ' = some a := hk1
    rcases k2 E μ' with h0 | ⟨tgt, nx, i, ⟨hcat9, hi, hast⟩, kX⟩
    · rw [h0] at hk1; cases hk1
    obtain ⟨h1, h2⟩ := kX a hk1
    have t4 : mN S + (cx + 1) ≤ mCel (ι a).2 := h1.2.1
    have t5 : mTot S + (cy + 6) ≤ mSlo (ι a).2 := h1.2.2
    refine ⟨⟨h1.1, by show mN S + cx ≤ _; omega, by show mTot S + cy ≤ _; omega⟩, ?_⟩
    intro p lch e R s m args below meth c A D ca Q ad0 hc ht hr1 hr2 he ad H locs ls hf
    have f8 : c0 ≤ mN S + cx := hf.2.2.2.2.2.2.2.1
    have f9 : s0 ≤ mTot S + cy := hf.2.2.2.2.2.2.2.2
    have hM := g2 lch D ca ad H.size hc.2.2.2.2.2.2.2.2.2.2
    rw [show mCel (iTI S cx cy (.inr E, μ')).2 - mCel (S, μ, cx, cy) = 1 by show mN S + (cx + 1) - (mN S + cx) = 1; omega, show mSlo (iTI S cx cy (.inr E, μ')).2 - mSlo (S, μ, cx, cy) = 6 by show mTot S + (cy + 6) - (mTot S + cy) = 6; omega] at hM
    have hF1 := hc.2.2.2.2.2.2.2.2.1
    have hF2 := hc.2.2.2.2.2.2.2.2.2.1
    have hts := hc.2.2.2.2.1
    have hcat' := mCat (ad := ad) rest hcat
    have hg2 := mW_get ad ca S μ (mok_n hok1)
    rw [mE_obj (mok_k hok1) fc.2.2.2.1] at hg2
    have hp := mPre (M' := M') (fun hz => by rw [hal] at hz; cases hz) hc ht.1 hf (.ref b :: As)
    have hrun : vx_Run p lch e R s m args below meth c H locs (mCel (S, μ, cx, cy) - c0) (mSlo (S, μ, cx, cy) - s0) 1 6 (F0 m pc ls (st.map (mv ad))) (rest.map (mv ad)) (mQ M' (mN S) ad ca D (va_A (mW ad ca S μ) H.size) (iTI S cx cy (.inr E, μ')) ((.ref b :: As).map (mv ad)).toArray) (mXC M' (mN S) ad ca D (va_A (mW ad ca S μ) H.size) (iTI S cx cy (.inr E, μ'))) (va_A (mW ad ca S μ) H.size) := by
      refine vx_runV (As := As.map (mv ad)) (b := ad b) (cc := mCode M) (nL := mMaxL M) (Ts := wsL_law) (own := mOwn M) (C := C) (n := n) (index := index) (bytes := mCode M') (maxL := mMaxL M') (ret := mRet M') ⟨hc.1, hc.2.1, hc.2.2.1, hc.2.2.2.1, hts⟩ hM (cwV n hts (mGV hk hl) rfl rfl rfl hk.2.2.2.2 ⟨?_, ?_⟩) ⟨hp.1, va_recv hc.2.2.2.2.2.2.1 hf.1 fc.1 hg2, hp.2⟩ rfl (by rw [List.length_map]; exact hn) hf.2.2.2.1.1 ?_ (lv_room hcat') hd ⟨?_, ?_⟩
      · show mFr M' + 1 ≤ R.frames; omega
      · show 8 + (mMaxL M' + 11) + mLo M' ≤ R.locals; omega
      · show st.map (mv ad) = _
        rw [hst, List.map_append, List.map_reverse]
        rfl
      · show mN S + cx - c0 + 1 ≤ R.cells; omega
      · show mTot S + cy - s0 + 6 ≤ R.slots; omega
    obtain ⟨hE3, pre, x, suf, htab, hpass, hcov, hx0, hlink, htgt⟩ := hcat9
    have hE9 := ht.2
    rw [hxe] at hE9
    have hE9 : c.exceptionTable.toList = tableOf hh := hE9
    refine vx_calli (a := ((Value.ref b :: As).map (mv ad)).toArray) (post := fun _ (_ : Nat → Nat) => False) (B := fun _ _ => False) (px := fun u => mAg M' (mN S) ad u) (BX := fun nm u t => nm = mCls E ∧ mB M' D ca (va_A (mW ad ca S μ) H.size) S μ' u t) hrun hf.2.2.1 (fun q _ h => mFree hc hf q h) (mFree hc hf) (fun q _ h => mFree hc hf q h) (fun En ce q9 u t H1 locs1 ht1 hvm hg hB hz1 hk9 hS hce hcv hcl => ?_) (fun r u t H1 locs1 ht1 hvm hw hB hz1 hk1 hS => hw.elim)
    obtain ⟨rfl, hB⟩ := hB
    refine vx_catch (name := mCls E) hc.2.2.2.1 pre x suf (hE9.trans htab) (fun z hz => ?_) hcov hx0 (hts _ hlink) (va_Nw.use rfl (ht.1.2.2.2.1 E hE3)) hce hcv hcl ?_
    · obtain ⟨z0, E', hE', hne, hw'⟩ := hpass z hz
      exact Or.inr ⟨z0, _, hts _ hw', ht.1.2.2.2.2.2.2.2.2 E E' hE3 hE' hne⟩
    · rw [htgt]
      have hb9 := mBack hc hf hal ht1 hg hB hS
      have w : ∀ ls' : Array Slot, mH ls' (mMaxL M) ad [] → W p lch e R s m args below meth c H1 locs1 (mCel (S, μ, cx, cy) - c0 + 1) (mSlo (S, μ, cx, cy) - s0 + 6) Q (F0 m nx ls' []) := fun ls' hl' => by
        have w := h2 p lch e R s m args below meth c A D ca Q ad0 hc ht hr1 hr2 he ad H1 locs1 ls' ⟨hb9.1, hb9.2.1, hb9.2.2.1, hl', hb9.2.2.2.2.1, hb9.2.2.2.2.2.1, hb9.2.2.2.2.2.2.1, by show c0 ≤ mN S + (cx + 1); omega, by show s0 ≤ mTot S + (cy + 6); omega⟩
        rw [show mCel (S, μ, cx, cy) - c0 + 1 = mCel (S, μ', cx + 1, cy + 6) - c0 by show mN S + cx - c0 + 1 = mN S + (cx + 1) - c0; omega, show mSlo (S, μ, cx, cy) - s0 + 6 = mSlo (S, μ', cx + 1, cy + 6) - s0 by show mTot S + cy - s0 + 6 = mTot S + (cy + 6) - s0; omega]
        exact w
      rcases hast with ⟨q, hq, hd9, rfl⟩ | ⟨hd9, rfl⟩
      · exact lv_astore_n hc.1 hc.2.1 hd9 hq (mH_has hf.2.2.2.1) hi rfl (fun ls' h' => w ls' (mH_nil h'))
      · exact lv_astore hc.1 hc.2.1 hd9 (mH_has hf.2.2.2.1) hi rfl (fun ls' h' => w ls' (mH_nil h'))
end MLAW
