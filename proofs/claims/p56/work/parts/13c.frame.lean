/-! a call over a smaller world; methods of the law that make rows and leave them behind; the script handed on -/
def dRem (x y : Int32) : Option Int32 := if y = 0 then none else some (x - x / y * y)
def dDiv (x y : Int32) : Option Int32 := if y = 0 then none else some (x / y)
/-- the world of S0 stands at the places ahead in that of S -/
def mPf (S0 S : mSh) : Prop := mN S0 ≤ mN S ∧ ∀ i, i < mN S0 → mKd S i = mKd S0 i ∧ mLn S i = mLn S0 i ∧ ∀ k, mRf S i k = mRf S0 i k
/-- the memory behind a call over n objects -/
def mg (n : Nat) (μ' μ : mMm) : mMm := (fun i k => if i < n then μ'.1 i k else μ.1 i k, fun i k => if i < n then μ'.2 i k else μ.2 i k)
theorem mg_self {n : Nat} {μ : mMm} : mg n μ μ = μ := by
  refine Prod.ext ?_ ?_
  · funext i k; show (if i < n then μ.1 i k else μ.1 i k) = _; split <;> rfl
  · funext i k; show (if i < n then μ.2 i k else μ.2 i k) = _; split <;> rfl
theorem mE_pf {S0 S : mSh} {μ0 μ : mMm} {ad : Nat → Nat} {ca : Nat → ClassId} {i : Nat} (h1 : mKd S i = mKd S0 i) (h2 : mLn S i = mLn S0 i) (h3 : ∀ k, mRf S i k = mRf S0 i k) (h4 : μ.1 i = μ0.1 i) (h5 : μ.2 i = μ0.2 i) : mE ad ca S μ i = mE ad ca S0 μ0 i := by
  simp only [mE, mFs, mVal, h1, h2, h3, h4, h5]
theorem mPf_lo {S0 S : mSh} {μ : mMm} {ad : Nat → Nat} {ca : Nat → ClassId} (hp : mPf S0 S) {i : Nat} (hi : i < mN S0) : mE ad ca S μ i = mE ad ca S0 μ i := mE_pf (hp.2 i hi).1 (hp.2 i hi).2.1 (hp.2 i hi).2.2 rfl rfl
theorem mPf_at {S0 S : mSh} {μ : mMm} {ad : Nat → Nat} {ca : Nat → ClassId} (hp : mPf S0 S) {k : Nat} {q : Nat × va_E} (h : (mW ad ca S0 μ)[k]? = some q) : k < mN S0 ∧ (mW ad ca S μ)[k]? = some q := by
  obtain ⟨h1, h2⟩ := mW_get' h
  refine ⟨h1, ?_⟩
  rw [mW_get ad ca S μ (Nat.lt_of_lt_of_le h1 hp.1), mPf_lo hp h1, h2]
theorem mPf_P {S0 S : mSh} {μ : mMm} {ad : Nat → Nat} {ca : Nat → ClassId} {D : va_G} {H : Heap} (hp : mPf S0 S) (h : va_P D vwCl (mW ad ca S μ) H) : va_P D vwCl (mW ad ca S0 μ) H := fun k q hk => h k q (mPf_at hp hk).2
theorem mPf_D {S0 S : mSh} {μ : mMm} {ad : Nat → Nat} {ca : Nat → ClassId} {A : Nat → Prop} (hp : mPf S0 S) (h : va_D A (mW ad ca S μ)) : va_D A (mW ad ca S0 μ) :=
  ⟨fun i j p q hi hj e => h.1 i j p q (mPf_at hp hi).2 (mPf_at hp hj).2 e, fun k q hk => h.2 k q (mPf_at hp hk).2⟩
theorem mPf_A {S0 S : mSh} {μ : mMm} {ad : Nat → Nat} {ca : Nat → ClassId} {sz : Nat} (hp : mPf S0 S) : ∀ q, va_A (mW ad ca S0 μ) sz q → va_A (mW ad ca S μ) sz q := by
  intro q hq
  rcases hq with ⟨k, e, hk⟩ | hq
  · exact Or.inl ⟨k, e, (mPf_at hp hk).2⟩
  · exact Or.inr hq
/-- the addresses are the world's, whatever it holds -/
theorem mW_ad {S : mSh} {μ μ' : mMm} {ad : Nat → Nat} {ca : Nat → ClassId} {k : Nat} {q : Nat × va_E} (h : (mW ad ca S μ')[k]? = some q) : ∃ e, (mW ad ca S μ)[k]? = some (q.1, e) := by
  obtain ⟨h1, rfl⟩ := mW_get' h
  exact ⟨_, mW_get ad ca S μ h1⟩
theorem mW_D {S : mSh} {μ μ' : mMm} {ad : Nat → Nat} {ca : Nat → ClassId} {A : Nat → Prop} (h : va_D A (mW ad ca S μ)) : va_D A (mW ad ca S μ') := by
  refine ⟨fun i j p q hi hj e => ?_, fun k q hk => ?_⟩
  · obtain ⟨a, ha⟩ := mW_ad (μ := μ) hi
    obtain ⟨b, hb⟩ := mW_ad (μ := μ) hj
    exact h.1 i j _ _ ha hb e
  · obtain ⟨a, ha⟩ := mW_ad (μ := μ) hk
    exact (show A (q.1, a).1 from h.2 k (q.1, a) ha)
/-- what a callee's end over the smaller world says of the larger one -/
theorem mFr_B {M : mM} {S0 S : mSh} {μ μ' : mMm} {ad : Nat → Nat} {ca : Nat → ClassId} {D : va_G} {s t : State} (hal : mAl M = false) (hp : mPf S0 S) (hP : va_P D vwCl (mW ad ca S μ) s.heap) (hD : va_D (fun _ => True) (mW ad ca S μ)) (hB : mB M D ca (va_A (mW ad ca S0 μ) s.heap.size) S0 μ' ad t) (hF : va_F (va_A (mW ad ca S0 μ) s.heap.size) s t) :
    mB M D ca (va_A (mW ad ca S μ) s.heap.size) S (mg (mN S0) μ' μ) ad t ∧ va_F (va_A (mW ad ca S μ) s.heap.size) s t := by
  obtain ⟨h1, h2, h3, h4⟩ := hB
  refine ⟨⟨fun k q hk => ?_, h2, mW_D hD.self, fun hz => by rw [hal] at hz; cases hz⟩, hF.1, fun q hq hn => hF.2 q hq (fun h => hn (mPf_A hp q h))⟩
  obtain ⟨hk1, rfl⟩ := mW_get' hk
  by_cases hlt : k < mN S0
  · have e : mE ad ca S (mg (mN S0) μ' μ) k = mE ad ca S0 μ' k := mE_pf (hp.2 k hlt).1 (hp.2 k hlt).2.1 (hp.2 k hlt).2.2 (by funext j; exact if_pos hlt) (by funext j; exact if_pos hlt)
    rw [e]
    exact h1 k _ (mW_get ad ca S0 μ' hlt)
  · have e : mE ad ca S (mg (mN S0) μ' μ) k = mE ad ca S μ k := mE_pf rfl rfl (fun _ => rfl) (by funext j; exact if_neg hlt) (by funext j; exact if_neg hlt)
    rw [e]
    have hg := mW_get ad ca S μ hk1
    have ha := hP k _ hg
    refine ha.kept (hF.2 _ ha.lt (fun hin => ?_))
    rcases hin with ⟨j, e2, hj⟩ | hin
    · obtain ⟨hj1, hj2⟩ := mPf_at hp hj
      have := hD.1 k j _ _ hg hj2 rfl
      omega
    · exact absurd ha.lt (Nat.not_lt.mpr hin)
/-- one answer's contract -/
def mMet1 (M : mM) (args : List Value) (σ : mSt) (x : mO × mSt) : Prop := mLe σ x.2 ∧ ∀ (lch : Launch) (D : va_G) (ca : Nat → ClassId) (ad : Nat → Nat) (sz : Nat), lch.flags = flags0 →
    vx_Met lch (mY M) (mWs M) (mRm M (mCel x.2 - mCel σ) (mSlo x.2 - mSlo σ)) (mPcs M ad ca D σ sz args) (mQ M (mN σ.1) ad ca D (va_A (mW ad ca σ.1 σ.2.1) sz) x) (mXC M (mN σ.1) ad ca D (va_A (mW ad ca σ.1 σ.2.1) sz) x) (mCel x.2 - mCel σ) (mSlo x.2 - mSlo σ) (va_A (mW ad ca σ.1 σ.2.1) sz)
theorem mMet_1 {M : mM} {args : List Value} {σ : mSt} {α : Type} {ι : α → mO × mSt} {o : Option α} : mMet M args σ ι o = ∀ a, o = some a → mMet1 M args σ (ι a) := rfl
theorem mMet1.fr {M : mM} {args : List Value} {S0 S : mSh} {μ μ' : mMm} {cx cy cx' cy' : Nat} {r : mO} (hal : mAl M = false) (hp : mPf S0 S) (h : mMet1 M args (S0, μ, cx, cy) (r, (S0, μ', cx', cy'))) : mMet1 M args (S, μ, cx, cy) (r, (S, mg (mN S0) μ' μ, cx', cy')) := by
  obtain ⟨g1, g2⟩ := h
  have t2 : mN S0 + cx ≤ mN S0 + cx' := g1.2.1
  have t3 : mTot S0 + cy ≤ mTot S0 + cy' := g1.2.2
  refine ⟨⟨Nat.le_refl _, by show mN S + cx ≤ mN S + cx'; omega, by show mTot S + cy ≤ mTot S + cy'; omega⟩, ?_⟩
  intro lch D ca ad sz hfl
  have hM := g2 lch D ca ad sz hfl
  rw [show mCel (S0, μ', cx', cy') - mCel (S0, μ, cx, cy) = cx' - cx by show mN S0 + cx' - (mN S0 + cx) = _; omega, show mSlo (S0, μ', cx', cy') - mSlo (S0, μ, cx, cy) = cy' - cy by show mTot S0 + cy' - (mTot S0 + cy) = _; omega] at hM
  show vx_Met lch (mY M) (mWs M) (mRm M (mCel (S, mg (mN S0) μ' μ, cx', cy') - mCel (S, μ, cx, cy)) (mSlo (S, mg (mN S0) μ' μ, cx', cy') - mSlo (S, μ, cx, cy))) _ _ _ (mCel (S, mg (mN S0) μ' μ, cx', cy') - mCel (S, μ, cx, cy)) (mSlo (S, mg (mN S0) μ' μ, cx', cy') - mSlo (S, μ, cx, cy)) _
  rw [show mCel (S, mg (mN S0) μ' μ, cx', cy') - mCel (S, μ, cx, cy) = cx' - cx by show mN S + cx' - (mN S + cx) = _; omega, show mSlo (S, mg (mN S0) μ' μ, cx', cy') - mSlo (S, μ, cx, cy) = cy' - cy by show mTot S + cy' - (mTot S + cy) = _; omega]
  intro p e ha hc hk s m args0 below hf happ hP0 ht
  obtain ⟨rfl, hsz, hP, hK, hD, hRk, hTF⟩ := hP0
  subst hsz
  obtain ⟨k, o9, h1, h2, h3, hQ⟩ := hM p e ha hc hk s m _ below hf happ ⟨rfl, rfl, mPf_P hp hP, hK, mPf_D hp hD, fun hz => (by rw [hal] at hz; cases hz), ⟨hTF.1.narrow (mPf_A hp), hTF.2.1.narrow (mPf_A hp), hTF.2.2⟩⟩ ht
  refine ⟨k, o9, h1, h2, h3, ?_⟩
  have hg : ∀ u : Nat → Nat, mAg M (mN S0) ad u → u = ad := fun u hu => hu.2 hal
  have hg2 : mAg M (mN S) ad ad := ⟨fun _ _ => rfl, fun _ => rfl⟩
  rcases hQ with ⟨hq, L, hL, hfr⟩ | ⟨q, ho, E, ce, L, hx, c1, c2, c3, c4, c5, c6⟩
  · refine Or.inl ⟨?_, L, hL, fun z hz => mPf_A hp _ (hfr z hz)⟩
    cases r with
    | inl r =>
      cases r with
      | none =>
        obtain ⟨⟨u, ho, hu, hB⟩, hF⟩ := hq
        have := hg u hu
        subst this
        obtain ⟨b1, b2⟩ := mFr_B hal hp hP hD hB hF
        exact ⟨⟨u, ho, hg2, b1⟩, b2⟩
      | some v =>
        cases v with
        | int v =>
          obtain ⟨⟨r9, u, ho, ⟨hr, hu⟩, hB⟩, hF⟩ := hq
          have := hg u hu
          subst this
          obtain ⟨b1, b2⟩ := mFr_B hal hp hP hD hB hF
          exact ⟨⟨r9, u, ho, ⟨hr, hg2⟩, b1⟩, b2⟩
        | long v =>
          obtain ⟨⟨r9, u, ho, ⟨hr, hu⟩, hB⟩, hF⟩ := hq
          have := hg u hu
          subst this
          obtain ⟨b1, b2⟩ := mFr_B hal hp hP hD hB hF
          exact ⟨⟨r9, u, ho, ⟨hr, hg2⟩, b1⟩, b2⟩
        | double v =>
          obtain ⟨⟨r9, u, ho, ⟨hr, hu⟩, hB⟩, hF⟩ := hq
          have := hg u hu
          subst this
          obtain ⟨b1, b2⟩ := mFr_B hal hp hP hD hB hF
          exact ⟨⟨r9, u, ho, ⟨hr, hg2⟩, b1⟩, b2⟩
        | _ => exact trivial
    | inr E =>
      obtain ⟨⟨r9, u, ho, hr, hB⟩, hF⟩ := hq
      exact hr.elim
  · refine Or.inr ⟨q, ho, E, ce, L, ?_, c1, c2, c3, c4, c5, fun z hz => mPf_A hp _ (c6 z hz)⟩
    cases r with
    | inl r => exact hx.elim
    | inr E9 =>
      obtain ⟨u, hu, ⟨hn, hB⟩, hF⟩ := hx
      have := hg u hu
      subst this
      obtain ⟨b1, b2⟩ := mFr_B hal hp hP hD hB hF
      exact ⟨u, hg2, ⟨hn, b1⟩, b2⟩
/-! a class' method, called by the law's methods -/
noncomputable def cT (S0 S : mSh) (μ : mMm) (x : Option ((Int32 ⊕ Nat) × mMm)) : Option ((Int32 ⊕ Nat) × mMm) := @ite _ (mPf S0 S) (Classical.propDecidable _) (x.map fun r => (r.1, mg (mN S0) r.2 μ)) none
noncomputable def cV (S0 S : mSh) (μ : mMm) (x : Option ((Int32 ⊕ Nat) × mMm)) : Option (Int32 × mMm) := (cT S0 S μ x).bind fun r => match r.1 with
  | .inl v => some (v, r.2)
  | .inr _ => none
noncomputable def cM (S0 S : mSh) (μ : mMm) (x : Option (Int32 × mMm)) : Option (Int32 × mMm) := @ite _ (mPf S0 S) (Classical.propDecidable _) (x.map fun r => (r.1, mg (mN S0) r.2 μ)) none
noncomputable def cD (S0 S : mSh) (x : Option UInt64) : Option UInt64 := @ite _ (mPf S0 S) (Classical.propDecidable _) x none
theorem cI {α : Type} {P : Prop} {dP : Decidable P} {x : Option α} {a : α} (h : @ite _ P dP x none = some a) : P ∧ x = some a := by
  by_cases hp : P
  · rw [if_pos hp] at h
    exact ⟨hp, h⟩
  · rw [if_neg hp] at h
    cases h
theorem mPf_ok {S0 S : mSh} {o c : Nat} (hp : mPf S0 S) (h : mok S0 o c = true) : mok S o c = true := by
  have h1 := mok_n h
  have h2 := mok_k h
  have := (hp.2 o h1).1
  simp only [mok, Bool.and_eq_true, decide_eq_true_eq]
  exact ⟨Nat.lt_of_lt_of_le h1 hp.1, this.trans h2⟩
theorem cTok {S0 S : mSh} {μ : mMm} {o c : Nat} {x : Option ((Int32 ⊕ Nat) × mMm)} {a : (Int32 ⊕ Nat) × mMm} (h : cT S0 S μ (if mok S0 o c = true then x else none) = some a) : mok S o c = true := by
  obtain ⟨h1, h2⟩ := cI h
  obtain ⟨r, h3, -⟩ := Option.map_eq_some_iff.mp h2
  exact mPf_ok h1 (ifok h3)
theorem cVok {S0 S : mSh} {μ : mMm} {o c : Nat} {x : Option ((Int32 ⊕ Nat) × mMm)} {a : Int32 × mMm} (h : cV S0 S μ (if mok S0 o c = true then x else none) = some a) : mok S o c = true := by
  obtain ⟨r, h1, -⟩ := Option.bind_eq_some_iff.mp h
  exact cTok h1
theorem cQok {S0 S : mSh} {μ μ9 : mMm} {o c : Nat} {x : Option (Int32 ⊕ Nat)} {a : Int32 × mMm} (h : cV S0 S μ ((if mok S0 o c = true then x else none).map fun x => (x, μ9)) = some a) : mok S o c = true := by
  obtain ⟨r, h1, -⟩ := Option.bind_eq_some_iff.mp h
  obtain ⟨h1, h2⟩ := cI h1
  obtain ⟨r, h3, -⟩ := Option.map_eq_some_iff.mp h2
  obtain ⟨r, h4, -⟩ := Option.map_eq_some_iff.mp h3
  exact mPf_ok h1 (ifok h4)
theorem cMok {S0 S : mSh} {μ : mMm} {o c : Nat} {x : Option (Int32 × mMm)} {a : Int32 × mMm} (h : cM S0 S μ (if mok S0 o c = true then x else none) = some a) : mok S o c = true := by
  obtain ⟨h1, h2⟩ := cI h
  obtain ⟨r, h3, -⟩ := Option.map_eq_some_iff.mp h2
  exact mPf_ok h1 (ifok h3)
theorem cPok {S0 S : mSh} {μ μ9 : mMm} {o c : Nat} {x : Option Int32} {a : Int32 × mMm} (h : cM S0 S μ ((if mok S0 o c = true then x else none).map fun x => (x, μ9)) = some a) : mok S o c = true := by
  obtain ⟨h1, h2⟩ := cI h
  obtain ⟨r, h3, -⟩ := Option.map_eq_some_iff.mp h2
  obtain ⟨r, h4, -⟩ := Option.map_eq_some_iff.mp h3
  exact mPf_ok h1 (ifok h4)
theorem cDok {S0 S : mSh} {o c : Nat} {x : Option UInt64} {a : UInt64} (h : cD S0 S (if mok S0 o c = true then x else none) = some a) : mok S o c = true := by
  obtain ⟨h1, h2⟩ := cI h
  exact mPf_ok h1 (ifok h2)
section MFRAME
variable {M M' : mM} {n0 c0 s0 : Nat} {pc : Nat} {l : List (Option Value)} {st : List Value} {S S0 : mSh} {μ : mMm} {cx cy : Nat} {α β : Type} {ι : α → mO × mSt} {o : Option α}
theorem mFrT {args : List Value} {x : Option ((Int32 ⊕ Nat) × mMm)} (hal : mAl M = false) (h : mMet M args (S0, μ, cx, cy) (iTI S0 cx cy) x) : mMet M args (S, μ, cx, cy) (iTI S cx cy) (cT S0 S μ x) := by
  intro a ha
  obtain ⟨hp, h2⟩ := cI ha
  obtain ⟨r, h3, rfl⟩ := Option.map_eq_some_iff.mp h2
  have hm := h r h3
  obtain ⟨r, μ'⟩ := r
  cases r with
  | inl v => exact mMet1.fr hal hp hm
  | inr E => exact mMet1.fr hal hp hm
theorem mFrV {args : List Value} {x : Option ((Int32 ⊕ Nat) × mMm)} (hal : mAl M = false) (h : mMet M args (S0, μ, cx, cy) (iTI S0 cx cy) x) : mMet M args (S, μ, cx, cy) (iMI S cx cy) (cV S0 S μ x) := by
  intro a ha
  obtain ⟨r, h1, h2⟩ := Option.bind_eq_some_iff.mp ha
  have hm := mFrT hal h r h1
  obtain ⟨r, μ'⟩ := r
  cases r with
  | inl v =>
    have h2 : some (v, μ') = some a := h2
    cases h2
    exact hm
  | inr E => cases h2
theorem mFrM {args : List Value} {x : Option (Int32 × mMm)} (hal : mAl M = false) (h : mMet M args (S0, μ, cx, cy) (iMI S0 cx cy) x) : mMet M args (S, μ, cx, cy) (iMI S cx cy) (cM S0 S μ x) := by
  intro a ha
  obtain ⟨hp, h2⟩ := cI ha
  obtain ⟨r, h3, rfl⟩ := Option.map_eq_some_iff.mp h2
  exact mMet1.fr hal hp (h r h3)
theorem mMetP {args : List Value} {x : Option Int32} (h : mMet M args (S, μ, cx, cy) (iPI S μ cx cy) x) : mMet M args (S, μ, cx, cy) (iMI S cx cy) (x.map fun x => (x, μ)) := by
  intro a ha
  obtain ⟨x, hx, rfl⟩ := Option.map_eq_some_iff.mp ha
  exact h x hx
theorem mFrD {args : List Value} {x : Option UInt64} (hal : mAl M = false) (h : mMet M args (S0, μ, cx, cy) (iPD S0 μ cx cy) x) : mMet M args (S, μ, cx, cy) (iPD S μ cx cy) (cD S0 S x) := by
  intro a ha
  obtain ⟨hp, h2⟩ := cI ha
  have := mMet1.fr hal hp (h a h2)
  rw [mg_self] at this
  exact this
/-! rows of instructions -/
theorem mX.opt {pc' : Nat} {st' : Int32 → List Value} {g : Option Int32} {kk : Int32 → Option α} {σ : mSt} (h : ∀ b, g = some b → mX M n0 c0 s0 pc' l (st' b) σ ι (kk b) → mX M n0 c0 s0 pc l st σ ι (kk b)) (k : ∀ b, mX M n0 c0 s0 pc' l (st' b) σ ι (kk b)) : mX M n0 c0 s0 pc l st σ ι (g.bind kk) := by
  cases g with
  | none => exact x_none
  | some b => exact h b rfl (k b)
theorem x_irem {x y : Int32} {kk : Int32 → Option α} {σ : mSt} (hd : decode (mCode M) pc = .ok (.irem, 1)) (kn : ∀ v, mX M n0 c0 s0 (pc + 1) l (.int v :: st) σ ι (kk v)) : mX M n0 c0 s0 pc l (.int y :: .int x :: st) σ ι ((dRem x y).bind kk) :=
  mX.opt (st' := fun v => .int v :: st) (fun b hb k => by
    unfold dRem at hb
    by_cases hy : y = 0
    · rw [if_pos hy] at hb; cases hb
    · rw [if_neg hy] at hb
      cases hb
      exact mX.step (fun _ _ _ _ _ _ _ _ _ _ _ _ _ _ _ _ _ _ _ _ hc _ _ hl w => lv_irem hc.1 hc.2.1 hd hy w) k) kn
theorem x_idiv {x y : Int32} {kk : Int32 → Option α} {σ : mSt} (hd : decode (mCode M) pc = .ok (.idiv, 1)) (kn : ∀ v, mX M n0 c0 s0 (pc + 1) l (.int v :: st) σ ι (kk v)) : mX M n0 c0 s0 pc l (.int y :: .int x :: st) σ ι ((dDiv x y).bind kk) :=
  mX.opt (st' := fun v => .int v :: st) (fun b hb k => by
    unfold dDiv at hb
    by_cases hy : y = 0
    · rw [if_pos hy] at hb; cases hb
    · rw [if_neg hy] at hb
      cases hb
      exact mX.step (fun _ _ _ _ _ _ _ _ _ _ _ _ _ _ _ _ _ _ _ _ hc _ _ hl w => lv_idiv hc.1 hc.2.1 hd hy w) k) kn
theorem x_ineg {x : Int32} {σ : mSt} (hd : decode (mCode M) pc = .ok (.ineg, 1)) (k : mX M n0 c0 s0 (pc + 1) l (.int (-x) :: st) σ ι o) : mX M n0 c0 s0 pc l (.int x :: st) σ ι o :=
  mX.step (fun _ _ _ _ _ _ _ _ _ _ _ _ _ _ _ _ _ _ _ _ hc _ _ hl w => lv_ineg hc.1 hc.2.1 hd w) k
theorem x_ishr {x y : Int32} {σ : mSt} (hd : decode (mCode M) pc = .ok (.ishr, 1)) (k : mX M n0 c0 s0 (pc + 1) l (.int (x >>> (y &&& 31)) :: st) σ ι o) : mX M n0 c0 s0 pc l (.int y :: .int x :: st) σ ι o :=
  mX.step (fun _ _ _ _ _ _ _ _ _ _ _ _ _ _ _ _ _ _ _ _ hc _ _ hl w => lv_ishr hc.1 hc.2.1 hd w) k
/-- fewer places are known -/
def mWk : List (Option Value) → List (Option Value) → Prop
  | [], [] => True
  | x :: xs, y :: ys => (y = none ∨ y = x) ∧ mWk xs ys
  | _, _ => False
theorem mWk_get : ∀ (l l' : List (Option Value)) (i : Nat) (v : Value), mWk l l' → l'[i]? = some (some v) → l[i]? = some (some v)
  | [], [], i, v, _, h => h
  | x :: xs, y :: ys, 0, v, h, h2 => by
    rcases h.1 with h1 | h1
    · rw [h1] at h2; cases h2
    · rw [h1] at h2; exact h2
  | x :: xs, y :: ys, i + 1, v, h, h2 => mWk_get xs ys i v h.2 h2
  | [], _ :: _, _, _, h, _ => h.elim
  | _ :: _, [], _, _, h, _ => h.elim
theorem x_wk {l' : List (Option Value)} {σ : mSt} (hw : mWk l l') (k : mX M n0 c0 s0 pc l' st σ ι o) : mX M n0 c0 s0 pc l st σ ι o := by
  intro a ha
  obtain ⟨h1, h2⟩ := k a ha
  refine ⟨h1, ?_⟩
  intro p lch e R s m args below meth c A D ca Q ad0 hc ht hr1 hr2 he ad H locs ls hf
  exact h2 p lch e R s m args below meth c A D ca Q ad0 hc ht hr1 hr2 he ad H locs ls ⟨hf.1, hf.2.1, hf.2.2.1, ⟨hf.2.2.2.1.1, hf.2.2.2.1.2.1, fun i v h => hf.2.2.2.1.2.2 i v (mWk_get _ _ i v hw h)⟩, hf.2.2.2.2⟩
/-! a method of the law that makes rows: behind the call they are left -/
noncomputable def fgt (S : mSh) (x : Option (Int32 × mSh × mMm × Nat)) : Option (Int32 × mMm × Nat) := x.bind fun a => @ite _ (mPf S a.2.1 ∧ mTot S ≤ mTot a.2.1 ∧ mTot a.2.1 ≤ mTot S + 41 * (mN a.2.1 - mN S)) (Classical.propDecidable _) (some (a.1, a.2.2.1, a.2.2.2 + (mN a.2.1 - mN S))) none
theorem x_callA {index n : Nat} {As rest : List Value} {o1 : Option (Int32 × mSh × mMm × Nat)} {kk : Int32 × mMm × Nat → Option α} (hm : mMet M' As (S, μ, cx, 41 * cx) iAI o1) (hal : mAl M = true) (hd : decode (mCode M) pc = .ok (.invokestatic index, 3)) (hl : Cond.methodLink (mOwn M) index (mY M') ∈ wsL_law) (hk : mCalS M' n) (hn : As.length = n)
    (hroom : mFr M' + 1 ≤ mFr M ∧ 8 + (mMaxL M' + 11) + mLo M' ≤ mLo M) (hst : st = As.reverse ++ rest) (hcat : (rest.map fun v => v.category).sum ≤ 8) (kn : ∀ a : Int32 × mMm × Nat, mX M n0 c0 s0 (pc + 3) l (.int a.1 :: rest) (S, a.2.1, cx + a.2.2, 41 * (cx + a.2.2)) ι (kk a)) : mX M n0 c0 s0 pc l st (S, μ, cx, 41 * cx) ι ((if mvk S l rest = true then fgt S o1 else none).bind kk) := by
  intro a ha
  obtain ⟨b0, hb0, hk1⟩ := Option.bind_eq_some_iff.mp ha
  have hv := ifok hb0
  rw [if_pos hv] at hb0
  obtain ⟨b1, hb1, hb2⟩ := Option.bind_eq_some_iff.mp hb0
  obtain ⟨⟨hp, hq0, hq⟩, hb3⟩ := cI hb2
  cases hb3
  obtain ⟨g1, g2⟩ := hm b1 hb1
  obtain ⟨h1, h2⟩ := kn _ a hk1
  obtain ⟨vr, S', μ', ex⟩ := b1
  dsimp only at h1 h2 hp hq hq0
  have t1 : mN S ≤ mN S' := hp.1
  have t2 : mN S + cx ≤ mN S' + ex := g1.2.1
  have t3 : mTot S + 41 * cx ≤ mTot S' + 41 * ex := g1.2.2
  have t4 : mN S + (cx + (ex + (mN S' - mN S))) ≤ mCel (ι a).2 := h1.2.1
  have t5 : mTot S + 41 * (cx + (ex + (mN S' - mN S))) ≤ mSlo (ι a).2 := h1.2.2
  have hM := fun lch D ca ad sz hfl => vx_toMet (g2 lch D ca ad sz hfl) (fun _ _ _ h => h)
  refine ⟨⟨h1.1, by show mN S + cx ≤ _; omega, by show mTot S + 41 * cx ≤ _; omega⟩, ?_⟩
  intro p lch e R s m args below meth c A D ca Q ad0 hc ht hr1 hr2 he ad H locs ls hf
  have f7 : n0 ≤ mN S := hf.2.2.2.2.2.2.1.1
  have f8 : c0 ≤ mN S + cx := hf.2.2.2.2.2.2.2.1
  have f9 : s0 ≤ mTot S + 41 * cx := hf.2.2.2.2.2.2.2.2
  have hM := hM lch D ca ad H.size hc.2.2.2.2.2.2.2.2.2.2
  rw [show mCel (iAI (vr, S', μ', ex)).2 - mCel (S, μ, cx, 41 * cx) = (mN S' + ex) - (mN S + cx) from rfl, show mSlo (iAI (vr, S', μ', ex)).2 - mSlo (S, μ, cx, 41 * cx) = (mTot S' + 41 * ex) - (mTot S + 41 * cx) from rfl] at hM
  have hF1 := hc.2.2.2.2.2.2.2.2.1
  have hF2 := hc.2.2.2.2.2.2.2.2.2.1
  have hts := hc.2.2.2.2.1
  have hcat' := mCat (ad := ad) rest hcat
  have hrun : va_Run p lch e R s m args below meth c H locs (mCel (S, μ, cx, 41 * cx) - c0) (mSlo (S, μ, cx, 41 * cx) - s0) ((mN S' + ex) - (mN S + cx)) ((mTot S' + 41 * ex) - (mTot S + 41 * cx)) (F0 m pc ls (st.map (mv ad))) (rest.map (mv ad)) (mQ M' (mN S) ad ca D (va_A (mW ad ca S μ) H.size) (iAI (vr, S', μ', ex)) (As.map (mv ad)).toArray) (va_A (mW ad ca S μ) H.size) := by
    refine va_runS (As := As.map (mv ad)) (cc := mCode M) (nL := mMaxL M) (Ts := wsL_law) (own := mOwn M) (n := n) (index := index) (bytes := mCode M') (maxL := mMaxL M') (ret := mRet M') ⟨hc.1, hc.2.1, hc.2.2.1, hc.2.2.2.1, hts⟩ hM (va_cwS n hts (mGS hk hl) rfl rfl rfl hk.2.2.2 ⟨?_, ?_⟩) (mPre (M' := M') (fun _ => hal) hc ht.1 hf As) rfl (by rw [List.length_map]; exact hn) hf.2.2.2.1.1 ?_ (lv_room hcat') hd ⟨?_, ?_⟩
    · show mFr M' + 1 ≤ R.frames; omega
    · show 8 + (mMaxL M' + 11) + mLo M' ≤ R.locals; omega
    · show st.map (mv ad) = _
      rw [hst, List.map_append, List.map_reverse]
    · show mN S + cx - c0 + ((mN S' + ex) - (mN S + cx)) ≤ R.cells; omega
    · show mTot S + 41 * cx - s0 + ((mTot S' + 41 * ex) - (mTot S + 41 * cx)) ≤ R.slots; omega
  refine va_calli (a := (As.map (mv ad)).toArray) hrun hf.2.2.1 (fun q _ h => mFree hc hf q h) (mFree hc hf) (fun r u t H1 locs1 ht1 hvm hw hB hz1 hk1 hS => ?_)
  obtain ⟨rfl, hg⟩ := hw
  obtain ⟨hP1, -, hD1, -⟩ := hB
  rw [ht1] at hP1
  have hPS := mPf_P hp hP1
  have hDS := mPf_D hp hD1
  have w := h2 p lch e R s m args below meth c A D ca Q ad0 hc ht hr1 hr2 he u H1 locs1 ls ⟨hPS, hDS.weaken (fun _ q _ hq => mFree hc hf q.1 hq), hS, mH_ag hg.1 (mvk_l hv) hf.2.2.2.1, fun i hi => (hg.1 i (by omega)).trans (hf.2.2.2.2.1 i hi), fun hz => absurd (hal.symm.trans hz) (by decide), ⟨f7, hf.2.2.2.2.2.2.1.2⟩, by show c0 ≤ mN S + (cx + (ex + (mN S' - mN S))); omega, by show s0 ≤ mTot S + 41 * (cx + (ex + (mN S' - mN S))); omega⟩
  have w2 : W p lch e R s m args below meth c H1 locs1 (mN S + (cx + (ex + (mN S' - mN S))) - c0) (mTot S + 41 * (cx + (ex + (mN S' - mN S))) - s0) Q (F0 m (pc + 3) ls (.int r :: rest.map (mv ad))) := by
    have e9 : (Value.int r :: rest).map (mv u) = .int r :: rest.map (mv ad) := by
      rw [List.map_cons, mst_ag hg.1 (mvk_s hv)]
      rfl
    rw [e9] at w
    exact w
  refine W.widen ?_ ?_ w2
  · show mN S + cx - c0 + ((mN S' + ex) - (mN S + cx)) ≤ mN S + (cx + (ex + (mN S' - mN S))) - c0; omega
  · show mTot S + 41 * cx - s0 + ((mTot S' + 41 * ex) - (mTot S + 41 * cx)) ≤ mTot S + 41 * (cx + (ex + (mN S' - mN S))) - s0; omega
/-! the script, handed on -/
def mPcx (b L : Nat) (xs : Nat → Int32) (M : mM) (ad : Nat → Nat) (ca : Nat → ClassId) (D : va_G) (σ : mSt) (sz : Nat) (args : List Value) : Array Value → State → Prop := fun v U => mPcs M ad ca D σ sz args v U ∧ (ad 1000 = b ∧ va_X b L xs U U.heap ∧ b < U.heap.size ∧ ¬ va_A (mW ad ca σ.1 σ.2.1) sz b)
def mMetX (M : mM) (b L : Nat) (xs : Nat → Int32) (args : List Value) (σ : mSt) {α : Type} (ι : α → mO × mSt) (o : Option α) : Prop := ∀ a, o = some a → mLe σ (ι a).2 ∧ ∀ (lch : Launch) (D : va_G) (ca : Nat → ClassId) (ad : Nat → Nat) (sz : Nat), lch.flags = flags0 →
    vx_Met lch (mY M) (mWs M) (mRm M (mCel (ι a).2 - mCel σ) (mSlo (ι a).2 - mSlo σ)) (mPcx b L xs M ad ca D σ sz args) (mQ M (mN σ.1) ad ca D (va_A (mW ad ca σ.1 σ.2.1) sz) (ι a)) (mXC M (mN σ.1) ad ca D (va_A (mW ad ca σ.1 σ.2.1) sz) (ι a)) (mCel (ι a).2 - mCel σ) (mSlo (ι a).2 - mSlo σ) (va_A (mW ad ca σ.1 σ.2.1) sz)
theorem mPcx_blind {b L : Nat} {xs : Nat → Int32} {M : mM} {ad : Nat → Nat} {ca : Nat → ClassId} {D : va_G} {σ : mSt} {sz : Nat} {args : List Value} : FrameBlind (mPcx b L xs M ad ca D σ sz args) := by
  intro a U g mk q
  exact ⟨mPcs_blind a U g mk q.1, q.2.1, va_X.moved (u := U) (U := U.calling g mk a) (Vm.Alike.refl U.vm) q.2.2.1, q.2.2.2⟩
theorem mMetX.of {M : mM} {b L : Nat} {xs : Nat → Int32} {args : List Value} {σ : mSt} {α : Type} {ι : α → mO × mSt} {o : Option α} (hxe : mXe M = eL b L xs) (hpl : plainName (mY M).cls = true) (hcl : (mY M).cls = mOwn M) (hin : mInit M = true → (mY M).name = "<init>") (hsz : (mEl args).length ≤ mMaxL M)
    (h : mX M (mN σ.1) (mCel σ) (mSlo σ) 0 (mEnt args (mMaxL M)) [] σ ι o) : mMetX M b L xs args σ ι o := by
  intro a ha
  obtain ⟨h1, h2⟩ := h a ha
  refine ⟨h1, fun lch D ca ad sz hfl => ?_⟩
  refine vx_ofW hpl rfl ?_
  intro p e s m args' below meth c s₁ B hml hex hv
  obtain ⟨⟨rfl, hsz9, hP, hK, hD0, hRk, hTF⟩, hE⟩ := hv
  subst hsz9
  have hts0 := atoms_spec (ws := mWs M) B.pre
  have hown : s.vm.findClass (mOwn M) = some m.cls := hcl ▸ findClass_of_methodNamed B.named
  have hD := hD0.self (sz := s.heap.size)
  have hc : mCx M p lch e (headSpec (mWs M) (mRm M (mCel (ι a).2 - mCel σ) (mSlo (ι a).2 - mSlo σ))).room s m (args.map (mv ad)).toArray below meth c (va_A (mW ad ca σ.1 σ.2.1) s.heap.size) D ca :=
    ⟨B.exec, B.bytes, hml, hown, fun w hw => hts0 w (List.mem_cons_of_mem _ hw), fun hi => (name_of_methodNamed B.named B.method).1.trans (hin hi), hK, fun q hq => Or.inr hq, Nat.le_refl _, Nat.le_refl _, hfl⟩
  have hend := mEnd_of (M := M) (n0 := mN σ.1) (c0 := mCel σ) (s0 := mSlo σ) (ι a) (ad0 := ad) hc hTF (Nat.le_refl _) (Nat.le_refl _) B.returns B.notSynchronized hex
  rw [lg_entry_eq]
  have hl := lv_entry (args.map (mv ad)) (n := mMaxL M) (by rw [mSl_len]; exact hsz)
  have hw := h2 p lch e _ s m _ below meth c _ D ca _ ad hc ⟨hTF, by rw [hxe]; exact hE⟩ (Nat.le_refl _) (Nat.le_refl _) hend ad s.heap [] _ ⟨hP, hD, va_S.rf, mEnt_H hl, fun _ _ => rfl, fun _ => rfl, ⟨Nat.le_refl _, hRk⟩, Nat.le_refl _, Nat.le_refl _⟩
  rw [Nat.sub_self, Nat.sub_self] at hw
  exact hw
theorem x_callX {b L : Nat} {xs : Nat → Int32} {index n : Nat} {As rest : List Value} {o1 : Option β} {ι' : β → mO × mSt} {vx : β → Int32} {kk : β → Option α} (hxe : mXe M = eL b L xs) (hm : mMetX M' b L xs As (S, μ, cx, cy) ι' o1) (hι : ∀ a, ι' a = (.inl (some (.int (vx a))), (S, μ, cx, cy))) (hal : mAl M' = false) (hd : decode (mCode M) pc = .ok (.invokestatic index, 3)) (hl : Cond.methodLink (mOwn M) index (mY M') ∈ wsL_law) (hk : mCalS M' n) (hn : As.length = n)
    (hroom : mFr M' + 1 ≤ mFr M ∧ 8 + (mMaxL M' + 11) + mLo M' ≤ mLo M) (hst : st = As.reverse ++ rest) (hcat : (rest.map fun v => v.category).sum ≤ 8) (kn : ∀ a, mX M n0 c0 s0 (pc + 3) l (.int (vx a) :: rest) (S, μ, cx, cy) ι (kk a)) : mX M n0 c0 s0 pc l st (S, μ, cx, cy) ι (o1.bind kk) := by
  intro a ha
  obtain ⟨b1, hb1, hk1⟩ := Option.bind_eq_some_iff.mp ha
  obtain ⟨g1, g2⟩ := hm b1 hb1
  obtain ⟨h1, h2⟩ := kn b1 a hk1
  refine ⟨h1, ?_⟩
  intro p lch e R s m args below meth c A D ca Q ad0 hc ht hr1 hr2 he ad H locs ls hf
  have hM := g2 lch D ca ad H.size hc.2.2.2.2.2.2.2.2.2.2
  rw [hι b1] at hM
  rw [show mCel (S, μ, cx, cy) - mCel (S, μ, cx, cy) = 0 from Nat.sub_self _, show mSlo (S, μ, cx, cy) - mSlo (S, μ, cx, cy) = 0 from Nat.sub_self _] at hM
  have hM := vx_toMet hM (fun _ _ _ h => h)
  have e1 := h1.2.1
  have e2 := h1.2.2
  have hcl : mCel (S, μ, cx, cy) - c0 ≤ R.cells := by
    have e1 : mCel (S, μ, cx, cy) ≤ mCel (ι a).2 := e1
    omega
  have hsl : mSlo (S, μ, cx, cy) - s0 ≤ R.slots := by
    have e2 : mSlo (S, μ, cx, cy) ≤ mSlo (ι a).2 := e2
    omega
  have hE := ht.2
  rw [hxe] at hE
  obtain ⟨x1, x2, x3, x4⟩ := hE
  have had : ad 1000 = b := (hf.2.2.2.2.1 1000 (Or.inr (Nat.le_refl _))).trans x1
  have hpre := mPre (M' := M') (fun hz => by rw [hal] at hz; cases hz) hc ht.1 hf As
  have hpreX : PreS s H (mPcx b L xs M' ad ca D (S, μ, cx, cy) H.size As) (As.map (mv ad)) :=
    ⟨mPcx_blind, fun U hU hW => ⟨hpre.2 U hU hW, had, by
      rw [hU]
      exact (x2.kept (hf.2.2.1.2.1 b x3 x4)).moved hW.alike, by rw [hU]; exact Nat.lt_of_lt_of_le x3 hf.2.2.1.1, fun h => x4 (mFree hc hf _ h)⟩⟩
  have hF1 := hc.2.2.2.2.2.2.2.2.1
  have hF2 := hc.2.2.2.2.2.2.2.2.2.1
  have hrun : va_Run p lch e R s m args below meth c H locs (mCel (S, μ, cx, cy) - c0) (mSlo (S, μ, cx, cy) - s0) 0 0 (F0 m pc ls (st.map (mv ad))) (rest.map (mv ad)) (mQ M' (mN S) ad ca D (va_A (mW ad ca S μ) H.size) (.inl (some (.int (vx b1))), (S, μ, cx, cy)) (As.map (mv ad)).toArray) (va_A (mW ad ca S μ) H.size) := by
    refine va_runS (As := As.map (mv ad)) (cc := mCode M) (nL := mMaxL M) (Ts := wsL_law) (own := mOwn M) (n := n) (index := index) (bytes := mCode M') (maxL := mMaxL M') (ret := mRet M') ⟨hc.1, hc.2.1, hc.2.2.1, hc.2.2.2.1, hc.2.2.2.2.1⟩ hM (va_cwS n hc.2.2.2.2.1 (mGS hk hl) rfl rfl rfl hk.2.2.2 ⟨?_, ?_⟩) hpreX rfl (by rw [List.length_map]; exact hn) hf.2.2.2.1.1 ?_ (lv_room (mCat rest hcat)) hd ⟨hcl, hsl⟩
    · show mFr M' + 1 ≤ R.frames; omega
    · show 8 + (mMaxL M' + 11) + mLo M' ≤ R.locals; omega
    · show st.map (mv ad) = _
      rw [hst, List.map_append, List.map_reverse]
  refine va_calli (a := (As.map (mv ad)).toArray) hrun hf.2.2.1 (fun q _ h => mFree hc hf q h) (mFree hc hf) (fun r u t H1 locs1 ht1 hvm hw hB hz1 hk1 hS => ?_)
  obtain ⟨rfl, hg⟩ := hw
  exact h2 p lch e R s m args below meth c A D ca Q ad0 hc ht hr1 hr2 he ad H1 locs1 ls (mBack hc hf hal ht1 hg hB hS)
end MFRAME
