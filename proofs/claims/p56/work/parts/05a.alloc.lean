/-! making objects and arrays, references written, constructors called -/
def zI (f : Nat → Nat → Int32) (n : Nat) : Nat → Nat → Int32 := fun a b => if a = n then 0 else f a b
def zL (f : Nat → Nat → Int64) (n : Nat) : Nat → Nat → Int64 := fun a b => if a = n then 0 else f a b
/-- the shape with one object more -/
def nSh (S : mSh) (c len t : Nat) : mSh := ((mN S + 1, mTot S + t), (fun i => if i = mN S then c else mKd S i), (fun i => if i = mN S then len else mLn S i), (fun i k => if i = mN S then none else mRf S i k))
def nMm (S : mSh) (μ : mMm) : mMm := (zI μ.1 (mN S), zL μ.2 (mN S))
/-- the shape with one reference written -/
def rSh (S : mSh) (q k r : Nat) : mSh := (S.1, S.2.1, S.2.2.1, u2 (mRf S) q k (some r))
/-- the references at hand are objects' numbers -/
def mvk1 (S : mSh) : Value → Bool
  | .ref r => decide (r < mN S ∨ 1000 ≤ r)
  | _ => true
def mvkO (S : mSh) : Option Value → Bool
  | some v => mvk1 S v
  | none => true
def mvk (S : mSh) (l : List (Option Value)) (st : List Value) : Bool := l.all (mvkO S) && st.all (mvk1 S)
def mAd (ad : Nat → Nat) (n q : Nat) : Nat → Nat := fun i => if i = n then q else ad i
theorem mv_ag {S : mSh} {ad u : Nat → Nat} {v : Value} (h : ∀ i, (i < mN S ∨ 1000 ≤ i) → u i = ad i) (hv : mvk1 S v = true) : mv u v = mv ad v := by
  cases v <;> try rfl
  rename_i r
  simp only [mvk1, decide_eq_true_eq] at hv
  simp only [mv, h r hv]
theorem mH_ag {S : mSh} {ad u : Nat → Nat} {ls : Array Slot} {nL : Nat} {l : List (Option Value)} (h : ∀ i, (i < mN S ∨ 1000 ≤ i) → u i = ad i) (hv : l.all (mvkO S) = true) (hl : mH ls nL ad l) : mH ls nL u l := by
  refine ⟨hl.1, hl.2.1, fun i v hi => ?_⟩
  have h1 := List.all_eq_true.mp hv _ (List.mem_of_getElem? hi)
  rw [mv_ag h h1]
  exact hl.2.2 i v hi
theorem mst_ag {S : mSh} {ad u : Nat → Nat} {st : List Value} (h : ∀ i, (i < mN S ∨ 1000 ≤ i) → u i = ad i) (hv : st.all (mvk1 S) = true) : st.map (mv u) = st.map (mv ad) :=
  List.map_congr_left (fun v hm => mv_ag h (List.all_eq_true.mp hv _ hm))
theorem mvk_l {S : mSh} {l : List (Option Value)} {st : List Value} (h : mvk S l st = true) : l.all (mvkO S) = true := by simp only [mvk, Bool.and_eq_true] at h; exact h.1
theorem mvk_s {S : mSh} {l : List (Option Value)} {st : List Value} (h : mvk S l st = true) : st.all (mvk1 S) = true := by simp only [mvk, Bool.and_eq_true] at h; exact h.2
theorem mAd_ag {S : mSh} {ad : Nat → Nat} {q : Nat} (hn : mN S < 1000) : ∀ i, (i < mN S ∨ 1000 ≤ i) → mAd ad (mN S) q i = ad i := fun i hi => if_neg (by omega)
theorem mRf_ag {S : mSh} {ad u : Nat → Nat} (hR : mRk S) (h : ∀ i, i < mN S → u i = ad i) (i k : Nat) : (mRf S i k).map u = (mRf S i k).map ad := by
  cases hr : mRf S i k with
  | none => rfl
  | some r => simp only [Option.map_some, h r (hR i k r hr)]
theorem mE_ag {S S' : mSh} {μ μ' : mMm} {ad u : Nat → Nat} {ca : Nat → ClassId} {i : Nat} (hR : mRk S) (h : ∀ r, r < mN S → u r = ad r) (h1 : mKd S' i = mKd S i) (h2 : mLn S' i = mLn S i) (h3 : ∀ k, mRf S' i k = mRf S i k) (h4 : μ'.1 i = μ.1 i) (h5 : μ'.2 i = μ.2 i) : mE u ca S' μ' i = mE ad ca S μ i := by
  have h6 : ∀ k, (mRf S' i k).map u = (mRf S i k).map ad := fun k => by rw [h3, mRf_ag hR h]
  simp only [mE, mFs, mVal, h1, h2, h4, h5, h6]
theorem mW_new {S : mSh} {μ : mMm} {ad : Nat → Nat} {ca : Nat → ClassId} {c len t q : Nat} (hR : mRk S) (hn : mN S < 1000) : mW (mAd ad (mN S) q) ca (nSh S c len t) (nMm S μ) = mW ad ca S μ ++ [(q, mE (mAd ad (mN S) q) ca (nSh S c len t) (nMm S μ) (mN S))] := by
  show (List.range (mN S + 1)).map _ = _
  rw [List.range_succ, List.map_append]
  congr 1
  · refine List.map_congr_left (fun i hi => ?_)
    have hi := List.mem_range.mp hi
    have hne : i ≠ mN S := Nat.ne_of_lt hi
    rw [mAd_ag hn i (Or.inl hi), mE_ag hR (fun r hr => mAd_ag hn r (Or.inl hr)) (S := S) (μ := μ) (ad := ad)]
    · exact if_neg hne
    · exact if_neg hne
    · exact fun k => if_neg hne
    · funext b; exact if_neg hne
    · funext b; exact if_neg hne
  · show [(mAd ad (mN S) q (mN S), _)] = _
    rw [show mAd ad (mN S) q (mN S) = q from if_pos rfl]
theorem mRk_new {S : mSh} {c len t : Nat} (hR : mRk S) : mRk (nSh S c len t) := by
  intro i k r h
  have h : (if i = mN S then none else mRf S i k) = some r := h
  by_cases hi : i = mN S
  · rw [if_pos hi] at h; cases h
  · rw [if_neg hi] at h
    exact Nat.lt_succ_of_lt (hR i k r h)
theorem mRk_r {S : mSh} {q k r : Nat} (hR : mRk S) (hr : r < mN S) : mRk (rSh S q k r) := by
  intro i j x h
  have h : u2 (mRf S) q k (some r) i j = some x := h
  by_cases h1 : i = q ∧ j = k
  · obtain ⟨rfl, rfl⟩ := h1
    rw [u2_same] at h
    cases h
    exact hr
  · rw [u2_other (by omega)] at h
    exact hR i j x h
theorem mE_r {S S' : mSh} {μ : mMm} {ad : Nat → Nat} {ca : Nat → ClassId} {i : Nat} (h1 : mKd S' i = mKd S i) (h2 : mLn S' i = mLn S i) (h3 : ∀ k, mRf S' i k = mRf S i k) : mE ad ca S' μ i = mE ad ca S μ i := by
  simp only [mE, mFs, mVal, h1, h2, h3]
def mDf : Nat → Value
  | 0 => .int 0
  | 1 => .long 0
  | _ => .null
theorem mFs_new {S : mSh} {μ : mMm} {u : Nat → Nat} {c len t : Nat} : mFs u (nSh S c len t) (nMm S μ) (mN S) = (mFt c).map mDf := by
  have hk : mKd (nSh S c len t) (mN S) = c := if_pos rfl
  unfold mFs
  rw [hk]
  apply List.ext_getElem?
  intro j
  rw [List.getElem?_map, List.getElem?_map]
  by_cases hj : j < (mFt c).length
  · rw [List.getElem?_range hj]
    rw [List.getElem?_eq_getElem hj]
    show some (mVal _ _ _ ((mFt c).getD j 0) _ _) = some (mDf _)
    rw [List.getD_eq_getElem?_getD, List.getElem?_eq_getElem hj]
    show some (mVal _ _ _ (mFt c)[j] _ _) = some (mDf _)
    generalize (mFt c)[j] = x
    match x with
    | 0 => exact congrArg some (congrArg Value.int (if_pos rfl))
    | 1 => exact congrArg some (congrArg Value.long (if_pos rfl))
    | x + 2 =>
      show some (va_rf ((mRf (nSh S c len t) (mN S) j).map u)) = some .null
      rw [show mRf (nSh S c len t) (mN S) j = none from if_pos rfl]
      rfl
  · rw [List.getElem?_eq_none (by simpa using hj), List.getElem?_eq_none (by omega)]
    rfl
section MALLOC
variable {M M' : mM} {n0 c0 s0 : Nat} {pc : Nat} {l : List (Option Value)} {st : List Value} {S : mSh} {μ : mMm} {cx cy : Nat} {α β : Type} {ι : α → mO × mSt} {o : Option α}
/-- one object more: what a row that makes it owes -/
theorem mX.mk {pc' c len t : Nat} {st' : List Value} (hal : mAl M = true) (h : ∀ (p : Program) (lch : Launch) (e : Env) (R : Room) (s : State) (m : MethodId) (args : Array Value) (below : List Frame) (meth : Method) (cd : Code) (A : Nat → Prop) (D : va_G) (ca : Nat → ClassId) (Q : State → Prop) (H : Heap) (locs : List Loc) (cells slots : Nat) (ls : Array Slot) (ad : Nat → Nat), mCx M p lch e R s m args below meth cd A D ca → mTF A s s.heap → va_P D vwCl (mW ad ca S μ) H → va_D A (mW ad ca S μ) → va_S A s.heap H locs → cells + 1 ≤ R.cells → slots + t ≤ R.slots →
      (∀ (q : Nat) (H1 : Heap), va_P D vwCl (mW ad ca S μ ++ [(q, mE (mAd ad (mN S) q) ca (nSh S c len t) (nMm S μ) (mN S))]) H1 → va_D A (mW ad ca S μ ++ [(q, mE (mAd ad (mN S) q) ca (nSh S c len t) (nMm S μ) (mN S))]) → va_S A s.heap H1 locs → W p lch e R s m args below meth cd H1 locs (cells + 1) (slots + t) Q (F0 m pc' ls (.ref q :: st'.map (mv ad)))) → W p lch e R s m args below meth cd H locs cells slots Q (F0 m pc ls (st.map (mv ad))))
    (k : mX M n0 c0 s0 pc' l (.ref (mN S) :: st') (nSh S c len t, nMm S μ, cx, cy) ι o) : mX M n0 c0 s0 pc l st (S, μ, cx, cy) ι (if mvk S l st' = true ∧ mN S < 1000 then o else none) := by
  refine mX.ck (fun hv => ?_)
  obtain ⟨hv, hn⟩ := hv
  intro a ha
  obtain ⟨h1, h2⟩ := k a ha
  have g1 : mN S + 1 ≤ mN (ι a).2.1 := h1.1
  have g2 : mN S + 1 + cx ≤ mCel (ι a).2 := h1.2.1
  have g3 : mTot S + t + cy ≤ mSlo (ι a).2 := h1.2.2
  refine ⟨⟨by show mN S ≤ _; omega, by show mN S + cx ≤ _; omega, by show mTot S + cy ≤ _; omega⟩, ?_⟩
  intro p lch e R s m args below meth cd A D ca Q ad0 hc ht hr1 hr2 he ad H locs ls hf
  have f7 : n0 ≤ mN S := hf.2.2.2.2.2.2.1.1
  have f8 : c0 ≤ mN S + cx := hf.2.2.2.2.2.2.2.1
  have f9 : s0 ≤ mTot S + cy := hf.2.2.2.2.2.2.2.2
  have hR : mRk S := hf.2.2.2.2.2.2.1.2 hal
  refine h p lch e R s m args below meth cd A D ca Q H locs _ _ ls ad hc ht.1 hf.1 hf.2.1 hf.2.2.1 (by show mN S + cx - c0 + 1 ≤ _; omega) (by show mTot S + cy - s0 + t ≤ _; omega) (fun q H1 hP1 hD1 hS1 => ?_)
  rw [← mW_new hR hn] at hP1 hD1
  have w := h2 p lch e R s m args below meth cd A D ca Q ad0 hc ht hr1 hr2 he (mAd ad (mN S) q) H1 locs ls ⟨hP1, hD1, hS1, mH_ag (mAd_ag hn) (mvk_l hv) hf.2.2.2.1, fun i hi => (mAd_ag hn i (by omega)).trans (hf.2.2.2.2.1 i hi), fun hz => absurd (hal.symm.trans hz) (by decide), ⟨Nat.le_succ_of_le f7, fun _ => mRk_new hR⟩, by show c0 ≤ mN S + 1 + cx; omega, by show s0 ≤ mTot S + t + cy; omega⟩
  rw [List.map_cons, mst_ag (mAd_ag hn) (mvk_s hv), show mv (mAd ad (mN S) q) (.ref (mN S)) = .ref q from congrArg Value.ref (if_pos rfl)] at w
  rw [show mCel (S, μ, cx, cy) - c0 + 1 = mCel (nSh S c len t, nMm S μ, cx, cy) - c0 by show mN S + cx - c0 + 1 = mN S + 1 + cx - c0; omega, show mSlo (S, μ, cx, cy) - s0 + t = mSlo (nSh S c len t, nMm S μ, cx, cy) - s0 by show mTot S + cy - s0 + t = mTot S + t + cy - s0; omega]
  exact w
theorem x_new {c index : Nat} {C : String} {T : u_T} {N : Nat} {ty : Nat → FieldType} (fc : mFC c C T N ty) (hal : mAl M = true) (hd : decode (mCode M) pc = .ok (.new index, 3)) (hcl : Cond.classLink (mOwn M) index C ∈ wsL_law) (hin : Cond.instantiable C N ∈ wsL_law) (hini : Cond.initialized C ∈ wsL_law) (hdf : ∀ j, j < N → defaultValue (ty j) = mDf ((mFt c).getD j 0))
    (k : mX M n0 c0 s0 (pc + 3) l (.ref (mN S) :: st) (nSh S c 0 N, nMm S μ, cx, cy) ι o) : mX M n0 c0 s0 pc l st (S, μ, cx, cy) ι (if mvk S l st = true ∧ mN S < 1000 then o else none) := by
  refine mX.mk hal ?_ k
  intro p lch e R s m args below meth cd A D ca Q H locs cells slots ls ad hc hT hP hD hS h1 h2 kk
  refine va_new (fs := (mFt c).map mDf) hc.1 hc.2.1 hc.2.2.2.2.1 fc.2.1 ty fc.2.2.2.2.1 hc.2.2.2.1 (hc.2.2.2.2.1 _ hcl) (hc.2.2.2.2.1 _ hin) (hc.2.2.2.2.1 _ hini) hc.2.2.2.2.2.2.1 hP hD hS hc.2.2.2.2.2.2.2.1 fc.1 ?_ h1 h2 hd (fun q H1 hP1 hD1 hS1 => ?_)
  · intro j hj
    rw [hdf j hj]
    unfold vp_V
    rw [List.getD_eq_getElem?_getD, List.getD_eq_getElem?_getD, List.getElem?_map]
    have : j < (mFt c).length := by rw [fc.2.2.1]; exact hj
    rw [List.getElem?_eq_getElem this]
    rfl
  · have e : mE (mAd ad (mN S) q) ca (nSh S c 0 N) (nMm S μ) (mN S) = .inr (c, (mFt c).map mDf) := by
      rw [mE_obj (c := c) (if_pos rfl) fc.2.2.2.1, mFs_new]
    exact kk q H1 (by rw [e]; exact hP1) (by rw [e]; exact hD1) hS1
theorem mTyU {D : va_G} {ca : Nat → ClassId} {s : State} {cA : ClassId} {ty : FieldType} {i j : Nat} (hK : va_K D vwCl (mTy ca ++ [(cA, ty)]) s) (hi : (mTy ca)[i]? = some (ca j, ty)) : cA = ca j := by
  have h1 := (hK.2 i (ca j, ty) (by rw [List.getElem?_append_left (List.getElem?_eq_some_iff.mp hi).1]; exact hi)).2
  have h2 := (hK.2 2 (cA, ty) (by rfl)).2
  have key : ∃ nm, s.vm.findClass nm = some cA ∧ s.vm.findClass nm = some (ca j) := by
    cases ty with
    | object C =>
      obtain ⟨_, _, _, _, _, a1⟩ := h1
      obtain ⟨_, _, _, _, _, a2⟩ := h2
      exact ⟨_, a2, a1⟩
    | _ => exact ⟨_, h2, h1⟩
  obtain ⟨nm, a1, a2⟩ := key
  exact Option.some.inj (a1.symm.trans a2)
theorem x_newI {n : Int32} {N' : Nat} (hal : mAl M = true) (hd : decode (mCode M) pc = .ok (.newarray .int, 2)) (hw : Cond.arrayClass .int ∈ wsL_law) (hn : ¬ n < 0) (hN : n.toNatClampNeg = N') (hb : N' * componentBytes .int ≤ 536870912)
    (k : mX M n0 c0 s0 (pc + 2) l (.ref (mN S) :: st) (nSh S 12 N' N', nMm S μ, cx, cy) ι o) : mX M n0 c0 s0 pc l (.int n :: st) (S, μ, cx, cy) ι (if mvk S l st = true ∧ mN S < 1000 then o else none) := by
  refine mX.mk hal ?_ k
  intro p lch e R s m args below meth cd A D ca Q H locs cells slots ls ad hc hT hP hD hS h1 h2 kk
  refine va_newa (atype := .int) (ty := .int) (a0 := (N', .inl (fun _ => 0))) hc.1 hc.2.1 (hc.2.2.2.2.1 _ hw) rfl hc.2.2.2.2.2.2.1 hP hD hS hc.2.2.2.2.2.2.2.1 (fun cA => vp_cell_i cA N' _) hn hN hb h1 h2 hd (fun q cA H1 hK1 hP1 hD1 hS1 => ?_)
  have hca : cA = ca 0 := mTyU (i := 0) (j := 0) hK1 rfl
  subst hca
  have e : mE (mAd ad (mN S) q) ca (nSh S 12 N' N') (nMm S μ) (mN S) = .inl (ca 0, N', .inl (fun _ => 0)) := by
    rw [mE_12 (if_pos rfl), show mLn (nSh S 12 N' N') (mN S) = N' from if_pos rfl, show (nMm S μ).1 (mN S) = fun _ => 0 from funext (fun b => if_pos rfl)]
  exact kk q H1 (by rw [e]; exact hP1) (by rw [e]; exact hD1) hS1
theorem x_newR {index : Nat} {n : Int32} {N' : Nat} (hal : mAl M = true) (hd : decode (mCode M) pc = .ok (.anewarray index, 3)) (hw : Cond.classLink (mOwn M) index RX7 ∈ wsL_law) (hn : ¬ n < 0) (hN : n.toNatClampNeg = N') (hb : N' * 4 ≤ 536870912)
    (k : mX M n0 c0 s0 (pc + 3) l (.ref (mN S) :: st) (nSh S 15 N' N', nMm S μ, cx, cy) ι o) : mX M n0 c0 s0 pc l (.int n :: st) (S, μ, cx, cy) ι (if mvk S l st = true ∧ mN S < 1000 then o else none) := by
  refine mX.mk hal ?_ k
  intro p lch e R s m args below meth cd A D ca Q H locs cells slots ls ad hc hT hP hD hS h1 h2 kk
  refine va_newq hc.1 hc.2.1 hc.2.2.2.1 (hc.2.2.2.2.1 _ hw) hT.2.2.2.2.2.2.2.1 hc.2.2.2.2.2.2.1 hP hD hS hc.2.2.2.2.2.2.2.1 hn hN hb h1 h2 hd (fun q cA H1 hK1 hP1 hD1 hS1 => ?_)
  have hca : cA = ca 3 := mTyU (i := 1) (j := 3) hK1 rfl
  subst hca
  have e : mE (mAd ad (mN S) q) ca (nSh S 15 N' N') (nMm S μ) (mN S) = .inl (ca 3, N', .inr (.inr (.inr (.inr (fun _ => none))))) := by
    rw [mE_15 (if_pos rfl), show mLn (nSh S 15 N' N') (mN S) = N' from if_pos rfl, show (fun j => (mRf (nSh S 15 N' N') (mN S) j).map (mAd ad (mN S) q)) = fun _ => none from funext (fun b => by rw [show mRf (nSh S 15 N' N') (mN S) b = none from if_pos rfl]; rfl)]
  exact kk q H1 (by rw [e]; exact hP1) (by rw [e]; exact hD1) hS1
/-- a row that writes a reference -/
theorem mX.wrR {pc' q k r : Nat} {st' : List Value} {P : Prop} [dP : Decidable P] (hr : P → r < mN S) (h : P → ∀ (p : Program) (lch : Launch) (e : Env) (R : Room) (s : State) (m : MethodId) (args : Array Value) (below : List Frame) (meth : Method) (c : Code) (A : Nat → Prop) (D : va_G) (ca : Nat → ClassId) (Q : State → Prop) (H : Heap) (locs : List Loc) (cells slots : Nat) (ls : Array Slot) (ad : Nat → Nat), mCx M p lch e R s m args below meth c A D ca → va_P D vwCl (mW ad ca S μ) H → va_D A (mW ad ca S μ) → va_S A s.heap H locs → (∀ (H1 : Heap) (locs1 : List Loc), va_P D vwCl (mW ad ca (rSh S q k r) μ) H1 → va_D A (mW ad ca (rSh S q k r) μ) → va_S A s.heap H1 locs1 → W p lch e R s m args below meth c H1 locs1 cells slots Q (F0 m pc' ls (st'.map (mv ad)))) → W p lch e R s m args below meth c H locs cells slots Q (F0 m pc ls (st.map (mv ad))))
    (kk : mX M n0 c0 s0 pc' l st' (rSh S q k r, μ, cx, cy) ι o) : mX M n0 c0 s0 pc l st (S, μ, cx, cy) ι (if P then o else none) := by
  refine mX.ck (fun hp => ?_)
  intro a ha
  obtain ⟨h1, h2⟩ := kk a ha
  refine ⟨h1, ?_⟩
  intro p lch e R s m args below meth c A D ca Q ad0 hc ht hr1 hr2 he ad H locs ls hf
  exact h hp p lch e R s m args below meth c A D ca Q H locs _ _ ls ad hc hf.1 hf.2.1 hf.2.2.1 (fun H1 locs1 hP hD hS => h2 p lch e R s m args below meth c A D ca Q ad0 hc ht hr1 hr2 he ad H1 locs1 ls ⟨hP, hD, hS, hf.2.2.2.1, hf.2.2.2.2.1, hf.2.2.2.2.2.1, ⟨hf.2.2.2.2.2.2.1.1, fun hz => mRk_r (hf.2.2.2.2.2.2.1.2 hz) (hr hp)⟩, hf.2.2.2.2.2.2.2⟩)
theorem mW_r {ad : Nat → Nat} {ca : Nat → ClassId} {q k r : Nat} {e : va_E} (h : q < mN S) (he : mE ad ca (rSh S q k r) μ q = e) : (mW ad ca S μ).set q (ad q, e) = mW ad ca (rSh S q k r) μ := by
  refine mset (mN S) _ _ q _ h (by rw [he]) (fun j hj => ?_)
  have h1 : u2 (mRf S) q k (some r) j = mRf S j := u2_ne hj
  exact congrArg (Prod.mk (ad j)) (mE_r (S' := rSh S q k r) rfl rfl (fun b => congrFun h1 b))
theorem x_pR {c k q r index : Nat} {C : String} {T : u_T} {N : Nat} {ty : Nat → FieldType} (fc : mFC c C T N ty) (hd : decode (mCode M) pc = .ok (.putfield index, 3)) (hw : Cond.fieldLink (mOwn M) index (T k).1 (T k).2.1 (T k).2.2.1 ∈ wsL_law) (hk : k < N) (hg : (mFt c).getD k 0 = 2) (hfin : (T k).2.2.2 = true) (hi : mInit M = true) (hdecl : (T k).1 = mOwn M) (hn : ∀ a, narrow (ty k) (.ref a) = .ref a) (hfit : ∀ a, fits (ty k) (.ref a) = true)
    (kk : mX M n0 c0 s0 (pc + 3) l st (rSh S q k r, μ, cx, cy) ι o) : mX M n0 c0 s0 pc l (.ref r :: .ref q :: st) (S, μ, cx, cy) ι (if mok S q c = true ∧ r < mN S then o else none) := by
  refine mX.wrR (fun hp => hp.2) ?_ kk
  intro hm p lch e R s m args below meth cd A D ca Q H locs cells slots ls ad hc hP hD hS w
  have hg2 := mW_get ad ca S μ (mok_n hm.1)
  rw [mE_obj (mok_k hm.1) fc.2.2.2.1] at hg2
  have hkl : k < (mFt c).length := by rw [fc.2.2.1]; exact hk
  have hset : (mW ad ca S μ).set q (ad q, .inr (c, (mFs ad S μ q).set k (.ref (ad r)))) = mW ad ca (rSh S q k r) μ := by
    refine mW_r (mok_n hm.1) ?_
    rw [mE_obj (c := c) (show mKd (rSh S q k r) q = c from mok_k hm.1) fc.2.2.2.1]
    have hkd : mKd S q = c := mok_k hm.1
    have hset2 : (mFs ad S μ q).set k (.ref (ad r)) = mFs ad (rSh S q k r) μ q := by
      unfold mFs
      have hkd2 : mKd (rSh S q k r) q = c := hkd
      rw [hkd, hkd2]
      refine mset _ _ _ k _ hkl ?_ (fun j hj => ?_)
      · rw [hg]
        show va_rf ((u2 (mRf S) q k (some r) q k).map ad) = _
        rw [u2_same]
        rfl
      · have h1 : u2 (mRf S) q k (some r) q j = mRf S q j := u2_other (Or.inr hj)
        have h2 : mRf (rSh S q k r) q j = mRf S q j := h1
        unfold mVal
        rw [h2]
    rw [hset2]
  refine va_putF (v := .ref (ad r)) hc.1 hc.2.1 hc.2.2.2.2.1 fc.2.1 ty fc.2.2.2.2.1 fc.2.2.2.2.2 hc.2.2.2.1 hc.2.2.2.2.2.2.1 hP hD hS q hg2 fc.1 k hk (hc.2.2.2.2.1 _ hw) (fun _ h9 => h9) hfin (hc.2.2.2.2.2.1 hi) hdecl (fc.2.2.2.2.1 k hk) (hn _) (hfit _) (by rw [mFs_len (mok_k hm.1)]; exact hkl) hd (fun H1 locs1 hP1 hD1 hS1 => ?_)
  rw [hset] at hP1 hD1
  exact w H1 locs1 hP1 hD1 hS1
theorem x_stR {q v : Nat} {i : Int32} (hd : decode (mCode M) pc = .ok (.aastore, 1)) (kk : mX M n0 c0 s0 (pc + 1) l st (rSh S q i.toNatClampNeg v, μ, cx, cy) ι o) : mX M n0 c0 s0 pc l (.ref v :: .int i :: .ref q :: st) (S, μ, cx, cy) ι (if mok S q 15 = true ∧ mIn i (mLn S q) = true ∧ mok S v 7 = true then o else none) := by
  refine mX.wrR (fun hp => mok_n hp.2.2) ?_ kk
  intro hm p lch e R s m args below meth cd A D ca Q H locs cells slots ls ad hc hP hD hS w
  have hg2 := mW_get ad ca S μ (mok_n hm.1)
  rw [mE_15 (mok_k hm.1)] at hg2
  have hg3 := mW_get ad ca S μ (mok_n hm.2.2)
  rw [mE_obj (mok_k hm.2.2) (by decide)] at hg3
  have hset : (mW ad ca S μ).set q (ad q, .inl (ca 3, mLn S q, .inr (.inr (.inr (.inr (va_up (fun j => (mRf S q j).map ad) i.toNatClampNeg (some (ad v)))))))) = mW ad ca (rSh S q i.toNatClampNeg v) μ := by
    refine mW_r (mok_n hm.1) ?_
    rw [mE_15 (show mKd (rSh S q i.toNatClampNeg v) q = 15 from mok_k hm.1)]
    refine congrArg (fun z => Sum.inl (ca 3, mLn S q, Sum.inr (Sum.inr (Sum.inr (Sum.inr z))))) ?_
    funext j
    show (u2 (mRf S) q i.toNatClampNeg (some v) q j).map ad = va_up _ _ _ j
    by_cases hj : j = i.toNatClampNeg
    · subst hj
      rw [u2_same, va_up_self]
      rfl
    · rw [u2_other (Or.inr hj), va_up_ne _ _ hj]
  refine va_astq (r := (RX7, TX7, 5)) hc.1 hc.2.1 hc.2.2.2.2.2.2.1 hP hD hS q 1 v 7 hg2 rfl hg3 fcX7.1 (mIn_in hm.2.1) hd (fun H1 locs1 hP1 hD1 hS1 => ?_)
  rw [hset] at hP1 hD1
  exact w H1 locs1 hP1 hD1 hS1
theorem x_oI {q index : Nat} {σ : mSt} (hd : decode (mCode M) pc = .ok (.invokespecial index, 3)) (hl : Cond.methodLink (mOwn M) index objectInit ∈ wsL_law) (h1 : Cond.instanceMethod objectInit ∈ wsL_law) (h2 : Cond.code objectInit ⟨#[0xb1]⟩ 1 none ∈ wsL_law) (hroom : 1 ≤ mFr M ∧ 20 ≤ mLo M) (hcat : (st.map fun v => v.category).sum ≤ 8)
    (k : mX M n0 c0 s0 (pc + 3) l st σ ι o) : mX M n0 c0 s0 pc l (.ref q :: st) σ ι o :=
  mX.step (fun _ _ _ R _ _ _ _ _ _ _ _ _ _ _ _ _ _ ls ad hc hcl hsl hl9 w => by
    have hF1 := hc.2.2.2.2.2.2.2.2.1
    have hF2 := hc.2.2.2.2.2.2.2.2.2.1
    have hcat' := mCat (ad := ad) st hcat
    have hts := hc.2.2.2.2.1
    exact W.objInit hc.1 hc.2.1 hc.2.2.2.1 (hts _ hl) (hts _ h1) (hts _ h2) rfl (hl9.1.trans hc.2.2.1.symm) rfl hd (by omega) (by show 2 * 0 + ((st.map (mv ad)).map fun v => v.category).sum + 12 ≤ R.locals; omega) w) k
def mCalI (M : mM) (n : Nat) : Prop := Cond.instanceMethod (mY M) ∈ wsL_law ∧ Cond.initialized (mY M).cls ∈ wsL_law ∧ Cond.code (mY M) (mCode M) (mMaxL M) (mRet M) ∈ wsL_law ∧ ((mY M).name = "<init>" ∧ mRet M = none ∧
  (mY M).cls ≠ "java/lang/invoke/MethodHandle" ∧ (mY M).cls ≠ "java/lang/invoke/VarHandle" ∧ (parseMethodDescriptor (mY M).desc).map (fun d => d.parameters.length) = some n)
/-- a constructor's call -/
theorem x_callI {b index n : Nat} {As rest : List Value} {o1 : Option β} {ι' : β → mO × mSt} {Sf : β → mSh} {μf : β → mMm} {kk : β → Option α} (hm : mMet M' (.ref b :: As) (S, μ, cx, cy) ι' o1) (hι : ∀ a, ι' a = (.inl none, (Sf a, μf a, cx, cy))) (hSf : mAl M' = true ∨ ∀ a, Sf a = S) (hal : mAl M = true) (hd : decode (mCode M) pc = .ok (.invokespecial index, 3)) (hl : Cond.methodLink (mOwn M) index (mY M') ∈ wsL_law) (hk : mCalI M' n) (hn : As.length = n)
    (hroom : mFr M' + 1 ≤ mFr M ∧ 8 + (mMaxL M' + 11) + mLo M' ≤ mLo M) (hst : st = As.reverse ++ .ref b :: rest) (hcat : (rest.map fun v => v.category).sum ≤ 8) (kn : ∀ a, mX M n0 c0 s0 (pc + 3) l rest (Sf a, μf a, cx, cy) ι (kk a)) : mX M n0 c0 s0 pc l st (S, μ, cx, cy) ι (if mvk S l rest = true then o1.bind kk else none) := by
  refine mX.ck (fun hv => ?_)
  intro a ha
  obtain ⟨b1, hb1, hk1⟩ := Option.bind_eq_some_iff.mp ha
  obtain ⟨g1, g2⟩ := hm b1 hb1
  obtain ⟨h1, h2⟩ := kn b1 a hk1
  rw [hι b1] at g1
  have t1 : mN S ≤ mN (Sf b1) := g1.1
  have t2 : mN S + cx ≤ mN (Sf b1) + cx := g1.2.1
  have t3 : mTot S + cy ≤ mTot (Sf b1) + cy := g1.2.2
  have t4 : mN (Sf b1) + cx ≤ mCel (ι a).2 := h1.2.1
  have t5 : mTot (Sf b1) + cy ≤ mSlo (ι a).2 := h1.2.2
  refine ⟨mLe.tr g1 h1, ?_⟩
  intro p lch e R s m args below meth c A D ca Q ad0 hc ht hr1 hr2 he ad H locs ls hf
  have f7 : n0 ≤ mN S := hf.2.2.2.2.2.2.1.1
  have f8 : c0 ≤ mN S + cx := hf.2.2.2.2.2.2.2.1
  have f9 : s0 ≤ mTot S + cy := hf.2.2.2.2.2.2.2.2
  have hM := g2 lch D ca ad H.size hc.2.2.2.2.2.2.2.2.2.2
  rw [hι b1] at hM
  have hM := vx_toMet hM (fun _ _ _ h => h)
  rw [show mCel (Sf b1, μf b1, cx, cy) - mCel (S, μ, cx, cy) = mN (Sf b1) - mN S by show mN (Sf b1) + cx - (mN S + cx) = _; omega, show mSlo (Sf b1, μf b1, cx, cy) - mSlo (S, μ, cx, cy) = mTot (Sf b1) - mTot S by show mTot (Sf b1) + cy - (mTot S + cy) = _; omega] at hM
  have hF1 := hc.2.2.2.2.2.2.2.2.1
  have hF2 := hc.2.2.2.2.2.2.2.2.2.1
  have hts := hc.2.2.2.2.1
  have hcat' := mCat (ad := ad) rest hcat
  have hgood : GoodIn wsL_law (mWs M') := mGoodC hk.2.2.1 mGoodIn
  have hrun : va_Run p lch e R s m args below meth c H locs (mCel (S, μ, cx, cy) - c0) (mSlo (S, μ, cx, cy) - s0) (mN (Sf b1) - mN S) (mTot (Sf b1) - mTot S) (F0 m pc ls (st.map (mv ad))) (rest.map (mv ad)) (mQ M' (mN S) ad ca D (va_A (mW ad ca S μ) H.size) (.inl none, (Sf b1, μf b1, cx, cy)) ((.ref b :: As).map (mv ad)).toArray) (va_A (mW ad ca S μ) H.size) := by
    refine va_runI (b := ad b) (As := As.map (mv ad)) (cc := mCode M) (nL := mMaxL M) (Ts := wsL_law) (own := mOwn M) (n := n) (index := index) (bytes := mCode M') (maxL := mMaxL M') ⟨hc.1, hc.2.1, hc.2.2.1, hc.2.2.2.1, hts⟩ hM (cwI n hts hgood (by show _ :: _ = _ :: _; rw [hk.2.2.2.2.1]) rfl rfl (hts _ hk.2.1) (hts _ hl) (hts _ hk.1) hk.2.2.2.1 hk.2.2.2.2.2 ⟨?_, ?_⟩) (mPre (M' := M') (fun _ => hal) hc ht.1 hf (.ref b :: As)) rfl (by rw [List.length_map]; exact hn) hf.2.2.2.1.1 ?_ (lv_room hcat') hd ⟨?_, ?_⟩
    · show mFr M' + 1 ≤ R.frames; omega
    · show 8 + (mMaxL M' + 11) + mLo M' ≤ R.locals; omega
    · show st.map (mv ad) = _
      rw [hst, List.map_append, List.map_reverse]
      rfl
    · show mN S + cx - c0 + (mN (Sf b1) - mN S) ≤ R.cells; omega
    · show mTot S + cy - s0 + (mTot (Sf b1) - mTot S) ≤ R.slots; omega
  refine va_callv (a := ((Value.ref b :: As).map (mv ad)).toArray) hrun hf.2.2.1 (fun q _ h => mFree hc hf q h) (mFree hc hf) (fun u t H1 locs1 ht1 hvm hw hB hz1 hk1 hS => ?_)
  obtain ⟨hP1, -, hD1, hR1⟩ := hB
  have hR9 : mAl M = true → mRk (Sf b1) := fun hz => by
    rcases hSf with h9 | h9
    · exact hR1 h9
    · rw [h9]
      exact hf.2.2.2.2.2.2.1.2 hz
  rw [ht1] at hP1
  have w := h2 p lch e R s m args below meth c A D ca Q ad0 hc ht hr1 hr2 he u H1 locs1 ls ⟨hP1, hD1.weaken (fun _ q _ hq => mFree hc hf q.1 hq), hS, mH_ag hw.1 (mvk_l hv) hf.2.2.2.1, fun i hi => (hw.1 i (by omega)).trans (hf.2.2.2.2.1 i hi), fun hz => absurd (hal.symm.trans hz) (by decide), ⟨Nat.le_trans f7 t1, hR9⟩, by show c0 ≤ mN (Sf b1) + cx; omega, by show s0 ≤ mTot (Sf b1) + cy; omega⟩
  rw [mst_ag hw.1 (mvk_s hv)] at w
  rw [show mCel (S, μ, cx, cy) - c0 + (mN (Sf b1) - mN S) = mCel (Sf b1, μf b1, cx, cy) - c0 by show mN S + cx - c0 + (mN (Sf b1) - mN S) = mN (Sf b1) + cx - c0; omega, show mSlo (S, μ, cx, cy) - s0 + (mTot (Sf b1) - mTot S) = mSlo (Sf b1, μf b1, cx, cy) - s0 by show mTot S + cy - s0 + (mTot (Sf b1) - mTot S) = mTot (Sf b1) + cy - s0; omega]
  exact w
end MALLOC
