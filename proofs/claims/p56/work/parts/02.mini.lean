/-! A MACHINE OF NUMBERED OBJECTS, over the kit's rows: a shape (how many objects, of which kind, how long, what refers to what), a memory (ints and longs by object and place), two counters of what exceptions took -/
abbrev mSh : Type := (Nat × Nat) × (Nat → Nat) × (Nat → Nat) × (Nat → Nat → Option Nat)
abbrev mMm : Type := (Nat → Nat → Int32) × (Nat → Nat → Int64)
abbrev mSt : Type := mSh × mMm × Nat × Nat
abbrev mN (S : mSh) : Nat := S.1.1
abbrev mTot (S : mSh) : Nat := S.1.2
abbrev mKd (S : mSh) : Nat → Nat := S.2.1
abbrev mLn (S : mSh) : Nat → Nat := S.2.2.1
abbrev mRf (S : mSh) : Nat → Nat → Option Nat := S.2.2.2
/-- the kinds of a class' fields: 0 an int, 1 a long, 2 a reference -/
def mFt : Nat → List Nat
  | 0 => [2, 2, 2]
  | 1 => [2, 0, 0]
  | 2 => [2, 0]
  | 3 => [2, 2, 2]
  | 4 => [2, 2]
  | 5 => [2, 2, 0]
  | 6 => [0, 0, 0, 0, 0]
  | 7 => [2, 2, 2, 0, 0]
  | 8 => [2, 0, 0]
  | 9 => [2, 0]
  | 10 => [2, 2, 0, 2, 2, 2, 2, 2, 2]
  | 11 => [2, 2, 0, 2, 0, 2, 0, 2, 2, 2, 0, 0, 0, 0, 0, 2, 0, 0, 0, 1]
  | _ => []
def mVal (ad : Nat → Nat) (S : mSh) (μ : mMm) (t i k : Nat) : Value := match t with
  | 0 => .int (μ.1 i k)
  | 1 => .long (μ.2 i k)
  | _ => va_rf ((mRf S i k).map ad)
def mFs (ad : Nat → Nat) (S : mSh) (μ : mMm) (i : Nat) : List Value := (List.range (mFt (mKd S i)).length).map (fun k => mVal ad S μ ((mFt (mKd S i)).getD k 0) i k)
def mE (ad : Nat → Nat) (ca : Nat → ClassId) (S : mSh) (μ : mMm) (i : Nat) : va_E :=
  if mKd S i = 12 then .inl (ca 0, mLn S i, .inl (μ.1 i))
  else if mKd S i = 13 then .inl (ca 1, mLn S i, .inr (.inl (μ.2 i)))
  else if mKd S i = 14 then .inl (ca 2, mLn S i, .inl (μ.1 i))
  else if mKd S i = 15 then .inl (ca 3, mLn S i, .inr (.inr (.inr (.inr (fun j => (mRf S i j).map ad)))))
  else .inr (mKd S i, mFs ad S μ i)
def mW (ad : Nat → Nat) (ca : Nat → ClassId) (S : mSh) (μ : mMm) : va_W := (List.range (mN S)).map (fun i => (ad i, mE ad ca S μ i))
def mTy (ca : Nat → ClassId) : List (ClassId × FieldType) := [(ca 0, .int), (ca 3, .object RX7)]
def mok (S : mSh) (o c : Nat) : Bool := decide (o < mN S) && decide (mKd S o = c)
theorem mok_n {S : mSh} {o c : Nat} (h : mok S o c = true) : o < mN S := by simp [mok] at h; exact h.1
theorem mok_k {S : mSh} {o c : Nat} (h : mok S o c = true) : mKd S o = c := by simp [mok] at h; exact h.2
def u2 {α : Type} (f : Nat → Nat → α) (i k : Nat) (v : α) : Nat → Nat → α := fun a b => if a = i then (if b = k then v else f a b) else f a b
theorem u2_ne {α : Type} {f : Nat → Nat → α} {i k j : Nat} {v : α} (h : j ≠ i) : u2 f i k v j = f j := by funext b; simp [u2, h]
theorem u2_row {f : Nat → Nat → Int32} {i k : Nat} {v : Int32} : u2 f i k v i = upd (f i) k v := by funext b; simp [u2, upd]
theorem u2_rowL {f : Nat → Nat → Int64} {i k : Nat} {v : Int64} : u2 f i k v i = vp_updL (f i) k v := by funext b; simp [u2, vp_updL]
theorem u2_same {α : Type} {f : Nat → Nat → α} {i k : Nat} {v : α} : u2 f i k v i k = v := by simp [u2]
theorem u2_other {α : Type} {f : Nat → Nat → α} {i k a b : Nat} {v : α} (h : a ≠ i ∨ b ≠ k) : u2 f i k v a b = f a b := by
  unfold u2
  by_cases h1 : a = i
  · by_cases h2 : b = k
    · rcases h with h | h
      · exact absurd h1 h
      · exact absurd h2 h
    · simp [h1, h2]
  · simp [h1]
theorem mW_get (ad : Nat → Nat) (ca : Nat → ClassId) (S : mSh) (μ : mMm) {i : Nat} (h : i < mN S) : (mW ad ca S μ)[i]? = some (ad i, mE ad ca S μ i) := by
  simp [mW, h]
theorem mW_get' {ad : Nat → Nat} {ca : Nat → ClassId} {S : mSh} {μ : mMm} {i : Nat} {q : Nat × va_E} (h : (mW ad ca S μ)[i]? = some q) : i < mN S ∧ q = (ad i, mE ad ca S μ i) := by
  have hi : i < mN S := by
    rcases Nat.lt_or_ge i (mN S) with h1 | h1
    · exact h1
    · rw [List.getElem?_eq_none (by simpa [mW] using h1)] at h; cases h
  rw [mW_get ad ca S μ hi] at h
  exact ⟨hi, (Option.some.inj h).symm⟩
theorem mset {α : Type} (n : Nat) (f g : Nat → α) (k : Nat) (v : α) (hk : k < n) (hv : g k = v) (ho : ∀ j, j ≠ k → g j = f j) : ((List.range n).map f).set k v = (List.range n).map g := by
  apply List.ext_getElem?
  intro j
  rw [List.getElem?_set]
  by_cases hj : k = j
  · subst hj
    simp [hk, hv]
  · simp only [hj, if_false]
    by_cases hn : j < n
    · simp [hn, ho j (fun e => hj e.symm)]
    · simp [hn]
theorem mW_set {ad : Nat → Nat} {ca : Nat → ClassId} {S : mSh} {μ μ' : mMm} {i : Nat} {e : va_E} (h : i < mN S) (he : mE ad ca S μ' i = e) (ho : ∀ j, j ≠ i → mE ad ca S μ' j = mE ad ca S μ j) : (mW ad ca S μ).set i (ad i, e) = mW ad ca S μ' :=
  mset (mN S) _ _ i _ h (by rw [he]) (fun j hj => by rw [ho j hj])
theorem mE_neI {ad : Nat → Nat} {ca : Nat → ClassId} {S : mSh} {μ : mMm} {i k j : Nat} {v : Int32} (h : j ≠ i) : mE ad ca S (u2 μ.1 i k v, μ.2) j = mE ad ca S μ j := by
  have h1 := u2_ne (f := μ.1) (k := k) (v := v) h
  simp only [mE, mFs, mVal, h1]
theorem mE_neL {ad : Nat → Nat} {ca : Nat → ClassId} {S : mSh} {μ : mMm} {i k j : Nat} {v : Int64} (h : j ≠ i) : mE ad ca S (μ.1, u2 μ.2 i k v) j = mE ad ca S μ j := by
  have h1 := u2_ne (f := μ.2) (k := k) (v := v) h
  simp only [mE, mFs, mVal, h1]
theorem mE_obj {ad : Nat → Nat} {ca : Nat → ClassId} {S : mSh} {μ : mMm} {i c : Nat} (h : mKd S i = c) (hc : c < 12) : mE ad ca S μ i = .inr (c, mFs ad S μ i) := by
  unfold mE
  rw [h, if_neg (by omega), if_neg (by omega), if_neg (by omega), if_neg (by omega)]
theorem mE_12 {ad : Nat → Nat} {ca : Nat → ClassId} {S : mSh} {μ : mMm} {i : Nat} (h : mKd S i = 12) : mE ad ca S μ i = .inl (ca 0, mLn S i, .inl (μ.1 i)) := by simp [mE, h]
theorem mE_13 {ad : Nat → Nat} {ca : Nat → ClassId} {S : mSh} {μ : mMm} {i : Nat} (h : mKd S i = 13) : mE ad ca S μ i = .inl (ca 1, mLn S i, .inr (.inl (μ.2 i))) := by simp [mE, h]
theorem mE_14 {ad : Nat → Nat} {ca : Nat → ClassId} {S : mSh} {μ : mMm} {i : Nat} (h : mKd S i = 14) : mE ad ca S μ i = .inl (ca 2, mLn S i, .inl (μ.1 i)) := by simp [mE, h]
theorem mE_15 {ad : Nat → Nat} {ca : Nat → ClassId} {S : mSh} {μ : mMm} {i : Nat} (h : mKd S i = 15) : mE ad ca S μ i = .inl (ca 3, mLn S i, .inr (.inr (.inr (.inr (fun j => (mRf S i j).map ad))))) := by simp [mE, h]
theorem mFs_get {ad : Nat → Nat} {S : mSh} {μ : mMm} {i c k : Nat} (h : mKd S i = c) (hk : k < (mFt c).length) : (mFs ad S μ i)[k]? = some (mVal ad S μ ((mFt c).getD k 0) i k) := by
  subst h
  simp [mFs, hk]
theorem mFs_len {ad : Nat → Nat} {S : mSh} {μ : mMm} {i c : Nat} (h : mKd S i = c) : (mFs ad S μ i).length = (mFt c).length := by
  subst h
  simp [mFs]
theorem mFs_setI {ad : Nat → Nat} {S : mSh} {μ : mMm} {i c k : Nat} {v : Int32} (h : mKd S i = c) (hk : k < (mFt c).length) (ht : (mFt c).getD k 0 = 0) : (mFs ad S μ i).set k (.int v) = mFs ad S (u2 μ.1 i k v, μ.2) i := by
  subst h
  refine mset _ _ _ k _ hk ?_ (fun j hj => ?_)
  · rw [ht]
    simp [mVal, u2_same]
  · have : u2 μ.1 i k v i j = μ.1 i j := u2_other (Or.inr hj)
    simp only [mVal, this]
theorem mFs_setL {ad : Nat → Nat} {S : mSh} {μ : mMm} {i c k : Nat} {v : Int64} (h : mKd S i = c) (hk : k < (mFt c).length) (ht : (mFt c).getD k 0 = 1) : (mFs ad S μ i).set k (.long v) = mFs ad S (μ.1, u2 μ.2 i k v) i := by
  subst h
  refine mset _ _ _ k _ hk ?_ (fun j hj => ?_)
  · rw [ht]
    simp [mVal, u2_same]
  · have : u2 μ.2 i k v i j = μ.2 i j := u2_other (Or.inr hj)
    simp only [mVal, this]
/-- a number's reference is an address -/
def mv (ad : Nat → Nat) : Value → Value
  | .ref i => .ref (ad i)
  | v => v
theorem mv_cat (ad : Nat → Nat) (v : Value) : (mv ad v).category = v.category := by cases v <;> rfl
/-- the locals by their places, none where nothing is known -/
def mH (ls : Array Slot) (nL : Nat) (ad : Nat → Nat) (l : List (Option Value)) : Prop := ls.size = nL ∧ lv_wf ls ∧ ∀ (i : Nat) (v : Value), l[i]? = some (some v) → ls[i]? = some (.val (mv ad v))
def mPr (ad : Nat → Nat) (l : List (Option Value)) : List (Nat × Value) := (List.range l.length).filterMap (fun i => ((l[i]?).getD none).map (fun v => (i, mv ad v)))
theorem mPr_mem {ad : Nat → Nat} {l : List (Option Value)} {q : Nat × Value} : q ∈ mPr ad l ↔ ∃ v, l[q.1]? = some (some v) ∧ q.2 = mv ad v := by
  unfold mPr
  rw [List.mem_filterMap]
  constructor
  · rintro ⟨i, -, h⟩
    cases h1 : l[i]? with
    | none => rw [h1] at h; cases h
    | some x =>
      rw [h1] at h
      cases x with
      | none => cases h
      | some v =>
        cases h
        exact ⟨v, h1, rfl⟩
  · rintro ⟨v, h, h2⟩
    refine ⟨q.1, ?_, ?_⟩
    · exact List.mem_range.mpr (List.getElem?_eq_some_iff.mp h).1
    · rw [h]
      show some (q.1, mv ad v) = some q
      rw [← h2]
theorem mH_has {ls : Array Slot} {nL : Nat} {ad : Nat → Nat} {l : List (Option Value)} (h : mH ls nL ad l) : lv_has ls nL (mPr ad l) := by
  refine ⟨h.1, h.2.1, fun q hq => ?_⟩
  obtain ⟨v, h1, h2⟩ := mPr_mem.mp hq
  rw [h2]
  exact h.2.2 _ _ h1
/-- a long's or a double's place, when its second half is written -/
def kl : Option Value → Option Value
  | some (.long _) => none
  | some (.double _) => none
  | x => x
def ml1 (l : List (Option Value)) (i : Nat) (v : Value) : List (Option Value) := (if i = 0 then l else l.set (i - 1) (kl ((l[i - 1]?).getD none))).set i (some v)
def ml2 (l : List (Option Value)) (i : Nat) (v : Value) : List (Option Value) := ((if i = 0 then l else l.set (i - 1) (kl ((l[i - 1]?).getD none))).set i (some v)).set (i + 1) none
theorem kl_some {x : Option Value} {v : Value} (h : kl x = some v) : x = some v ∧ ¬ v.category = 2 := by
  cases x with
  | none => cases h
  | some w => cases w <;> first | (cases h; exact ⟨rfl, by simp [Value.category]⟩) | (exact absurd h (by simp [kl]))
theorem ml1_get {l : List (Option Value)} {i j : Nat} {v w : Value} (h : (ml1 l i v)[j]? = some (some w)) : (j = i ∧ w = v) ∨ (j ≠ i ∧ l[j]? = some (some w) ∧ (j + 1 = i → ¬ w.category = 2)) := by
  unfold ml1 at h
  rw [List.getElem?_set] at h
  by_cases hj : i = j
  · rw [if_pos hj] at h
    generalize (if i = 0 then l else l.set (i - 1) (kl ((l[i - 1]?).getD none))) = L at h
    by_cases hlt : i < L.length
    · rw [if_pos hlt] at h
      exact Or.inl ⟨hj.symm, (Option.some.inj (Option.some.inj h)).symm⟩
    · rw [if_neg hlt] at h
      cases h
  · rw [if_neg hj] at h
    refine Or.inr ⟨fun e => hj e.symm, ?_⟩
    by_cases h0 : i = 0
    · rw [if_pos h0] at h
      exact ⟨h, fun e => by omega⟩
    · rw [if_neg h0, List.getElem?_set] at h
      by_cases h1 : i - 1 = j
      · rw [if_pos h1] at h
        by_cases hlt : i - 1 < l.length
        · rw [if_pos hlt] at h
          have h2 := kl_some (Option.some.inj h)
          have h3 : l[i - 1]? = some l[i - 1] := List.getElem?_eq_getElem hlt
          rw [h3] at h2
          refine ⟨?_, fun _ => h2.2⟩
          rw [← h1, h3]
          exact congrArg some h2.1
        · rw [if_neg hlt] at h
          cases h
      · rw [if_neg h1] at h
        exact ⟨h, fun e => by omega⟩
theorem mH_st1 {ls : Array Slot} {nL : Nat} {ad : Nat → Nat} {l : List (Option Value)} {i : Nat} {v : Value} (h : lv_has ls nL ((i, mv ad v) :: (mPr ad l).filter (fun q => !(q.1 == i) && !(q.1 + 1 == i && q.2.category == 2)))) : mH ls nL ad (ml1 l i v) := by
  refine ⟨h.1, h.2.1, fun j w hj => ?_⟩
  rcases ml1_get hj with ⟨rfl, rfl⟩ | ⟨h1, h2, h3⟩
  · exact h.2.2 _ List.mem_cons_self
  · refine h.2.2 (j, mv ad w) (List.mem_cons_of_mem _ (List.mem_filter.mpr ⟨mPr_mem.mpr ⟨w, h2, rfl⟩, ?_⟩))
    by_cases h4 : j + 1 = i
    · have h5 := h3 h4
      simp [h1, mv_cat, h5]
    · simp [h1, h4]
theorem mH_st2 {ls : Array Slot} {nL : Nat} {ad : Nat → Nat} {l : List (Option Value)} {i : Nat} {v : Value} (h : lv_has ls nL ((i, mv ad v) :: (mPr ad l).filter (fun q => !(q.1 == i) && (!(q.1 == i + 1) && !(q.1 + 1 == i && q.2.category == 2))))) : mH ls nL ad (ml2 l i v) := by
  refine ⟨h.1, h.2.1, fun j w hj => ?_⟩
  have hj' : (ml1 l i v)[j]? = some (some w) ∧ j ≠ i + 1 := by
    have h6 : ((ml1 l i v).set (i + 1) none)[j]? = some (some w) := hj
    rw [List.getElem?_set] at h6
    by_cases hq : i + 1 = j
    · simp only [hq, if_true] at h6
      split at h6 <;> cases h6
    · simp only [hq, if_false] at h6
      exact ⟨h6, fun e => hq e.symm⟩
  rcases ml1_get hj'.1 with ⟨rfl, rfl⟩ | ⟨h1, h2, h3⟩
  · exact h.2.2 _ List.mem_cons_self
  · refine h.2.2 (j, mv ad w) (List.mem_cons_of_mem _ (List.mem_filter.mpr ⟨mPr_mem.mpr ⟨w, h2, rfl⟩, ?_⟩))
    by_cases h4 : j + 1 = i
    · have h5 := h3 h4
      simp [h1, mv_cat, h5, hj'.2]
    · simp [h1, h4, hj'.2]
/-! methods, contexts, places of a walk -/
/-- what a walk takes as given beside: of the code, the addresses, the start, the free places -/
abbrev mEx : Type := Code → (Nat → Nat) → State → (Nat → Prop) → Prop
def eT : mEx := fun _ _ _ _ => True
abbrev mM : Type := (MethodName × ByteArray × Nat × Option FieldType) × (Nat × Nat) × (Bool × Bool) × String × mEx
abbrev mY (M : mM) : MethodName := M.1.1
abbrev mCode (M : mM) : ByteArray := M.1.2.1
abbrev mMaxL (M : mM) : Nat := M.1.2.2.1
abbrev mRet (M : mM) : Option FieldType := M.1.2.2.2
abbrev mFr (M : mM) : Nat := M.2.1.1
abbrev mLo (M : mM) : Nat := M.2.1.2
abbrev mAl (M : mM) : Bool := M.2.2.1.1
abbrev mInit (M : mM) : Bool := M.2.2.1.2
abbrev mOwn (M : mM) : String := M.2.2.2.1
abbrev mXe (M : mM) : mEx := M.2.2.2.2
/-- the references are objects' numbers -/
def mRk (S : mSh) : Prop := ∀ i k r, mRf S i k = some r → r < mN S
abbrev mO : Type := Option Value ⊕ Nat
abbrev mCel (σ : mSt) : Nat := mN σ.1 + σ.2.2.1
abbrev mSlo (σ : mSt) : Nat := mTot σ.1 + σ.2.2.2
def mLe (σ τ : mSt) : Prop := mN σ.1 ≤ mN τ.1 ∧ mCel σ ≤ mCel τ ∧ mSlo σ ≤ mSlo τ
theorem mLe.rf {σ : mSt} : mLe σ σ := ⟨Nat.le_refl _, Nat.le_refl _, Nat.le_refl _⟩
theorem mLe.tr {σ τ ρ : mSt} (h : mLe σ τ) (k : mLe τ ρ) : mLe σ ρ := ⟨Nat.le_trans h.1 k.1, Nat.le_trans h.2.1 k.2.1, Nat.le_trans h.2.2 k.2.2⟩
def mCls (E : Nat) : String := match E with
  | 0 => "java/lang/IllegalArgumentException"
  | 1 => "java/lang/IllegalStateException"
  | _ => "java/lang/IndexOutOfBoundsException"
abbrev mNms : List String := ["java/lang/RuntimeException", "java/lang/Exception"]
/-- the strings of the throws: a place of the pool of SlideMills, and the text -/
def mTx : List (Nat × String) := [(83, "letter out of range"), (96, "the text is full"), (112, "no such place"), (130, "places out of range"), (137, "length out of range"), (145, "price out of range"), (156, "way out of range"), (173, "a token is wrong"), (186, "the sack is full"), (190, "distance or length out of range"), (192, "the sack is empty"), (236, "no such token"), (241, "it is a repeat"), (246, "it is a letter"), (292, "pair out of range"), (300, "the text has no pair")]
/-- what a throw takes as given, beside the words -/
def mTF (A : Nat → Prop) (U : State) (H : Heap) : Prop := vx_Zq Bundle.tN "UNASSIGNED_STACK" Bundle.steD A U H ∧ vx_Zq Bundle.tN "SUPPRESSED_SENTINEL" Bundle.listD A U H ∧ (∀ q ∈ mTx, ∃ sa, vk_R RX10 q.1 q.2 sa U) ∧ (∀ E, E < 3 → va_Nw (.castable (mCls E) (mCls E)) U) ∧ va_Nw (.declares ⟨"java/lang/RuntimeException", "<init>", "(Ljava/lang/String;)V"⟩) U ∧ va_Nw (.declares ⟨"java/lang/Exception", "<init>", "(Ljava/lang/String;)V"⟩) U ∧ va_Nw (.declares ⟨"java/lang/Throwable", "<init>", "(Ljava/lang/String;)V"⟩) U ∧ va_AO RX7 U ∧ (∀ i j, i < 3 → j < 2 → i ≠ j → va_Nc (mCls i) (mCls j) U)
def mCx (M : mM) (p : Program) (lch : Launch) (e : Env) (R : Room) (s : State) (m : MethodId) (args : Array Value) (below : List Frame) (meth : Method) (c : Code) (A : Nat → Prop) (D : va_G) (ca : Nat → ClassId) : Prop :=
  p.tables.exec = Jvm.exec ∧ c.code = mCode M ∧ c.maxLocals = mMaxL M ∧ s.vm.findClass (mOwn M) = some m.cls ∧ (∀ w ∈ wsL_law, w.before args s = true) ∧ (mInit M = true → meth.name = "<init>") ∧ va_K D vwCl (mTy ca) s ∧ (∀ q : Nat, s.heap.size ≤ q → A q) ∧ mFr M ≤ R.frames ∧ mLo M ≤ R.locals ∧ lch.flags = flags0
def mCf (M : mM) (s : State) (A : Nat → Prop) (D : va_G) (ca : Nat → ClassId) (n0 c0 s0 : Nat) (ad0 : Nat → Nat) (σ : mSt) (l : List (Option Value)) (ad : Nat → Nat) (H : Heap) (locs : List Loc) (ls : Array Slot) : Prop :=
  va_P D vwCl (mW ad ca σ.1 σ.2.1) H ∧ va_D A (mW ad ca σ.1 σ.2.1) ∧ va_S A s.heap H locs ∧ mH ls (mMaxL M) ad l ∧ (∀ i, (i < n0 ∨ 1000 ≤ i) → ad i = ad0 i) ∧ (mAl M = false → ad = ad0) ∧ (n0 ≤ mN σ.1 ∧ (mAl M = true → mRk σ.1)) ∧ c0 ≤ mCel σ ∧ s0 ≤ mSlo σ
/-- a place that throws E -/
def mSite (M : mM) (pc : Nat) (E : Nat) : Prop := ∃ (ik is ic : Nat) (tx : String), decode (mCode M) pc = .ok (.new ik, 3) ∧ decode (mCode M) (pc + 3) = .ok (.dup, 1) ∧
  ((decode (mCode M) (pc + 4) = .ok (.ldc is, 2) ∧ decode (mCode M) (pc + 6) = .ok (.invokespecial ic, 3) ∧ decode (mCode M) (pc + 9) = .ok (.athrow, 1)) ∨ (decode (mCode M) (pc + 4) = .ok (.ldc_w is, 3) ∧ decode (mCode M) (pc + 7) = .ok (.invokespecial ic, 3) ∧ decode (mCode M) (pc + 10) = .ok (.athrow, 1))) ∧
  mOwn M = RX10 ∧ Cond.classLink RX10 ik (mCls E) ∈ wsL_law ∧ Cond.initialized (mCls E) ∈ wsL_law ∧ ((E = 0 ∧ ic = 85) ∨ (E = 1 ∧ ic = 98) ∨ (E = 2 ∧ ic = 114)) ∧ (is, tx) ∈ mTx ∧ 6 ≤ mFr M ∧ 90 ≤ mLo M
def mEnd (M : mM) (n0 c0 s0 : Nat) (x : mO × mSt) (p : Program) (lch : Launch) (e : Env) (R : Room) (s : State) (m : MethodId) (args : Array Value) (below : List Frame) (meth : Method) (c : Code) (A : Nat → Prop) (D : va_G) (ca : Nat → ClassId) (Q : State → Prop) (ad0 : Nat → Nat) : Prop :=
  match x.1 with
  | .inl none => ∀ l ad H locs ls pc, mCf M s A D ca n0 c0 s0 ad0 x.2 l ad H locs ls → decode (mCode M) pc = .ok (.return_, 1) → mRet M = none → W p lch e R s m args below meth c H locs (mCel x.2 - c0) (mSlo x.2 - s0) Q (F0 m pc ls [])
  | .inl (some (.int v)) => ∀ l ad H locs ls pc ty, mCf M s A D ca n0 c0 s0 ad0 x.2 l ad H locs ls → decode (mCode M) pc = .ok (.ireturn, 1) → mRet M = some ty → narrow ty (.int v) = .int v → W p lch e R s m args below meth c H locs (mCel x.2 - c0) (mSlo x.2 - s0) Q (F0 m pc ls [.int v])
  | .inl (some (.long v)) => ∀ l ad H locs ls pc, mCf M s A D ca n0 c0 s0 ad0 x.2 l ad H locs ls → decode (mCode M) pc = .ok (.lreturn, 1) → mRet M = some .long → W p lch e R s m args below meth c H locs (mCel x.2 - c0) (mSlo x.2 - s0) Q (F0 m pc ls [.long v])
  | .inl (some (.double v)) => ∀ l ad H locs ls pc, mCf M s A D ca n0 c0 s0 ad0 x.2 l ad H locs ls → decode (mCode M) pc = .ok (.dreturn, 1) → mRet M = some .double → W p lch e R s m args below meth c H locs (mCel x.2 - c0) (mSlo x.2 - s0) Q (F0 m pc ls [.double v])
  | .inl (some _) => True
  | .inr E => ∀ σ l ad H locs ls pc rest, σ.1 = x.2.1 → σ.2.1 = x.2.2.1 → mCel σ + 1 ≤ mCel x.2 → mSlo σ + 6 ≤ mSlo x.2 → mCf M s A D ca n0 c0 s0 ad0 σ l ad H locs ls → mSite M pc E → (rest.map fun v => v.category).sum ≤ 8 → W p lch e R s m args below meth c H locs (mCel σ - c0) (mSlo σ - s0) Q (F0 m pc ls rest)
/-- a walk of M from here comes to what o says -/
def mX (M : mM) (n0 c0 s0 : Nat) (pc : Nat) (l : List (Option Value)) (st : List Value) (σ : mSt) {α : Type} (ι : α → mO × mSt) (o : Option α) : Prop :=
  ∀ a, o = some a → mLe σ (ι a).2 ∧ ∀ p lch e R s m args below meth c A D ca Q ad0, mCx M p lch e R s m args below meth c A D ca → (mTF A s s.heap ∧ mXe M c ad0 s A) → mCel (ι a).2 - c0 ≤ R.cells → mSlo (ι a).2 - s0 ≤ R.slots → mEnd M n0 c0 s0 (ι a) p lch e R s m args below meth c A D ca Q ad0 →
    ∀ ad H locs ls, mCf M s A D ca n0 c0 s0 ad0 σ l ad H locs ls → W p lch e R s m args below meth c H locs (mCel σ - c0) (mSlo σ - s0) Q (F0 m pc ls (st.map (mv ad)))
section MROWS
variable {M : mM} {n0 c0 s0 : Nat} {pc : Nat} {l : List (Option Value)} {st : List Value} {σ : mSt} {α : Type} {ι : α → mO × mSt} {o : Option α}
theorem x_none : mX M n0 c0 s0 pc l st σ ι none := fun a h => by cases h
/-- a row that leaves locals and memory alone -/
theorem mX.step {pc' : Nat} {st' : List Value} (h : ∀ (p : Program) (lch : Launch) (e : Env) (R : Room) (s : State) (m : MethodId) (args : Array Value) (below : List Frame) (meth : Method) (c : Code) (A : Nat → Prop) (D : va_G) (ca : Nat → ClassId) (Q : State → Prop) (H : Heap) (locs : List Loc) (cells slots : Nat) (ls : Array Slot) (ad : Nat → Nat), mCx M p lch e R s m args below meth c A D ca → cells ≤ R.cells → slots ≤ R.slots → mH ls (mMaxL M) ad l → W p lch e R s m args below meth c H locs cells slots Q (F0 m pc' ls (st'.map (mv ad))) → W p lch e R s m args below meth c H locs cells slots Q (F0 m pc ls (st.map (mv ad))))
    (k : mX M n0 c0 s0 pc' l st' σ ι o) : mX M n0 c0 s0 pc l st σ ι o := by
  intro a ha
  obtain ⟨h1, h2⟩ := k a ha
  refine ⟨h1, ?_⟩
  intro p lch e R s m args below meth c A D ca Q ad0 hc ht hr1 hr2 he ad H locs ls hf
  have g1 := h1.2.1
  have g2 := h1.2.2
  exact h p lch e R s m args below meth c A D ca Q H locs _ _ ls ad hc (by omega) (by omega) hf.2.2.2.1 (h2 p lch e R s m args below meth c A D ca Q ad0 hc ht hr1 hr2 he ad H locs ls hf)
theorem x_iconst {n : Int} {v : Int32} (hd : decode (mCode M) pc = .ok (.iconst n, 1)) (hv : Int32.ofInt n = v) (k : mX M n0 c0 s0 (pc + 1) l (.int v :: st) σ ι o) : mX M n0 c0 s0 pc l st σ ι o :=
  mX.step (fun _ _ _ _ _ _ _ _ _ _ _ _ _ _ _ _ _ _ _ _ hc _ _ hl w => lv_iconst hc.1 hc.2.1 hd hv w) k
theorem x_bipush {n : Int} {v : Int32} (hd : decode (mCode M) pc = .ok (.bipush n, 2)) (hv : (Int8.ofInt n).toInt32 = v) (k : mX M n0 c0 s0 (pc + 2) l (.int v :: st) σ ι o) : mX M n0 c0 s0 pc l st σ ι o :=
  mX.step (fun _ _ _ _ _ _ _ _ _ _ _ _ _ _ _ _ _ _ _ _ hc _ _ hl w => lv_bipush hc.1 hc.2.1 hd hv w) k
theorem x_sipush {n : Int} {v : Int32} (hd : decode (mCode M) pc = .ok (.sipush n, 3)) (hv : (Int16.ofInt n).toInt32 = v) (k : mX M n0 c0 s0 (pc + 3) l (.int v :: st) σ ι o) : mX M n0 c0 s0 pc l st σ ι o :=
  mX.step (fun _ _ _ _ _ _ _ _ _ _ _ _ _ _ _ _ _ _ _ _ hc _ _ hl w => lv_sipush hc.1 hc.2.1 hd hv w) k
theorem x_ldc {index : Nat} {v : Int32} (hd : decode (mCode M) pc = .ok (.ldc index, 2)) (hw : Jvm.Cond.constant (mOwn M) index v ∈ wsL_law) (k : mX M n0 c0 s0 (pc + 2) l (.int v :: st) σ ι o) : mX M n0 c0 s0 pc l st σ ι o :=
  mX.step (fun _ _ _ _ _ _ _ _ _ _ _ _ _ _ _ _ _ _ _ _ hc _ _ hl w => lv_ldc hc.1 hc.2.1 hc.2.2.2.1 (hc.2.2.2.2.1 _ hw) hd w) k
theorem x_lconst {n : Fin 2} {v : Int64} (hd : decode (mCode M) pc = .ok (.lconst n, 1)) (hv : Int64.ofNat (n : Nat) = v) (k : mX M n0 c0 s0 (pc + 1) l (.long v :: st) σ ι o) : mX M n0 c0 s0 pc l st σ ι o :=
  mX.step (fun _ _ _ _ _ _ _ _ _ _ _ _ _ _ _ _ _ _ _ _ hc _ _ hl w => lv_lconst hc.1 hc.2.1 hd hv w) k
theorem x_dconst1 (hd : decode (mCode M) pc = .ok (.dconst 1, 1)) (k : mX M n0 c0 s0 (pc + 1) l (.double FP.dconst1 :: st) σ ι o) : mX M n0 c0 s0 pc l st σ ι o :=
  mX.step (fun _ _ _ _ _ _ _ _ _ _ _ _ _ _ _ _ _ _ _ _ hc _ _ hl w => lv_dconst1 hc.1 hc.2.1 hd w) k
theorem x_ldc2 {index : Nat} {v : Int64} (hd : decode (mCode M) pc = .ok (.ldc2_w index, 3)) (hw : Jvm.Cond.constantLong (mOwn M) index v ∈ wsL_law) (k : mX M n0 c0 s0 (pc + 3) l (.long v :: st) σ ι o) : mX M n0 c0 s0 pc l st σ ι o :=
  mX.step (fun _ _ _ _ _ _ _ _ _ _ _ _ _ _ _ _ _ _ _ _ hc _ _ hl w => lv_ldc2 hc.1 hc.2.1 hc.2.2.2.1 (hc.2.2.2.2.1 _ hw) hd w) k
theorem x_ldc2d {index : Nat} {v : UInt64} (hd : decode (mCode M) pc = .ok (.ldc2_w index, 3)) (hw : Jvm.Cond.constantDouble (mOwn M) index v ∈ wsL_law) (k : mX M n0 c0 s0 (pc + 3) l (.double v :: st) σ ι o) : mX M n0 c0 s0 pc l st σ ι o :=
  mX.step (fun _ _ _ _ _ _ _ _ _ _ _ _ _ _ _ _ _ _ _ _ hc _ _ hl w => lv_ldc2d hc.1 hc.2.1 hc.2.2.2.1 (hc.2.2.2.2.1 _ hw) hd w) k
theorem x_iload_n {q : Fin 4} {i : Nat} {x : Int32} (hd : decode (mCode M) pc = .ok (.iload_n q, 1)) (hi : (q : Nat) = i) (hx : l[i]? = some (some (.int x))) (k : mX M n0 c0 s0 (pc + 1) l (.int x :: st) σ ι o) : mX M n0 c0 s0 pc l st σ ι o :=
  mX.step (fun _ _ _ _ _ _ _ _ _ _ _ _ _ _ _ _ _ _ _ _ hc _ _ hl w => lv_iload_n hc.1 hc.2.1 hd hi (hl.2.2 _ _ hx) w) k
theorem x_iload {i : Nat} {x : Int32} (hd : decode (mCode M) pc = .ok (.iload i, 2)) (hx : l[i]? = some (some (.int x))) (k : mX M n0 c0 s0 (pc + 2) l (.int x :: st) σ ι o) : mX M n0 c0 s0 pc l st σ ι o :=
  mX.step (fun _ _ _ _ _ _ _ _ _ _ _ _ _ _ _ _ _ _ _ _ hc _ _ hl w => lv_iload hc.1 hc.2.1 hd (hl.2.2 _ _ hx) w) k
theorem x_lload_n {q : Fin 4} {i : Nat} {x : Int64} (hd : decode (mCode M) pc = .ok (.lload_n q, 1)) (hi : (q : Nat) = i) (hx : l[i]? = some (some (.long x))) (k : mX M n0 c0 s0 (pc + 1) l (.long x :: st) σ ι o) : mX M n0 c0 s0 pc l st σ ι o :=
  mX.step (fun _ _ _ _ _ _ _ _ _ _ _ _ _ _ _ _ _ _ _ _ hc _ _ hl w => lv_lload_n hc.1 hc.2.1 hd hi (hl.2.2 _ _ hx) w) k
theorem x_lload {i : Nat} {x : Int64} (hd : decode (mCode M) pc = .ok (.lload i, 2)) (hx : l[i]? = some (some (.long x))) (k : mX M n0 c0 s0 (pc + 2) l (.long x :: st) σ ι o) : mX M n0 c0 s0 pc l st σ ι o :=
  mX.step (fun _ _ _ _ _ _ _ _ _ _ _ _ _ _ _ _ _ _ _ _ hc _ _ hl w => lv_lload hc.1 hc.2.1 hd (hl.2.2 _ _ hx) w) k
theorem x_dload_n {q : Fin 4} {i : Nat} {x : UInt64} (hd : decode (mCode M) pc = .ok (.dload_n q, 1)) (hi : (q : Nat) = i) (hx : l[i]? = some (some (.double x))) (k : mX M n0 c0 s0 (pc + 1) l (.double x :: st) σ ι o) : mX M n0 c0 s0 pc l st σ ι o :=
  mX.step (fun _ _ _ _ _ _ _ _ _ _ _ _ _ _ _ _ _ _ _ _ hc _ _ hl w => lv_dload_n hc.1 hc.2.1 hd hi (hl.2.2 _ _ hx) w) k
theorem x_dload {i : Nat} {x : UInt64} (hd : decode (mCode M) pc = .ok (.dload i, 2)) (hx : l[i]? = some (some (.double x))) (k : mX M n0 c0 s0 (pc + 2) l (.double x :: st) σ ι o) : mX M n0 c0 s0 pc l st σ ι o :=
  mX.step (fun _ _ _ _ _ _ _ _ _ _ _ _ _ _ _ _ _ _ _ _ hc _ _ hl w => lv_dload hc.1 hc.2.1 hd (hl.2.2 _ _ hx) w) k
theorem x_aload_n {q : Fin 4} {i : Nat} {x : Nat} (hd : decode (mCode M) pc = .ok (.aload_n q, 1)) (hi : (q : Nat) = i) (hx : l[i]? = some (some (.ref x))) (k : mX M n0 c0 s0 (pc + 1) l (.ref x :: st) σ ι o) : mX M n0 c0 s0 pc l st σ ι o :=
  mX.step (fun _ _ _ _ _ _ _ _ _ _ _ _ _ _ _ _ _ _ _ _ hc _ _ hl w => lv_aload_n hc.1 hc.2.1 hd hi (hl.2.2 _ _ hx) w) k
theorem x_aload {i : Nat} {x : Nat} (hd : decode (mCode M) pc = .ok (.aload i, 2)) (hx : l[i]? = some (some (.ref x))) (k : mX M n0 c0 s0 (pc + 2) l (.ref x :: st) σ ι o) : mX M n0 c0 s0 pc l st σ ι o :=
  mX.step (fun _ _ _ _ _ _ _ _ _ _ _ _ _ _ _ _ _ _ _ _ hc _ _ hl w => lv_aload hc.1 hc.2.1 hd (hl.2.2 _ _ hx) w) k
theorem x_iadd {x y : Int32} (hd : decode (mCode M) pc = .ok (.iadd, 1)) (k : mX M n0 c0 s0 (pc + 1) l (.int (x + y) :: st) σ ι o) : mX M n0 c0 s0 pc l (.int y :: .int x :: st) σ ι o :=
  mX.step (fun _ _ _ _ _ _ _ _ _ _ _ _ _ _ _ _ _ _ _ _ hc _ _ hl w => lv_iadd hc.1 hc.2.1 hd w) k
theorem x_isub {x y : Int32} (hd : decode (mCode M) pc = .ok (.isub, 1)) (k : mX M n0 c0 s0 (pc + 1) l (.int (x - y) :: st) σ ι o) : mX M n0 c0 s0 pc l (.int y :: .int x :: st) σ ι o :=
  mX.step (fun _ _ _ _ _ _ _ _ _ _ _ _ _ _ _ _ _ _ _ _ hc _ _ hl w => lv_isub hc.1 hc.2.1 hd w) k
theorem x_imul {x y : Int32} (hd : decode (mCode M) pc = .ok (.imul, 1)) (k : mX M n0 c0 s0 (pc + 1) l (.int (x * y) :: st) σ ι o) : mX M n0 c0 s0 pc l (.int y :: .int x :: st) σ ι o :=
  mX.step (fun _ _ _ _ _ _ _ _ _ _ _ _ _ _ _ _ _ _ _ _ hc _ _ hl w => lv_imul hc.1 hc.2.1 hd w) k
theorem x_iand {x y : Int32} (hd : decode (mCode M) pc = .ok (.iand, 1)) (k : mX M n0 c0 s0 (pc + 1) l (.int (x &&& y) :: st) σ ι o) : mX M n0 c0 s0 pc l (.int y :: .int x :: st) σ ι o :=
  mX.step (fun _ _ _ _ _ _ _ _ _ _ _ _ _ _ _ _ _ _ _ _ hc _ _ hl w => lv_iand hc.1 hc.2.1 hd w) k
theorem x_ladd {x y : Int64} (hd : decode (mCode M) pc = .ok (.ladd, 1)) (k : mX M n0 c0 s0 (pc + 1) l (.long (x + y) :: st) σ ι o) : mX M n0 c0 s0 pc l (.long y :: .long x :: st) σ ι o :=
  mX.step (fun _ _ _ _ _ _ _ _ _ _ _ _ _ _ _ _ _ _ _ _ hc _ _ hl w => lv_ladd hc.1 hc.2.1 hd w) k
theorem x_lsub {x y : Int64} (hd : decode (mCode M) pc = .ok (.lsub, 1)) (k : mX M n0 c0 s0 (pc + 1) l (.long (x - y) :: st) σ ι o) : mX M n0 c0 s0 pc l (.long y :: .long x :: st) σ ι o :=
  mX.step (fun _ _ _ _ _ _ _ _ _ _ _ _ _ _ _ _ _ _ _ _ hc _ _ hl w => lv_lsub hc.1 hc.2.1 hd w) k
theorem x_lmul {x y : Int64} (hd : decode (mCode M) pc = .ok (.lmul, 1)) (k : mX M n0 c0 s0 (pc + 1) l (.long (x * y) :: st) σ ι o) : mX M n0 c0 s0 pc l (.long y :: .long x :: st) σ ι o :=
  mX.step (fun _ _ _ _ _ _ _ _ _ _ _ _ _ _ _ _ _ _ _ _ hc _ _ hl w => lv_lmul hc.1 hc.2.1 hd w) k
theorem x_lshl {x : Int64} {y : Int32} (hd : decode (mCode M) pc = .ok (.lshl, 1)) (k : mX M n0 c0 s0 (pc + 1) l (.long (x <<< (y.toInt64 &&& 63)) :: st) σ ι o) : mX M n0 c0 s0 pc l (.int y :: .long x :: st) σ ι o :=
  mX.step (fun _ _ _ _ _ _ _ _ _ _ _ _ _ _ _ _ _ _ _ _ hc _ _ hl w => lv_lshl hc.1 hc.2.1 hd rfl w) k
theorem x_i2l {x : Int32} (hd : decode (mCode M) pc = .ok (.i2l, 1)) (k : mX M n0 c0 s0 (pc + 1) l (.long x.toInt64 :: st) σ ι o) : mX M n0 c0 s0 pc l (.int x :: st) σ ι o :=
  mX.step (fun _ _ _ _ _ _ _ _ _ _ _ _ _ _ _ _ _ _ _ _ hc _ _ hl w => lv_i2l hc.1 hc.2.1 hd rfl w) k
theorem x_i2d {x : Int32} (hd : decode (mCode M) pc = .ok (.i2d, 1)) (k : mX M n0 c0 s0 (pc + 1) l (.double (FP.i2d x) :: st) σ ι o) : mX M n0 c0 s0 pc l (.int x :: st) σ ι o :=
  mX.step (fun _ _ _ _ _ _ _ _ _ _ _ _ _ _ _ _ _ _ _ _ hc _ _ hl w => lv_i2d hc.1 hc.2.1 hd w) k
theorem x_d2l {x : UInt64} (hd : decode (mCode M) pc = .ok (.d2l, 1)) (k : mX M n0 c0 s0 (pc + 1) l (.long (FP.d2l x) :: st) σ ι o) : mX M n0 c0 s0 pc l (.double x :: st) σ ι o :=
  mX.step (fun _ _ _ _ _ _ _ _ _ _ _ _ _ _ _ _ _ _ _ _ hc _ _ hl w => lv_d2l hc.1 hc.2.1 hd w) k
theorem x_i2c {x : Int32} (hd : decode (mCode M) pc = .ok (.i2c, 1)) (k : mX M n0 c0 s0 (pc + 1) l (.int (x.toUInt32 % 65536).toInt32 :: st) σ ι o) : mX M n0 c0 s0 pc l (.int x :: st) σ ι o :=
  mX.step (fun _ _ _ _ _ _ _ _ _ _ _ _ _ _ _ _ _ _ _ _ hc _ _ hl w => lv_i2c hc.1 hc.2.1 hd rfl w) k
theorem x_lcmp {x y : Int64} (hd : decode (mCode M) pc = .ok (.lcmp, 1)) (k : mX M n0 c0 s0 (pc + 1) l (.int (lg_cmp x y) :: st) σ ι o) : mX M n0 c0 s0 pc l (.long y :: .long x :: st) σ ι o :=
  mX.step (fun _ _ _ _ _ _ _ _ _ _ _ _ _ _ _ _ _ _ _ _ hc _ _ hl w => W.lcmp hc.1 hc.2.1 hd w) k
theorem x_dcmp {x y : UInt64} {op : CmpOp} (hd : decode (mCode M) pc = .ok (.dcmp op, 1)) (k : mX M n0 c0 s0 (pc + 1) l (.int (Op.cmpValue (FP.dcmp x y) op) :: st) σ ι o) : mX M n0 c0 s0 pc l (.double y :: .double x :: st) σ ι o :=
  mX.step (fun _ _ _ _ _ _ _ _ _ _ _ _ _ _ _ _ _ _ _ _ hc _ _ hl w => lv_dcmp hc.1 hc.2.1 hd w) k
theorem x_dup {v : Value} (hd : decode (mCode M) pc = .ok (.dup, 1)) (hv : v.category = 1) (k : mX M n0 c0 s0 (pc + 1) l (v :: v :: st) σ ι o) : mX M n0 c0 s0 pc l (v :: st) σ ι o :=
  mX.step (fun _ _ _ _ _ _ _ _ _ _ _ _ _ _ _ _ _ _ _ ad hc _ _ hl w => lv_dup hc.1 hc.2.1 hd ((mv_cat ad v).trans hv) w) k
theorem x_dup2 {v w : Value} (hd : decode (mCode M) pc = .ok (.dup2, 1)) (hv : v.category = 1) (hw : w.category = 1) (k : mX M n0 c0 s0 (pc + 1) l (v :: w :: v :: w :: st) σ ι o) : mX M n0 c0 s0 pc l (v :: w :: st) σ ι o :=
  mX.step (fun _ _ _ _ _ _ _ _ _ _ _ _ _ _ _ _ _ _ _ ad hc _ _ hl z => lv_dup2_11 hc.1 hc.2.1 hd ((mv_cat ad v).trans hv) ((mv_cat ad w).trans hw) z) k
theorem x_pop {v : Value} (hd : decode (mCode M) pc = .ok (.pop, 1)) (hv : v.category = 1) (k : mX M n0 c0 s0 (pc + 1) l st σ ι o) : mX M n0 c0 s0 pc l (v :: st) σ ι o :=
  mX.step (fun _ _ _ _ _ _ _ _ _ _ _ _ _ _ _ _ _ _ _ ad hc _ _ hl w => lv_pop hc.1 hc.2.1 hd ((mv_cat ad v).trans hv) w) k
theorem x_goto {off : Int} {tgt : Nat} (hd : decode (mCode M) pc = .ok (.goto off, 3)) (ht : (pc : Int) + off = (tgt : Int)) (k : mX M n0 c0 s0 tgt l st σ ι o) : mX M n0 c0 s0 pc l st σ ι o :=
  mX.step (fun _ _ _ _ _ _ _ _ _ _ _ _ _ _ _ _ _ _ _ _ hc _ _ hl w => lv_goto hc.1 hc.2.1 hd ht w) k
theorem x_ifnull {x : Nat} {off : Int} (hd : decode (mCode M) pc = .ok (.ifnull off, 3)) (k : mX M n0 c0 s0 (pc + 3) l st σ ι o) : mX M n0 c0 s0 pc l (.ref x :: st) σ ι o :=
  mX.step (fun _ _ _ _ _ _ _ _ _ _ _ _ _ _ _ _ _ _ _ _ hc _ _ hl w => lv_ifnull hc.1 hc.2.1 hd w) k
theorem x_tableOut {dflt lo hi : Int} {offs : Array Int} {len : Nat} {x : Int32} {tgt : Nat} (hd : decode (mCode M) pc = .ok (.tableswitch dflt lo hi offs, len)) (h : x.toInt < lo ∨ hi < x.toInt) (ht : (pc : Int) + dflt = (tgt : Int)) (k : mX M n0 c0 s0 tgt l st σ ι o) : mX M n0 c0 s0 pc l (.int x :: st) σ ι o :=
  mX.step (fun _ _ _ _ _ _ _ _ _ _ _ _ _ _ _ _ _ _ _ _ hc _ _ hl w => lv_tableOut hc.1 hc.2.1 hd h ht w) k
theorem x_tableIn {dflt lo hi : Int} {offs : Array Int} {len : Nat} {x : Int32} {off : Int} {tgt : Nat} (hd : decode (mCode M) pc = .ok (.tableswitch dflt lo hi offs, len)) (h1 : ¬ x.toInt < lo) (h2 : ¬ hi < x.toInt) (ho : offs[(x.toInt - lo).toNat]? = some off) (ht : (pc : Int) + off = (tgt : Int)) (k : mX M n0 c0 s0 tgt l st σ ι o) : mX M n0 c0 s0 pc l (.int x :: st) σ ι o :=
  mX.step (fun _ _ _ _ _ _ _ _ _ _ _ _ _ _ _ _ _ _ _ _ hc _ _ hl w => lv_tableIn hc.1 hc.2.1 hd h1 h2 ho ht w) k
theorem x_lookup {dflt : Int} {ps : Array (Int × Int)} {len : Nat} {x : Int32} {off : Int} {tgt : Nat} (hd : decode (mCode M) pc = .ok (.lookupswitch dflt ps, len)) (hp : (ps.toList.zip (ps.toList.drop 1)).all (fun (a, next) => a.1 < next.1) = true) (ho : Op.lookupswitch.offset ps.toList dflt x.toInt = off) (ht : (pc : Int) + off = (tgt : Int)) (k : mX M n0 c0 s0 tgt l st σ ι o) : mX M n0 c0 s0 pc l (.int x :: st) σ ι o :=
  mX.step (fun _ _ _ _ _ _ _ _ _ _ _ _ _ _ _ _ _ _ _ _ hc _ _ hl w => lv_lookup hc.1 hc.2.1 hd hp ho ht w) k
/-- a row that writes a place of the locals -/
theorem mX.stepL {pc' : Nat} {st' : List Value} {l' : List (Option Value)} (h : ∀ (p : Program) (lch : Launch) (e : Env) (R : Room) (s : State) (m : MethodId) (args : Array Value) (below : List Frame) (meth : Method) (c : Code) (A : Nat → Prop) (D : va_G) (ca : Nat → ClassId) (Q : State → Prop) (H : Heap) (locs : List Loc) (cells slots : Nat) (ls : Array Slot) (ad : Nat → Nat), mCx M p lch e R s m args below meth c A D ca → mH ls (mMaxL M) ad l → (∀ ls', mH ls' (mMaxL M) ad l' → W p lch e R s m args below meth c H locs cells slots Q (F0 m pc' ls' (st'.map (mv ad)))) → W p lch e R s m args below meth c H locs cells slots Q (F0 m pc ls (st.map (mv ad))))
    (k : mX M n0 c0 s0 pc' l' st' σ ι o) : mX M n0 c0 s0 pc l st σ ι o := by
  intro a ha
  obtain ⟨h1, h2⟩ := k a ha
  refine ⟨h1, ?_⟩
  intro p lch e R s m args below meth c A D ca Q ad0 hc ht hr1 hr2 he ad H locs ls hf
  exact h p lch e R s m args below meth c A D ca Q H locs _ _ ls ad hc hf.2.2.2.1 (fun ls' hl' => h2 p lch e R s m args below meth c A D ca Q ad0 hc ht hr1 hr2 he ad H locs ls' ⟨hf.1, hf.2.1, hf.2.2.1, hl', hf.2.2.2.2⟩)
theorem x_istore_n {q : Fin 4} {i : Nat} {x : Int32} {l' : List (Option Value)} (hd : decode (mCode M) pc = .ok (.istore_n q, 1)) (hi : (q : Nat) = i) (hn : i < mMaxL M) (hl : ml1 l i (.int x) = l') (k : mX M n0 c0 s0 (pc + 1) l' st σ ι o) : mX M n0 c0 s0 pc l (.int x :: st) σ ι o :=
  mX.stepL (fun _ _ _ _ _ _ _ _ _ _ _ _ _ _ _ _ _ _ _ ad hc h w => lv_istore_n hc.1 hc.2.1 hd hi (mH_has h) hn rfl (fun ls' h' => w ls' (hl ▸ mH_st1 (v := .int x) h'))) k
theorem x_istore {i : Nat} {x : Int32} {l' : List (Option Value)} (hd : decode (mCode M) pc = .ok (.istore i, 2)) (hn : i < mMaxL M) (hl : ml1 l i (.int x) = l') (k : mX M n0 c0 s0 (pc + 2) l' st σ ι o) : mX M n0 c0 s0 pc l (.int x :: st) σ ι o :=
  mX.stepL (fun _ _ _ _ _ _ _ _ _ _ _ _ _ _ _ _ _ _ _ ad hc h w => lv_istore hc.1 hc.2.1 hd (mH_has h) hn rfl (fun ls' h' => w ls' (hl ▸ mH_st1 (v := .int x) h'))) k
theorem x_astore_n {q : Fin 4} {i : Nat} {x : Nat} {l' : List (Option Value)} (hd : decode (mCode M) pc = .ok (.astore_n q, 1)) (hi : (q : Nat) = i) (hn : i < mMaxL M) (hl : ml1 l i (.ref x) = l') (k : mX M n0 c0 s0 (pc + 1) l' st σ ι o) : mX M n0 c0 s0 pc l (.ref x :: st) σ ι o :=
  mX.stepL (fun _ _ _ _ _ _ _ _ _ _ _ _ _ _ _ _ _ _ _ ad hc h w => lv_astore_n hc.1 hc.2.1 hd hi (mH_has h) hn rfl (fun ls' h' => w ls' (hl ▸ mH_st1 (v := .ref x) h'))) k
theorem x_astore {i : Nat} {x : Nat} {l' : List (Option Value)} (hd : decode (mCode M) pc = .ok (.astore i, 2)) (hn : i < mMaxL M) (hl : ml1 l i (.ref x) = l') (k : mX M n0 c0 s0 (pc + 2) l' st σ ι o) : mX M n0 c0 s0 pc l (.ref x :: st) σ ι o :=
  mX.stepL (fun _ _ _ _ _ _ _ _ _ _ _ _ _ _ _ _ _ _ _ ad hc h w => lv_astore hc.1 hc.2.1 hd (mH_has h) hn rfl (fun ls' h' => w ls' (hl ▸ mH_st1 (v := .ref x) h'))) k
theorem x_lstore_n {q : Fin 4} {i : Nat} {x : Int64} {l' : List (Option Value)} (hd : decode (mCode M) pc = .ok (.lstore_n q, 1)) (hi : (q : Nat) = i) (hn : i + 1 < mMaxL M) (hl : ml2 l i (.long x) = l') (k : mX M n0 c0 s0 (pc + 1) l' st σ ι o) : mX M n0 c0 s0 pc l (.long x :: st) σ ι o :=
  mX.stepL (fun _ _ _ _ _ _ _ _ _ _ _ _ _ _ _ _ _ _ _ ad hc h w => lv_lstore_n hc.1 hc.2.1 hd hi (mH_has h) hn rfl (fun ls' h' => w ls' (hl ▸ mH_st2 (v := .long x) h'))) k
theorem x_lstore {i : Nat} {x : Int64} {l' : List (Option Value)} (hd : decode (mCode M) pc = .ok (.lstore i, 2)) (hn : i + 1 < mMaxL M) (hl : ml2 l i (.long x) = l') (k : mX M n0 c0 s0 (pc + 2) l' st σ ι o) : mX M n0 c0 s0 pc l (.long x :: st) σ ι o :=
  mX.stepL (fun _ _ _ _ _ _ _ _ _ _ _ _ _ _ _ _ _ _ _ ad hc h w => lv_lstore hc.1 hc.2.1 hd (mH_has h) hn rfl (fun ls' h' => w ls' (hl ▸ mH_st2 (v := .long x) h'))) k
theorem x_dstore_n {q : Fin 4} {i : Nat} {x : UInt64} {l' : List (Option Value)} (hd : decode (mCode M) pc = .ok (.dstore_n q, 1)) (hi : (q : Nat) = i) (hn : i + 1 < mMaxL M) (hl : ml2 l i (.double x) = l') (k : mX M n0 c0 s0 (pc + 1) l' st σ ι o) : mX M n0 c0 s0 pc l (.double x :: st) σ ι o :=
  mX.stepL (fun _ _ _ _ _ _ _ _ _ _ _ _ _ _ _ _ _ _ _ ad hc h w => lv_dstore_n hc.1 hc.2.1 hd hi (mH_has h) hn rfl (fun ls' h' => w ls' (hl ▸ mH_st2 (v := .double x) h'))) k
theorem x_dstore {i : Nat} {x : UInt64} {l' : List (Option Value)} (hd : decode (mCode M) pc = .ok (.dstore i, 2)) (hn : i + 1 < mMaxL M) (hl : ml2 l i (.double x) = l') (k : mX M n0 c0 s0 (pc + 2) l' st σ ι o) : mX M n0 c0 s0 pc l (.double x :: st) σ ι o :=
  mX.stepL (fun _ _ _ _ _ _ _ _ _ _ _ _ _ _ _ _ _ _ _ ad hc h w => lv_dstore hc.1 hc.2.1 hd (mH_has h) hn rfl (fun ls' h' => w ls' (hl ▸ mH_st2 (v := .double x) h'))) k
theorem mH_pr {ls : Array Slot} {nL : Nat} {ad : Nat → Nat} {l : List (Option Value)} {i : Nat} {v : Value} (h : l[i]? = some (some v)) : ∃ j : Nat, (mPr ad l)[j]? = some (i, mv ad v) := List.mem_iff_getElem?.mp (mPr_mem.mpr ⟨v, h, rfl⟩)
theorem x_iinc {i : Nat} {n : Int} {x v : Int32} {l' : List (Option Value)} (hd : decode (mCode M) pc = .ok (.iinc i n, 3)) (hx : l[i]? = some (some (.int x))) (hv : x + Int32.ofInt n = v) (hn : i < mMaxL M) (hl : ml1 l i (.int v) = l') (k : mX M n0 c0 s0 (pc + 3) l' st σ ι o) : mX M n0 c0 s0 pc l st σ ι o :=
  mX.stepL (fun _ _ _ _ _ _ _ _ _ _ _ _ _ _ _ _ _ _ ls ad hc h w => by
    obtain ⟨j, hj⟩ := mH_pr (ls := ls) (nL := mMaxL M) (ad := ad) hx
    exact lv_iinc hc.1 hc.2.1 hd (mH_has h) hj hv hn rfl (fun ls' h' => w ls' (hl ▸ mH_st1 (v := .int v) h'))) k
end MROWS
