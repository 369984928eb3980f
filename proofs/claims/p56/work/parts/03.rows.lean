/-! branches, fields, arrays of the numbered machine -/
def gI (S : mSh) (μ : mMm) (o c k : Nat) : Option Int32 := if mok S o c = true then some (μ.1 o k) else none
def gL (S : mSh) (μ : mMm) (o c k : Nat) : Option Int64 := if mok S o c = true then some (μ.2 o k) else none
def gR (S : mSh) (o c k : Nat) : Option Nat := if mok S o c = true then mRf S o k else none
def pI (S : mSh) (μ : mMm) (o c k : Nat) (v : Int32) : Option mMm := if mok S o c = true then some (u2 μ.1 o k v, μ.2) else none
def pL (S : mSh) (μ : mMm) (o c k : Nat) (v : Int64) : Option mMm := if mok S o c = true then some (μ.1, u2 μ.2 o k v) else none
def mIn (i : Int32) (n : Nat) : Bool := decide (0 ≤ i) && decide (i.toNatClampNeg < n)
theorem mIn_in {i : Int32} {n : Nat} (h : mIn i n = true) : vp_in i n := by
  simp only [mIn, Bool.and_eq_true, decide_eq_true_eq] at h
  intro hh
  rcases hh with hh | hh
  · have h1 := h.1
    rw [Int32.le_iff_toInt_le] at h1
    rw [Int32.lt_iff_toInt_lt] at hh
    omega
  · omega
def ldI (S : mSh) (μ : mMm) (a : Nat) (i : Int32) : Option Int32 := if mok S a 12 = true ∧ mIn i (mLn S a) = true then some (μ.1 a i.toNatClampNeg) else none
def stI (S : mSh) (μ : mMm) (a : Nat) (i v : Int32) : Option mMm := if mok S a 12 = true ∧ mIn i (mLn S a) = true then some (u2 μ.1 a i.toNatClampNeg v, μ.2) else none
def ldR (S : mSh) (a : Nat) (i : Int32) : Option Nat := if mok S a 15 = true ∧ mIn i (mLn S a) = true then mRf S a i.toNatClampNeg else none
def aL (S : mSh) (a c : Nat) : Option Int32 := if mok S a c = true then some (Int32.ofNat (mLn S a)) else none
/-- what is the same for all fields of a kind of objects -/
def mFC (c : Nat) (C : String) (T : u_T) (N : Nat) (ty : Nat → FieldType) : Prop := vwCl[c]? = some (C, T, N) ∧ (∀ w ∈ u_ws C T N, w ∈ wsL_law) ∧ (mFt c).length = N ∧ c < 12 ∧ (∀ k, k < N → parseFieldDescriptor (T k).2.2.1 = some (ty k)) ∧ (∀ a, a < N → ∀ b, b < N → a ≠ b → (T a).2.1 ≠ (T b).2.1)
theorem fcX0 : mFC 0 RX0 TX0 3 tyX0 := ⟨rfl, inlX0, rfl, by decide, tyX0_ok, nmX0⟩
theorem fcX1 : mFC 1 RX1 TX1 3 tyX1 := ⟨rfl, inlX1, rfl, by decide, tyX1_ok, nmX1⟩
theorem fcX2 : mFC 2 RX2 TX2 2 tyX2 := ⟨rfl, inlX2, rfl, by decide, tyX2_ok, nmX2⟩
theorem fcX3 : mFC 3 RX3 TX3 3 tyX3 := ⟨rfl, inlX3, rfl, by decide, tyX3_ok, nmX3⟩
theorem fcX4 : mFC 4 RX4 TX4 2 tyX4 := ⟨rfl, inlX4, rfl, by decide, tyX4_ok, nmX4⟩
theorem fcX5 : mFC 5 RX5 TX5 3 tyX5 := ⟨rfl, inlX5, rfl, by decide, tyX5_ok, nmX5⟩
theorem fcX6 : mFC 6 RX6 TX6 5 tyX6 := ⟨rfl, inlX6, rfl, by decide, tyX6_ok, nmX6⟩
theorem fcX7 : mFC 7 RX7 TX7 5 tyX7 := ⟨rfl, inlX7, rfl, by decide, tyX7_ok, nmX7⟩
theorem fcX8 : mFC 8 RX8 TX8 3 tyX8 := ⟨rfl, inlX8, rfl, by decide, tyX8_ok, nmX8⟩
theorem fcX9 : mFC 9 RX9 TX9 2 tyX9 := ⟨rfl, inlX9, rfl, by decide, tyX9_ok, nmX9⟩
theorem fcX10 : mFC 10 RX10 TX10 9 tyX10 := ⟨rfl, inlX10, rfl, by decide, tyX10_ok, nmX10⟩
section MROWS3
variable {M : mM} {n0 c0 s0 : Nat} {pc : Nat} {l : List (Option Value)} {st : List Value} {S : mSh} {μ : mMm} {cx cy : Nat} {α : Type} {ι : α → mO × mSt} {o : Option α}
/-- a row with two ways on -/
theorem mX.br {pc1 pc2 : Nat} {st1 : List Value} {P : Prop} [dP : Decidable P] {σ : mSt} {o1 o2 : Option α} (h : ∀ (p : Program) (lch : Launch) (e : Env) (R : Room) (s : State) (m : MethodId) (args : Array Value) (below : List Frame) (meth : Method) (c : Code) (A : Nat → Prop) (D : va_G) (ca : Nat → ClassId) (Q : State → Prop) (H : Heap) (locs : List Loc) (cells slots : Nat) (ls : Array Slot) (ad : Nat → Nat), mCx M p lch e R s m args below meth c A D ca → (P → W p lch e R s m args below meth c H locs cells slots Q (F0 m pc1 ls (st1.map (mv ad)))) → (¬ P → W p lch e R s m args below meth c H locs cells slots Q (F0 m pc2 ls (st1.map (mv ad)))) → W p lch e R s m args below meth c H locs cells slots Q (F0 m pc ls (st.map (mv ad))))
    (k1 : mX M n0 c0 s0 pc1 l st1 σ ι o1) (k2 : mX M n0 c0 s0 pc2 l st1 σ ι o2) : mX M n0 c0 s0 pc l st σ ι (if P then o1 else o2) := by
  intro a ha
  by_cases hp : P
  · rw [if_pos hp] at ha
    obtain ⟨h1, h2⟩ := k1 a ha
    refine ⟨h1, ?_⟩
    intro p lch e R s m args below meth c A D ca Q ad0 hc ht hr1 hr2 he ad H locs ls hf
    exact h p lch e R s m args below meth c A D ca Q H locs _ _ ls ad hc (fun _ => h2 p lch e R s m args below meth c A D ca Q ad0 hc ht hr1 hr2 he ad H locs ls hf) (fun z => absurd hp z)
  · rw [if_neg hp] at ha
    obtain ⟨h1, h2⟩ := k2 a ha
    refine ⟨h1, ?_⟩
    intro p lch e R s m args below meth c A D ca Q ad0 hc ht hr1 hr2 he ad H locs ls hf
    exact h p lch e R s m args below meth c A D ca Q H locs _ _ ls ad hc (fun z => absurd z hp) (fun _ => h2 p lch e R s m args below meth c A D ca Q ad0 hc ht hr1 hr2 he ad H locs ls hf)
variable {σ : mSt} {o1 o2 : Option α}
theorem x_if_eq {x : Int32} {off : Int} {tgt : Nat} (hd : decode (mCode M) pc = .ok (.ifCond .eq off, 3)) (ht : (pc : Int) + off = (tgt : Int)) (k1 : mX M n0 c0 s0 tgt l st σ ι o1) (k2 : mX M n0 c0 s0 (pc + 3) l st σ ι o2) : mX M n0 c0 s0 pc l (.int x :: st) σ ι (if x = 0 then o1 else o2) :=
  mX.br (fun _ _ _ _ _ _ _ _ _ _ _ _ _ _ _ _ _ _ _ _ hc w1 w2 => lv_if_eq hc.1 hc.2.1 hd ht w1 w2) k1 k2
theorem x_if_ne {x : Int32} {off : Int} {tgt : Nat} (hd : decode (mCode M) pc = .ok (.ifCond .ne off, 3)) (ht : (pc : Int) + off = (tgt : Int)) (k1 : mX M n0 c0 s0 (pc + 3) l st σ ι o1) (k2 : mX M n0 c0 s0 tgt l st σ ι o2) : mX M n0 c0 s0 pc l (.int x :: st) σ ι (if x = 0 then o1 else o2) :=
  mX.br (fun _ _ _ _ _ _ _ _ _ _ _ _ _ _ _ _ _ _ _ _ hc w1 w2 => lv_if_ne hc.1 hc.2.1 hd ht w2 w1) k1 k2
theorem x_if_lt {x : Int32} {off : Int} {tgt : Nat} (hd : decode (mCode M) pc = .ok (.ifCond .lt off, 3)) (ht : (pc : Int) + off = (tgt : Int)) (k1 : mX M n0 c0 s0 tgt l st σ ι o1) (k2 : mX M n0 c0 s0 (pc + 3) l st σ ι o2) : mX M n0 c0 s0 pc l (.int x :: st) σ ι (if x < 0 then o1 else o2) :=
  mX.br (fun _ _ _ _ _ _ _ _ _ _ _ _ _ _ _ _ _ _ _ _ hc w1 w2 => lv_if_lt hc.1 hc.2.1 hd ht w1 w2) k1 k2
theorem x_if_ge {x : Int32} {off : Int} {tgt : Nat} (hd : decode (mCode M) pc = .ok (.ifCond .ge off, 3)) (ht : (pc : Int) + off = (tgt : Int)) (k1 : mX M n0 c0 s0 tgt l st σ ι o1) (k2 : mX M n0 c0 s0 (pc + 3) l st σ ι o2) : mX M n0 c0 s0 pc l (.int x :: st) σ ι (if 0 ≤ x then o1 else o2) :=
  mX.br (fun _ _ _ _ _ _ _ _ _ _ _ _ _ _ _ _ _ _ _ _ hc w1 w2 => lv_if_ge hc.1 hc.2.1 hd ht w1 w2) k1 k2
theorem x_if_gt {x : Int32} {off : Int} {tgt : Nat} (hd : decode (mCode M) pc = .ok (.ifCond .gt off, 3)) (ht : (pc : Int) + off = (tgt : Int)) (k1 : mX M n0 c0 s0 tgt l st σ ι o1) (k2 : mX M n0 c0 s0 (pc + 3) l st σ ι o2) : mX M n0 c0 s0 pc l (.int x :: st) σ ι (if 0 < x then o1 else o2) :=
  mX.br (fun _ _ _ _ _ _ _ _ _ _ _ _ _ _ _ _ _ _ _ _ hc w1 w2 => lv_if_gt hc.1 hc.2.1 hd ht w1 w2) k1 k2
theorem x_if_le {x : Int32} {off : Int} {tgt : Nat} (hd : decode (mCode M) pc = .ok (.ifCond .le off, 3)) (ht : (pc : Int) + off = (tgt : Int)) (k1 : mX M n0 c0 s0 tgt l st σ ι o1) (k2 : mX M n0 c0 s0 (pc + 3) l st σ ι o2) : mX M n0 c0 s0 pc l (.int x :: st) σ ι (if x ≤ 0 then o1 else o2) :=
  mX.br (fun _ _ _ _ _ _ _ _ _ _ _ _ _ _ _ _ _ _ _ _ hc w1 w2 => lv_if_le hc.1 hc.2.1 hd ht w1 w2) k1 k2
theorem x_icmp_eq {x y : Int32} {off : Int} {tgt : Nat} (hd : decode (mCode M) pc = .ok (.if_icmp .eq off, 3)) (ht : (pc : Int) + off = (tgt : Int)) (k1 : mX M n0 c0 s0 tgt l st σ ι o1) (k2 : mX M n0 c0 s0 (pc + 3) l st σ ι o2) : mX M n0 c0 s0 pc l (.int y :: .int x :: st) σ ι (if x = y then o1 else o2) :=
  mX.br (fun _ _ _ _ _ _ _ _ _ _ _ _ _ _ _ _ _ _ _ _ hc w1 w2 => lv_icmp_eq hc.1 hc.2.1 hd ht w1 w2) k1 k2
theorem x_icmp_ne {x y : Int32} {off : Int} {tgt : Nat} (hd : decode (mCode M) pc = .ok (.if_icmp .ne off, 3)) (ht : (pc : Int) + off = (tgt : Int)) (k1 : mX M n0 c0 s0 (pc + 3) l st σ ι o1) (k2 : mX M n0 c0 s0 tgt l st σ ι o2) : mX M n0 c0 s0 pc l (.int y :: .int x :: st) σ ι (if x = y then o1 else o2) :=
  mX.br (fun _ _ _ _ _ _ _ _ _ _ _ _ _ _ _ _ _ _ _ _ hc w1 w2 => lv_icmp_ne hc.1 hc.2.1 hd ht w2 w1) k1 k2
theorem x_icmp_lt {x y : Int32} {off : Int} {tgt : Nat} (hd : decode (mCode M) pc = .ok (.if_icmp .lt off, 3)) (ht : (pc : Int) + off = (tgt : Int)) (k1 : mX M n0 c0 s0 tgt l st σ ι o1) (k2 : mX M n0 c0 s0 (pc + 3) l st σ ι o2) : mX M n0 c0 s0 pc l (.int y :: .int x :: st) σ ι (if x < y then o1 else o2) :=
  mX.br (fun _ _ _ _ _ _ _ _ _ _ _ _ _ _ _ _ _ _ _ _ hc w1 w2 => lv_icmp_lt hc.1 hc.2.1 hd ht w1 w2) k1 k2
theorem x_icmp_ge {x y : Int32} {off : Int} {tgt : Nat} (hd : decode (mCode M) pc = .ok (.if_icmp .ge off, 3)) (ht : (pc : Int) + off = (tgt : Int)) (k1 : mX M n0 c0 s0 tgt l st σ ι o1) (k2 : mX M n0 c0 s0 (pc + 3) l st σ ι o2) : mX M n0 c0 s0 pc l (.int y :: .int x :: st) σ ι (if y ≤ x then o1 else o2) :=
  mX.br (fun _ _ _ _ _ _ _ _ _ _ _ _ _ _ _ _ _ _ _ _ hc w1 w2 => lv_icmp_ge hc.1 hc.2.1 hd ht w1 w2) k1 k2
theorem x_icmp_gt {x y : Int32} {off : Int} {tgt : Nat} (hd : decode (mCode M) pc = .ok (.if_icmp .gt off, 3)) (ht : (pc : Int) + off = (tgt : Int)) (k1 : mX M n0 c0 s0 tgt l st σ ι o1) (k2 : mX M n0 c0 s0 (pc + 3) l st σ ι o2) : mX M n0 c0 s0 pc l (.int y :: .int x :: st) σ ι (if y < x then o1 else o2) :=
  mX.br (fun _ _ _ _ _ _ _ _ _ _ _ _ _ _ _ _ _ _ _ _ hc w1 w2 => lv_icmp_gt hc.1 hc.2.1 hd ht w1 w2) k1 k2
theorem x_icmp_le {x y : Int32} {off : Int} {tgt : Nat} (hd : decode (mCode M) pc = .ok (.if_icmp .le off, 3)) (ht : (pc : Int) + off = (tgt : Int)) (k1 : mX M n0 c0 s0 tgt l st σ ι o1) (k2 : mX M n0 c0 s0 (pc + 3) l st σ ι o2) : mX M n0 c0 s0 pc l (.int y :: .int x :: st) σ ι (if x ≤ y then o1 else o2) :=
  mX.br (fun _ _ _ _ _ _ _ _ _ _ _ _ _ _ _ _ _ _ _ _ hc w1 w2 => lv_icmp_le hc.1 hc.2.1 hd ht w1 w2) k1 k2
/-- a row that reads the world -/
theorem mX.rd {β : Type} {pc' : Nat} {st' : β → List Value} {g : Option β} {kk : β → Option α} (h : ∀ (b : β), g = some b → ∀ (p : Program) (lch : Launch) (e : Env) (R : Room) (s : State) (m : MethodId) (args : Array Value) (below : List Frame) (meth : Method) (c : Code) (A : Nat → Prop) (D : va_G) (ca : Nat → ClassId) (Q : State → Prop) (H : Heap) (locs : List Loc) (cells slots : Nat) (ls : Array Slot) (ad : Nat → Nat), mCx M p lch e R s m args below meth c A D ca → va_P D vwCl (mW ad ca S μ) H → W p lch e R s m args below meth c H locs cells slots Q (F0 m pc' ls ((st' b).map (mv ad))) → W p lch e R s m args below meth c H locs cells slots Q (F0 m pc ls (st.map (mv ad))))
    (k : ∀ b, mX M n0 c0 s0 pc' l (st' b) (S, μ, cx, cy) ι (kk b)) : mX M n0 c0 s0 pc l st (S, μ, cx, cy) ι (g.bind kk) := by
  intro a ha
  obtain ⟨b, hb, hk⟩ := Option.bind_eq_some_iff.mp ha
  obtain ⟨h1, h2⟩ := k b a hk
  refine ⟨h1, ?_⟩
  intro p lch e R s m args below meth c A D ca Q ad0 hc ht hr1 hr2 he ad H locs ls hf
  exact h b hb p lch e R s m args below meth c A D ca Q H locs _ _ ls ad hc hf.1 (h2 p lch e R s m args below meth c A D ca Q ad0 hc ht hr1 hr2 he ad H locs ls hf)
theorem x_gI {c k q index : Nat} {C : String} {T : u_T} {N : Nat} {ty : Nat → FieldType} {kk : Int32 → Option α} (fc : mFC c C T N ty) (hd : decode (mCode M) pc = .ok (.getfield index, 3)) (hw : Cond.fieldLink (mOwn M) index (T k).1 (T k).2.1 (T k).2.2.1 ∈ wsL_law) (hk : k < N) (hg : (mFt c).getD k 0 = 0)
    (kn : ∀ v, mX M n0 c0 s0 (pc + 3) l (.int v :: st) (S, μ, cx, cy) ι (kk v)) : mX M n0 c0 s0 pc l (.ref q :: st) (S, μ, cx, cy) ι ((gI S μ q c k).bind kk) := by
  refine mX.rd (st' := fun v => .int v :: st) (fun v hv => ?_) kn
  unfold gI at hv
  by_cases hm : mok S q c = true
  · rw [if_pos hm] at hv
    cases hv
    intro p lch e R s m args below meth cd A D ca Q H locs cells slots ls ad hc hP w
    have hg2 := mW_get ad ca S μ (mok_n hm)
    rw [mE_obj (mok_k hm) fc.2.2.2.1] at hg2
    have hv := mFs_get (ad := ad) (S := S) (μ := μ) (mok_k hm) (show k < (mFt c).length by rw [fc.2.2.1]; exact hk)
    rw [hg] at hv
    exact va_get hc.1 hc.2.1 hc.2.2.2.2.1 fc.2.1 hc.2.2.2.1 hc.2.2.2.2.2.2.1 hP q hg2 fc.1 k hk (hc.2.2.2.2.1 _ hw) (fun _ h9 => h9) hv hd w
  · rw [if_neg hm] at hv
    cases hv
theorem x_gL {c k q index : Nat} {C : String} {T : u_T} {N : Nat} {ty : Nat → FieldType} {kk : Int64 → Option α} (fc : mFC c C T N ty) (hd : decode (mCode M) pc = .ok (.getfield index, 3)) (hw : Cond.fieldLink (mOwn M) index (T k).1 (T k).2.1 (T k).2.2.1 ∈ wsL_law) (hk : k < N) (hg : (mFt c).getD k 0 = 1)
    (kn : ∀ v, mX M n0 c0 s0 (pc + 3) l (.long v :: st) (S, μ, cx, cy) ι (kk v)) : mX M n0 c0 s0 pc l (.ref q :: st) (S, μ, cx, cy) ι ((gL S μ q c k).bind kk) := by
  refine mX.rd (st' := fun v => .long v :: st) (fun v hv => ?_) kn
  unfold gL at hv
  by_cases hm : mok S q c = true
  · rw [if_pos hm] at hv
    cases hv
    intro p lch e R s m args below meth cd A D ca Q H locs cells slots ls ad hc hP w
    have hg2 := mW_get ad ca S μ (mok_n hm)
    rw [mE_obj (mok_k hm) fc.2.2.2.1] at hg2
    have hv := mFs_get (ad := ad) (S := S) (μ := μ) (mok_k hm) (show k < (mFt c).length by rw [fc.2.2.1]; exact hk)
    rw [hg] at hv
    exact va_get hc.1 hc.2.1 hc.2.2.2.2.1 fc.2.1 hc.2.2.2.1 hc.2.2.2.2.2.2.1 hP q hg2 fc.1 k hk (hc.2.2.2.2.1 _ hw) (fun _ h9 => h9) hv hd w
  · rw [if_neg hm] at hv
    cases hv
theorem x_gR {c k q index : Nat} {C : String} {T : u_T} {N : Nat} {ty : Nat → FieldType} {kk : Nat → Option α} (fc : mFC c C T N ty) (hd : decode (mCode M) pc = .ok (.getfield index, 3)) (hw : Cond.fieldLink (mOwn M) index (T k).1 (T k).2.1 (T k).2.2.1 ∈ wsL_law) (hk : k < N) (hg : (mFt c).getD k 0 = 2)
    (kn : ∀ v, mX M n0 c0 s0 (pc + 3) l (.ref v :: st) (S, μ, cx, cy) ι (kk v)) : mX M n0 c0 s0 pc l (.ref q :: st) (S, μ, cx, cy) ι ((gR S q c k).bind kk) := by
  refine mX.rd (st' := fun v => .ref v :: st) (fun v hv => ?_) kn
  unfold gR at hv
  by_cases hm : mok S q c = true
  · rw [if_pos hm] at hv
    intro p lch e R s m args below meth cd A D ca Q H locs cells slots ls ad hc hP w
    have hg2 := mW_get ad ca S μ (mok_n hm)
    rw [mE_obj (mok_k hm) fc.2.2.2.1] at hg2
    have hz := mFs_get (ad := ad) (S := S) (μ := μ) (mok_k hm) (show k < (mFt c).length by rw [fc.2.2.1]; exact hk)
    rw [hg] at hz
    have he : mVal ad S μ 2 q k = .ref (ad v) := by simp [mVal, hv, va_rf]
    rw [he] at hz
    exact va_get hc.1 hc.2.1 hc.2.2.2.2.1 fc.2.1 hc.2.2.2.1 hc.2.2.2.2.2.2.1 hP q hg2 fc.1 k hk (hc.2.2.2.2.1 _ hw) (fun _ h9 => h9) hz hd w
  · rw [if_neg hm] at hv
    cases hv
theorem x_ldI {q : Nat} {i : Int32} {kk : Int32 → Option α} (hd : decode (mCode M) pc = .ok (.iaload, 1)) (kn : ∀ v, mX M n0 c0 s0 (pc + 1) l (.int v :: st) (S, μ, cx, cy) ι (kk v)) : mX M n0 c0 s0 pc l (.int i :: .ref q :: st) (S, μ, cx, cy) ι ((ldI S μ q i).bind kk) := by
  refine mX.rd (st' := fun v => .int v :: st) (fun v hv => ?_) kn
  unfold ldI at hv
  by_cases hm : mok S q 12 = true ∧ mIn i (mLn S q) = true
  · rw [if_pos hm] at hv
    cases hv
    intro p lch e R s m args below meth cd A D ca Q H locs cells slots ls ad hc hP w
    have hg2 := mW_get ad ca S μ (mok_n hm.1)
    rw [mE_12 (mok_k hm.1)] at hg2
    exact va_iald hc.1 hc.2.1 hc.2.2.2.2.2.2.1 hP q 0 hg2 rfl (mIn_in hm.2) hd w
  · rw [if_neg hm] at hv
    cases hv
theorem x_ldR {q : Nat} {i : Int32} {kk : Nat → Option α} (hd : decode (mCode M) pc = .ok (.aaload, 1)) (kn : ∀ v, mX M n0 c0 s0 (pc + 1) l (.ref v :: st) (S, μ, cx, cy) ι (kk v)) : mX M n0 c0 s0 pc l (.int i :: .ref q :: st) (S, μ, cx, cy) ι ((ldR S q i).bind kk) := by
  refine mX.rd (st' := fun v => .ref v :: st) (fun v hv => ?_) kn
  unfold ldR at hv
  by_cases hm : mok S q 15 = true ∧ mIn i (mLn S q) = true
  · rw [if_pos hm] at hv
    intro p lch e R s m args below meth cd A D ca Q H locs cells slots ls ad hc hP w
    have hg2 := mW_get ad ca S μ (mok_n hm.1)
    rw [mE_15 (mok_k hm.1)] at hg2
    refine va_aldq (C := RX7) hc.1 hc.2.1 hc.2.2.2.2.2.2.1 hP q 1 hg2 rfl (mIn_in hm.2) hd ?_
    rw [hv]
    exact w
  · rw [if_neg hm] at hv
    cases hv
theorem x_aL {q : Nat} {kk : Int32 → Option α} (hd : decode (mCode M) pc = .ok (.arraylength, 1)) (kn : ∀ v, mX M n0 c0 s0 (pc + 1) l (.int v :: st) (S, μ, cx, cy) ι (kk v)) : mX M n0 c0 s0 pc l (.ref q :: st) (S, μ, cx, cy) ι ((aL S q 12).bind kk) := by
  refine mX.rd (st' := fun v => .int v :: st) (fun v hv => ?_) kn
  unfold aL at hv
  by_cases hm : mok S q 12 = true
  · rw [if_pos hm] at hv
    cases hv
    intro p lch e R s m args below meth cd A D ca Q H locs cells slots ls ad hc hP w
    have hg2 := mW_get ad ca S μ (mok_n hm)
    rw [mE_12 (mok_k hm)] at hg2
    exact va_alen hc.1 hc.2.1 hc.2.2.2.2.2.2.1 hP q 0 hg2 (ty := .int) rfl rfl hd w
  · rw [if_neg hm] at hv
    cases hv
theorem x_aLR {q : Nat} {kk : Int32 → Option α} (hd : decode (mCode M) pc = .ok (.arraylength, 1)) (kn : ∀ v, mX M n0 c0 s0 (pc + 1) l (.int v :: st) (S, μ, cx, cy) ι (kk v)) : mX M n0 c0 s0 pc l (.ref q :: st) (S, μ, cx, cy) ι ((aL S q 15).bind kk) := by
  refine mX.rd (st' := fun v => .int v :: st) (fun v hv => ?_) kn
  unfold aL at hv
  by_cases hm : mok S q 15 = true
  · rw [if_pos hm] at hv
    cases hv
    intro p lch e R s m args below meth cd A D ca Q H locs cells slots ls ad hc hP w
    have hg2 := mW_get ad ca S μ (mok_n hm)
    rw [mE_15 (mok_k hm)] at hg2
    exact va_alen hc.1 hc.2.1 hc.2.2.2.2.2.2.1 hP q 1 hg2 (ty := .object RX7) rfl rfl hd w
  · rw [if_neg hm] at hv
    cases hv
/-- a row that checks a number -/
theorem mX.ck {P : Prop} [dP : Decidable P] {σ : mSt} (h : P → mX M n0 c0 s0 pc l st σ ι o) : mX M n0 c0 s0 pc l st σ ι (if P then o else none) := by
  intro a ha
  by_cases hp : P
  · rw [if_pos hp] at ha
    exact h hp a ha
  · rw [if_neg hp] at ha
    cases ha
/-- a double that is a number -/
def vfn (r : UInt64) : Bool := decide (r &&& 0x7fffffffffffffff ≤ 0x7ff0000000000000)
theorem vfn_n {r : UInt64} (h : vfn r = true) : vf_n64 r := by
  simp only [vfn, decide_eq_true_eq] at h
  exact h
theorem x_ddiv {x y : UInt64} (hd : decode (mCode M) pc = .ok (.ddiv, 1)) (k : mX M n0 c0 s0 (pc + 1) l (.double (FP.ddiv x y) :: st) σ ι o) : mX M n0 c0 s0 pc l (.double y :: .double x :: st) σ ι (if vfn (FP.ddiv x y) = true then o else none) :=
  mX.ck (fun hp => mX.step (fun _ _ _ _ _ _ _ _ _ _ _ _ _ _ _ _ _ _ _ _ hc _ _ hl w => lv_ddiv hc.1 hc.2.1 hd (vfn_n hp) w) k)
theorem x_dmul {x y : UInt64} (hd : decode (mCode M) pc = .ok (.dmul, 1)) (k : mX M n0 c0 s0 (pc + 1) l (.double (FP.dmul x y) :: st) σ ι o) : mX M n0 c0 s0 pc l (.double y :: .double x :: st) σ ι (if vfn (FP.dmul x y) = true then o else none) :=
  mX.ck (fun hp => mX.step (fun _ _ _ _ _ _ _ _ _ _ _ _ _ _ _ _ _ _ _ _ hc _ _ hl w => lv_dmul hc.1 hc.2.1 hd (vfn_n hp) w) k)
theorem x_dsub {x y : UInt64} (hd : decode (mCode M) pc = .ok (.dsub, 1)) (k : mX M n0 c0 s0 (pc + 1) l (.double (FP.dsub x y) :: st) σ ι o) : mX M n0 c0 s0 pc l (.double y :: .double x :: st) σ ι (if vfn (FP.dsub x y) = true then o else none) :=
  mX.ck (fun hp => mX.step (fun _ _ _ _ _ _ _ _ _ _ _ _ _ _ _ _ _ _ _ _ hc _ _ hl w => lv_dsub hc.1 hc.2.1 hd (vfn_n hp) w) k)
/-- a row that writes the memory -/
theorem mX.wr {pc' : Nat} {st' : List Value} {g : Option mMm} {kk : mMm → Option α} (h : ∀ (μ' : mMm), g = some μ' → ∀ (p : Program) (lch : Launch) (e : Env) (R : Room) (s : State) (m : MethodId) (args : Array Value) (below : List Frame) (meth : Method) (c : Code) (A : Nat → Prop) (D : va_G) (ca : Nat → ClassId) (Q : State → Prop) (H : Heap) (locs : List Loc) (cells slots : Nat) (ls : Array Slot) (ad : Nat → Nat), mCx M p lch e R s m args below meth c A D ca → va_P D vwCl (mW ad ca S μ) H → va_D A (mW ad ca S μ) → va_S A s.heap H locs → (∀ (H1 : Heap) (locs1 : List Loc), va_P D vwCl (mW ad ca S μ') H1 → va_D A (mW ad ca S μ') → va_S A s.heap H1 locs1 → W p lch e R s m args below meth c H1 locs1 cells slots Q (F0 m pc' ls (st'.map (mv ad)))) → W p lch e R s m args below meth c H locs cells slots Q (F0 m pc ls (st.map (mv ad))))
    (k : ∀ μ', mX M n0 c0 s0 pc' l st' (S, μ', cx, cy) ι (kk μ')) : mX M n0 c0 s0 pc l st (S, μ, cx, cy) ι (g.bind kk) := by
  intro a ha
  obtain ⟨μ', hb, hk⟩ := Option.bind_eq_some_iff.mp ha
  obtain ⟨h1, h2⟩ := k μ' a hk
  refine ⟨h1, ?_⟩
  intro p lch e R s m args below meth c A D ca Q ad0 hc ht hr1 hr2 he ad H locs ls hf
  exact h μ' hb p lch e R s m args below meth c A D ca Q H locs _ _ ls ad hc hf.1 hf.2.1 hf.2.2.1 (fun H1 locs1 hP hD hS => h2 p lch e R s m args below meth c A D ca Q ad0 hc ht hr1 hr2 he ad H1 locs1 ls ⟨hP, hD, hS, hf.2.2.2⟩)
theorem x_pI {c k q index : Nat} {C : String} {T : u_T} {N : Nat} {ty : Nat → FieldType} {v : Int32} {kk : mMm → Option α} (fc : mFC c C T N ty) (hd : decode (mCode M) pc = .ok (.putfield index, 3)) (hw : Cond.fieldLink (mOwn M) index (T k).1 (T k).2.1 (T k).2.2.1 ∈ wsL_law) (hk : k < N) (hg : (mFt c).getD k 0 = 0) (hfin : (T k).2.2.2 = false) (hn : narrow (ty k) (.int v) = .int v) (hfit : fits (ty k) (.int v) = true)
    (kn : ∀ μ', mX M n0 c0 s0 (pc + 3) l st (S, μ', cx, cy) ι (kk μ')) : mX M n0 c0 s0 pc l (.int v :: .ref q :: st) (S, μ, cx, cy) ι ((pI S μ q c k v).bind kk) := by
  refine mX.wr (fun μ' hv => ?_) kn
  unfold pI at hv
  by_cases hm : mok S q c = true
  · rw [if_pos hm] at hv
    cases hv
    intro p lch e R s m args below meth cd A D ca Q H locs cells slots ls ad hc hP hD hS w
    have hg2 := mW_get ad ca S μ (mok_n hm)
    rw [mE_obj (mok_k hm) fc.2.2.2.1] at hg2
    have hkl : k < (mFt c).length := by rw [fc.2.2.1]; exact hk
    have hset : (mW ad ca S μ).set q (ad q, .inr (c, (mFs ad S μ q).set k (.int v))) = mW ad ca S (u2 μ.1 q k v, μ.2) := by
      refine mW_set (mok_n hm) ?_ (fun j hj => mE_neI hj)
      rw [mE_obj (mok_k hm) fc.2.2.2.1, mFs_setI (mok_k hm) hkl hg]
    refine va_put (v := .int v) hc.1 hc.2.1 hc.2.2.2.2.1 fc.2.1 ty fc.2.2.2.2.1 fc.2.2.2.2.2 hc.2.2.2.1 hc.2.2.2.2.2.2.1 hP hD hS q hg2 fc.1 k hk (hc.2.2.2.2.1 _ hw) (fun _ h9 => h9) hfin (fc.2.2.2.2.1 k hk) hn hfit (by rw [mFs_len (mok_k hm)]; exact hkl) hd (fun H1 locs1 hP1 hD1 hS1 => ?_)
    rw [hset] at hP1 hD1
    exact w H1 locs1 hP1 hD1 hS1
  · rw [if_neg hm] at hv
    cases hv
theorem x_pL {c k q index : Nat} {C : String} {T : u_T} {N : Nat} {ty : Nat → FieldType} {v : Int64} {kk : mMm → Option α} (fc : mFC c C T N ty) (hd : decode (mCode M) pc = .ok (.putfield index, 3)) (hw : Cond.fieldLink (mOwn M) index (T k).1 (T k).2.1 (T k).2.2.1 ∈ wsL_law) (hk : k < N) (hg : (mFt c).getD k 0 = 1) (hfin : (T k).2.2.2 = false) (hty : ty k = .long)
    (kn : ∀ μ', mX M n0 c0 s0 (pc + 3) l st (S, μ', cx, cy) ι (kk μ')) : mX M n0 c0 s0 pc l (.long v :: .ref q :: st) (S, μ, cx, cy) ι ((pL S μ q c k v).bind kk) := by
  refine mX.wr (fun μ' hv => ?_) kn
  unfold pL at hv
  by_cases hm : mok S q c = true
  · rw [if_pos hm] at hv
    cases hv
    intro p lch e R s m args below meth cd A D ca Q H locs cells slots ls ad hc hP hD hS w
    have hg2 := mW_get ad ca S μ (mok_n hm)
    rw [mE_obj (mok_k hm) fc.2.2.2.1] at hg2
    have hkl : k < (mFt c).length := by rw [fc.2.2.1]; exact hk
    have hset : (mW ad ca S μ).set q (ad q, .inr (c, (mFs ad S μ q).set k (.long v))) = mW ad ca S (μ.1, u2 μ.2 q k v) := by
      refine mW_set (mok_n hm) ?_ (fun j hj => mE_neL hj)
      rw [mE_obj (mok_k hm) fc.2.2.2.1, mFs_setL (mok_k hm) hkl hg]
    refine va_put (v := .long v) hc.1 hc.2.1 hc.2.2.2.2.1 fc.2.1 ty fc.2.2.2.2.1 fc.2.2.2.2.2 hc.2.2.2.1 hc.2.2.2.2.2.2.1 hP hD hS q hg2 fc.1 k hk (hc.2.2.2.2.1 _ hw) (fun _ h9 => h9) hfin (fc.2.2.2.2.1 k hk) (by rw [hty]; rfl) (by rw [hty]; rfl) (by rw [mFs_len (mok_k hm)]; exact hkl) hd (fun H1 locs1 hP1 hD1 hS1 => ?_)
    rw [hset] at hP1 hD1
    exact w H1 locs1 hP1 hD1 hS1
  · rw [if_neg hm] at hv
    cases hv
theorem x_stI {q : Nat} {i v : Int32} {kk : mMm → Option α} (hd : decode (mCode M) pc = .ok (.iastore, 1)) (kn : ∀ μ', mX M n0 c0 s0 (pc + 1) l st (S, μ', cx, cy) ι (kk μ')) : mX M n0 c0 s0 pc l (.int v :: .int i :: .ref q :: st) (S, μ, cx, cy) ι ((stI S μ q i v).bind kk) := by
  refine mX.wr (fun μ' hv => ?_) kn
  unfold stI at hv
  by_cases hm : mok S q 12 = true ∧ mIn i (mLn S q) = true
  · rw [if_pos hm] at hv
    cases hv
    intro p lch e R s m args below meth cd A D ca Q H locs cells slots ls ad hc hP hD hS w
    have hg2 := mW_get ad ca S μ (mok_n hm.1)
    rw [mE_12 (mok_k hm.1)] at hg2
    have hset : (mW ad ca S μ).set q (ad q, .inl (ca 0, mLn S q, .inl (upd (μ.1 q) i.toNatClampNeg v))) = mW ad ca S (u2 μ.1 q i.toNatClampNeg v, μ.2) := by
      refine mW_set (mok_n hm.1) ?_ (fun j hj => mE_neI hj)
      rw [mE_12 (mok_k hm.1)]
      exact congrArg (fun z => Sum.inl (ca 0, mLn S q, Sum.inl z)) u2_row
    refine va_iast hc.1 hc.2.1 hc.2.2.2.2.2.2.1 hP hD hS q 0 hg2 rfl (mIn_in hm.2) hd (fun H1 locs1 hP1 hD1 hS1 => ?_)
    rw [hset] at hP1 hD1
    exact w H1 locs1 hP1 hD1 hS1
  · rw [if_neg hm] at hv
    cases hv
/-! ends -/
theorem x_ret {a : α} {τ : mSt} (hι : ι a = (.inl none, τ)) (hd : decode (mCode M) pc = .ok (.return_, 1)) (hr : mRet M = none) : mX M n0 c0 s0 pc l [] τ ι (some a) := by
  intro a' ha'
  cases ha'
  rw [hι]
  exact ⟨mLe.rf, fun p lch e R s m args below meth c A D ca Q ad0 hc ht hr1 hr2 he ad H locs ls hf => he l ad H locs ls pc hf hd hr⟩
theorem x_iret {a : α} {τ : mSt} {v : Int32} {ty : FieldType} (hι : ι a = (.inl (some (.int v)), τ)) (hd : decode (mCode M) pc = .ok (.ireturn, 1)) (hr : mRet M = some ty) (hn : narrow ty (.int v) = .int v) : mX M n0 c0 s0 pc l [.int v] τ ι (some a) := by
  intro a' ha'
  cases ha'
  rw [hι]
  exact ⟨mLe.rf, fun p lch e R s m args below meth c A D ca Q ad0 hc ht hr1 hr2 he ad H locs ls hf => he l ad H locs ls pc ty hf hd hr hn⟩
theorem x_lret {a : α} {τ : mSt} {v : Int64} (hι : ι a = (.inl (some (.long v)), τ)) (hd : decode (mCode M) pc = .ok (.lreturn, 1)) (hr : mRet M = some .long) : mX M n0 c0 s0 pc l [.long v] τ ι (some a) := by
  intro a' ha'
  cases ha'
  rw [hι]
  exact ⟨mLe.rf, fun p lch e R s m args below meth c A D ca Q ad0 hc ht hr1 hr2 he ad H locs ls hf => he l ad H locs ls pc hf hd hr⟩
theorem x_dret {a : α} {τ : mSt} {v : UInt64} (hι : ι a = (.inl (some (.double v)), τ)) (hd : decode (mCode M) pc = .ok (.dreturn, 1)) (hr : mRet M = some .double) : mX M n0 c0 s0 pc l [.double v] τ ι (some a) := by
  intro a' ha'
  cases ha'
  rw [hι]
  exact ⟨mLe.rf, fun p lch e R s m args below meth c A D ca Q ad0 hc ht hr1 hr2 he ad H locs ls hf => he l ad H locs ls pc hf hd hr⟩
theorem x_throw {a : α} {E : Nat} (hι : ι a = (.inr E, (S, μ, cx + 1, cy + 6))) (hs : mSite M pc E) (hcat : (st.map fun v => v.category).sum ≤ 8) : mX M n0 c0 s0 pc l st (S, μ, cx, cy) ι (some a) := by
  intro a' ha'
  cases ha'
  rw [hι]
  refine ⟨⟨Nat.le_refl _, by show mN S + cx ≤ mN S + (cx + 1); omega, by show mTot S + cy ≤ mTot S + (cy + 6); omega⟩, fun p lch e R s m args below meth c A D ca Q ad0 hc ht hr1 hr2 he ad H locs ls hf => ?_⟩
  refine he (S, μ, cx, cy) l ad H locs ls pc _ rfl rfl (by show mN S + cx + 1 ≤ mN S + (cx + 1); omega) (by show mTot S + cy + 6 ≤ mTot S + (cy + 6); omega) hf hs ?_
  rw [List.map_map]
  rw [show ((fun v : Value => v.category) ∘ mv ad) = (fun v : Value => v.category) from funext (fun v => mv_cat ad v)]
  exact hcat
end MROWS3
