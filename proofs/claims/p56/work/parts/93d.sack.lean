/-! unpacking and the sack, as the law looks at them -/
theorem mg_id {m' : Nat → Nat → Int32} {μ : mMm} {n : Nat} (h : ∀ a, n ≤ a → m' a = μ.1 a) : mg n (m', μ.2) μ = (m', μ.2) := by
  refine Prod.ext ?_ ?_
  · funext i k
    show (if i < n then m' i k else μ.1 i k) = m' i k
    split
    · rfl
    · rw [h i (by omega)]
  · funext i k
    show (if i < n then μ.2 i k else μ.2 i k) = μ.2 i k
    split <;> rfl
theorem cT_at {S : mSh} {μ : mMm} {f : Option ((Int32 ⊕ Nat) × mMm)} {r : Int32 ⊕ Nat} {A : AS} (hS : LSh S) (h : CS f μ r A) : ∃ m', cT oS S μ f = some (r, (m', μ.2)) ∧ (∀ a, 74 ≤ a → m' a = μ.1 a) ∧ CI m' A := by
  obtain ⟨m', h1, h2, h3⟩ := h
  refine ⟨m', ?_, h2, h3⟩
  unfold cT
  rw [if_pos hS.1, h1]
  show some (r, mg (mN oS) (m', μ.2) μ) = _
  rw [oMN.2.1, mg_id h2]
theorem cV_at {S : mSh} {μ : mMm} {f : Option ((Int32 ⊕ Nat) × mMm)} {x : Int32} {A : AS} (hS : LSh S) (h : CS f μ (.inl x) A) : ∃ m', cV oS S μ f = some (x, (m', μ.2)) ∧ (∀ a, 74 ≤ a → m' a = μ.1 a) ∧ CI m' A := by
  obtain ⟨m', h1, h2, h3⟩ := cT_at hS h
  refine ⟨m', ?_, h2, h3⟩
  unfold cV
  rw [h1]
  rfl
theorem cQ_at {S : mSh} {μ : mMm} {f : Option (Int32 ⊕ Nat)} {x : Int32} (hS : LSh S) (h : f = some (.inl x)) : cV oS S μ (f.map fun y => (y, μ)) = some (x, μ) := by
  subst h
  unfold cV cT
  rw [if_pos hS.1]
  show some (x, mg (mN oS) μ μ) = _
  rw [mg_self]
theorem cM_at {S : mSh} {μ : mMm} {f : Option (Int32 × mMm)} {x : Int} {A : AS} (hS : LSh S) (h : CV f μ x A) : ∃ m', cM oS S μ f = some (ii x, (m', μ.2)) ∧ (∀ a, 74 ≤ a → m' a = μ.1 a) ∧ CI m' A := by
  obtain ⟨m', h1, h2, h3⟩ := h
  refine ⟨m', ?_, h2, h3⟩
  unfold cM
  rw [if_pos hS.1, h1]
  show some (ii x, mg (mN oS) (m', μ.2) μ) = _
  rw [oMN.2.1, mg_id h2]
theorem cP_at {S : mSh} {μ : mMm} {f : Option Int32} {x : Int32} (hS : LSh S) (h : f = some x) : cM oS S μ (f.map fun y => (y, μ)) = some (x, μ) := by
  subst h
  unfold cM
  rw [if_pos hS.1]
  show some (x, mg (mN oS) μ μ) = _
  rw [mg_self]
theorem cD_at {S : mSh} {f : Option UInt64} {x : UInt64} (hS : LSh S) (h : f = some x) : cD oS S f = some x := by
  subst h
  unfold cD
  rw [if_pos hS.1]
theorem DV_eq {x : UInt64} {c : Nat} {e : Int} (hx : DV x c e) : Op.cmpValue (FP.dcmp x x) .l = ii 0 := by
  have h : FP.dcmp x x = some .eq := by
    show FP.Core.order (FP.Core.val64 x) (FP.Core.val64 x) = _
    rw [hx.1]
    show some (compare ((c * 2 ^ (e - 52 - min (e - 52) (e - 52)).toNat : Nat) : Int) ((c * 2 ^ (e - 52 - min (e - 52) (e - 52)).toNat : Nat) : Int)) = _
    generalize ((c * 2 ^ (e - 52 - min (e - 52) (e - 52)).toNat : Nat) : Int) = z
    simp [compare, compareOfLessAndEq]
  rw [h]
  rfl
/-- what stands between the law's rows and the class -/
def LI (S : mSh) (m : Nat → Nat → Int32) (A : AS) : Prop := LSh S ∧ AW A ∧ CI m A ∧ RQ m A.v ∧ RX m A.v ∧ RDV m 75 76 (A.v 6) (tkD A.v) (tkV A.v)
theorem LI_c {S : mSh} {m m' : Nat → Nat → Int32} {A : AS} (h : LI S m A) (hf : ∀ a, 74 ≤ a → a < 78 → m' a = m a) (hC : CI m' A) : LI S m' A := by
  obtain ⟨h1, h2, h3, h4, h5, h6⟩ := h
  refine ⟨h1, h2, hC, RQ_fr (hf 77 (by omega) (by omega)) h4, RX_fr (hf 74 (by omega) (by omega)) h5, fun j j0 j1 => ?_⟩
  rw [hf 75 (by omega) (by omega), hf 76 (by omega) (by omega)]
  exact h6 j j0 j1
theorem LI_fr {S : mSh} {m m' : Nat → Nat → Int32} {A : AS} (h : LI S m A) (hf : ∀ a, a < 78 → m' a = m a) : LI S m' A := LI_c h (fun a _ ha => hf a ha) (CI_fr (fun b hb => hf b (by omega)) h.2.2.1)
theorem LI_new {S : mSh} {μ : mMm} {A : AS} {c n t : Nat} (h : LI S μ.1 A) : LI (nSh S c n t) (nMm S μ).1 A := by
  have h78 := h.1.2.1
  obtain ⟨h1, h2⟩ := LI_fr (m' := (nMm S μ).1) h (fun a ha => nMm_1 (by omega))
  exact ⟨LSh_new h1, h2⟩
/-- what the law's unpacking tells -/
def tld (r : Int × (Int → Int) × Int × Int) : Int := if r.2.2.2 = 0 then r.1 else -10 * (r.2.2.1 + 1) - r.2.2.2
theorem unp_in {S : mSh} {C : Nat} {l d t : Int} {kk6 : mMm → Nat → Nat → Nat → Nat → Int32 → Int32 → Option (Int32 × mMm)} (hS : LSh S) (hCC : LRw S C 40) (hd : 1 ≤ d) (hd4 : d ≤ 40) (hl : l ≤ 40) (ht0 : 0 ≤ t) (ht : t < 40) : ∀ (f n : Nat) (s u : Int) (U : Int → Int) (μ : mMm), l - s = f → f < n → 0 ≤ s → d ≤ u → u + (l - s) ≤ 40 → μ.1 75 t.toNat = ii d → (∀ i, 0 ≤ i → i < u → μ.1 C i.toNat = ii (U i)) → ∃ m', lL_unpack_81 kk6 S n μ 75 76 77 C (ii u) (ii t) (ii l) (ii s) = kk6 (m', μ.2) 75 76 77 C (ii (u + f)) (ii (t + 1)) ∧ (∀ a, a ≠ C → m' a = μ.1 a) ∧ ∀ i, 0 ≤ i → i < u + f → m' C i.toNat = ii (cpGo d f u U i) := by
  obtain ⟨-, -, -, ⟨o75, n75⟩, ⟨o76, n76⟩, -, -⟩ := hS
  obtain ⟨oC, nC, hC78⟩ := hCC
  intro f
  induction f with
  | zero =>
    intro n s u U μ h1 h2 h3 h4 h5 h6 hU
    obtain ⟨n, rfl⟩ : ∃ j, n = j + 1 := ⟨n - 1, by omega⟩
    have : l = s := by push_cast at h1; omega
    subst this
    refine ⟨μ.1, ?_, fun _ _ => rfl, fun i i0 i1 => hU i i0 (by push_cast at i1; omega)⟩
    rw [show u + ((0 : Nat) : Int) = u by omega]
    simp (disch := omega) only [Option.bind_some, km102, km101, km10, km1, k0, k1, k2, k3, k4, k5, k6, k7, k8, k9, k10, k11, k12, k13, k14, k15, k16, k17, k20, k22, k31, k32, k33, k39, k40, k43, k44, k45, k48, k49, k50, k51, k52, k57, k59, k60, k63, k64, k80, k90, k97, k100, k101, k108, k112, k114, k117, k126, k130, k650, k1000, k100000, k1000000, k15485863, k32452867, k2147483647, ii_add, ii_sub, ii_neg, ii_mul, ii_lt, ii_le, ii_eq, if_true, if_false, if_pos, if_neg, lL_unpack_81]
  | succ f ih =>
    intro n s u U μ h1 h2 h3 h4 h5 h6 hU
    obtain ⟨n, rfl⟩ : ∃ j, n = j + 1 := ⟨n - 1, by omega⟩
    have c1 := hU (u - d) (by omega) (by omega)
    have hne : (75 : Nat) ≠ C := by omega
    obtain ⟨m', j1, j2, j3⟩ := ih n (s + 1) (u + 1) (upI U u (U (u - d))) (u2 μ.1 C u.toNat (ii (U (u - d))), μ.2) (by push_cast at h1; omega) (by omega) (by omega) (by omega) (by omega) ((u2_off (Or.inl hne)).trans h6) (fun i i0 i1 => by
      by_cases hi : i = u
      · subst hi
        rw [upI_s]
        exact u2_same
      · rw [upI_n hi]
        show u2 μ.1 C u.toNat _ C i.toNat = _
        rw [u2_off (Or.inr (by omega))]
        exact hU i i0 (by omega))
    refine ⟨m', ?_, fun a ha => (j2 a ha).trans (u2_offr ha), fun i i0 i1 => ?_⟩
    · rw [show u + ((f + 1 : Nat) : Int) = u + 1 + (f : Int) by push_cast; omega, ← j1]
      push_cast at h1
      simp (disch := omega) only [Option.bind_some, km102, km101, km10, km1, k0, k1, k2, k3, k4, k5, k6, k7, k8, k9, k10, k11, k12, k13, k14, k15, k16, k17, k20, k22, k31, k32, k33, k39, k40, k43, k44, k45, k48, k49, k50, k51, k52, k57, k59, k60, k63, k64, k80, k90, k97, k100, k101, k108, k112, k114, k117, k126, k130, k650, k1000, k100000, k1000000, k15485863, k32452867, k2147483647, ii_add, ii_sub, ii_neg, ii_mul, ii_lt, ii_le, ii_eq, if_true, if_false, if_pos, if_neg, lL_unpack_81, lL_unpack_114, ldI_at o75 n75, ldI_at oC nC, stI_at oC nC, h6, c1]
    · have := j3 i i0 (by push_cast at i1; omega)
      rw [this]
      rfl
theorem unp_loop {S : mSh} {C : Nat} {k : Int} {D V : Int → Int} (hS : LSh S) (hCC : LRw S C 40) (hP : PKok k D V) (hk0 : 0 ≤ k) (hk : k ≤ 40) : ∀ (f n : Nat) (t u : Int) (U : Int → Int) (μ : mMm), k - t < f → f ≤ n → 0 ≤ t → t ≤ k → 0 ≤ u → u ≤ 40 → μ.1 77 6 = ii k → RDV μ.1 75 76 k D V → (∀ i, 0 ≤ i → i < u → μ.1 C i.toNat = ii (U i)) →
    ∃ m', lL_unpack_6 S n μ 75 76 77 C (ii u) (ii t) = some (ii (tld (uGo D V k f t u U)), (m', μ.2)) ∧ (∀ a, a ≠ C → m' a = μ.1 a) ∧ ((uGo D V k f t u U).2.2.2 = 0 → ∀ i, 0 ≤ i → i < (uGo D V k f t u U).1 → m' C i.toNat = ii ((uGo D V k f t u U).2.1 i)) := by
  have hS1 := hS
  have hCC1 := hCC
  obtain ⟨-, -, -, ⟨o75, n75⟩, ⟨o76, n76⟩, o77, n77⟩ := hS
  obtain ⟨oC, nC, hC78⟩ := hCC
  intro f
  induction f with
  | zero => intro n t u U μ h1; push_cast at h1; omega
  | succ f ih =>
    intro n t u U μ h1 h2 h3 h4 h5 h6 h7 hR hU
    obtain ⟨n, rfl⟩ : ∃ j, n = j + 1 := ⟨n - 1, by omega⟩
    have h7' : μ.1 77 (6 : Int).toNat = ii k := h7
    unfold uGo
    by_cases hkt : k ≤ t
    · rw [if_pos hkt]
      refine ⟨μ.1, ?_, fun _ _ => rfl, fun _ => hU⟩
      show _ = some (ii (if (0 : Int) = 0 then u else _), μ)
      rw [if_pos rfl]
      simp (disch := omega) only [Option.bind_some, km102, km101, km10, km1, k0, k1, k2, k3, k4, k5, k6, k7, k8, k9, k10, k11, k12, k13, k14, k15, k16, k17, k20, k22, k31, k32, k33, k39, k40, k43, k44, k45, k48, k49, k50, k51, k52, k57, k59, k60, k63, k64, k80, k90, k97, k100, k101, k108, k112, k114, k117, k126, k130, k650, k1000, k100000, k1000000, k15485863, k32452867, k2147483647, ii_add, ii_sub, ii_neg, ii_mul, ii_lt, ii_le, ii_eq, if_true, if_false, if_pos, if_neg, lL_unpack_6, ldI_at o77 n77, h7']
    · rw [if_neg hkt]
      have hok := hP t h3 (by omega)
      have htl := tlen_b hP h3 (by omega)
      obtain ⟨rd, rv⟩ := hR t h3 (by omega)
      have hb := whyW_b D V t u
      have hne : ∀ a, a < 78 → a ≠ C := fun a ha e => by omega
      by_cases hw : whyW D V t u = 0
      · rw [if_pos hw]
        obtain ⟨w1, w2⟩ := whyW_0 hw
        by_cases hd : D t = 0
        · have htl1 : tlen D V t = 1 := if_pos hd
          have htU : tokU D V t u U = upI U u (V t) := if_pos hd
          rw [htl1, htU]
          rw [htl1] at w2
          obtain ⟨m', j1, j2, j3⟩ := ih n (t + 1) (u + 1) (upI U u (V t)) (u2 μ.1 C u.toNat (ii (V t)), μ.2) (by push_cast at h1; omega) (by omega) (by omega) (by omega) (by omega) (by omega) ((u2_off (Or.inl (hne 77 (by omega)))).trans h7) (fun j j0 j1 => by
            obtain ⟨a, b⟩ := hR j j0 j1
            exact ⟨(u2_off (Or.inl (hne 75 (by omega)))).trans a, (u2_off (Or.inl (hne 76 (by omega)))).trans b⟩) (fun i i0 i1 => by
            by_cases hi : i = u
            · subst hi
              rw [upI_s]
              exact u2_same
            · rw [upI_n hi]
              show u2 μ.1 C u.toNat _ C i.toNat = _
              rw [u2_off (Or.inr (by omega))]
              exact hU i i0 (by omega))
          refine ⟨m', ?_, fun a ha => (j2 a ha).trans (u2_offr ha), j3⟩
          rw [← j1]
          rw [hd] at rd
          have hF1 : ∃ q, FU = q + 1 + 1 := ⟨4998, rfl⟩
          obtain ⟨q, hq⟩ := hF1
          simp (disch := omega) only [Option.bind_some, km102, km101, km10, km1, k0, k1, k2, k3, k4, k5, k6, k7, k8, k9, k10, k11, k12, k13, k14, k15, k16, k17, k20, k22, k31, k32, k33, k39, k40, k43, k44, k45, k48, k49, k50, k51, k52, k57, k59, k60, k63, k64, k80, k90, k97, k100, k101, k108, k112, k114, k117, k126, k130, k650, k1000, k100000, k1000000, k15485863, k32452867, k2147483647, ii_add, ii_sub, ii_neg, ii_mul, ii_lt, ii_le, ii_eq, if_true, if_false, if_pos, if_neg, lL_unpack_6, lL_unpack_30, lL_unpack_60, hq, lL_unpack_81, lL_unpack_114, ldI_at o77 n77, ldI_at o75 n75, ldI_at o76 n76, stI_at oC nC, h7', rd, rv]
        · have htl1 : tlen D V t = V t := if_neg hd
          have htU : tokU D V t u U = cpGo (D t) (V t).toNat u U := if_neg hd
          rw [htl1] at w2 htl
          obtain ⟨m1, a1, a2, a3⟩ := unp_in (kk6 := lL_unpack_6 S n) (l := V t) (d := D t) (t := t) hS1 hCC1 (by omega) (by omega) (by omega) h3 (by omega) (V t).toNat FU 0 u U μ (by omega) (by rw [hFU]; omega) (by omega) w1 (by omega) rd hU
          rw [show u + ((V t).toNat : Int) = u + V t by omega] at a1 a3
          rw [htl1, htU]
          obtain ⟨m', j1, j2, j3⟩ := ih n (t + 1) (u + V t) (cpGo (D t) (V t).toNat u U) (m1, μ.2) (by push_cast at h1; omega) (by omega) (by omega) (by omega) (by omega) (by omega) (by
            show m1 77 6 = _
            rw [a2 77 (hne 77 (by omega))]; exact h7) (fun j j0 j1 => by
            obtain ⟨a, b⟩ := hR j j0 j1
            show m1 75 _ = _ ∧ m1 76 _ = _
            rw [a2 75 (hne 75 (by omega)), a2 76 (hne 76 (by omega))]
            exact ⟨a, b⟩) a3
          refine ⟨m', ?_, fun a ha => (j2 a ha).trans (a2 a ha), j3⟩
          rw [← j1]
          simp (disch := omega) only [Option.bind_some, km102, km101, km10, km1, k0, k1, k2, k3, k4, k5, k6, k7, k8, k9, k10, k11, k12, k13, k14, k15, k16, k17, k20, k22, k31, k32, k33, k39, k40, k43, k44, k45, k48, k49, k50, k51, k52, k57, k59, k60, k63, k64, k80, k90, k97, k100, k101, k108, k112, k114, k117, k126, k130, k650, k1000, k100000, k1000000, k15485863, k32452867, k2147483647, ii_add, ii_sub, ii_neg, ii_mul, ii_lt, ii_le, ii_eq, if_true, if_false, if_pos, if_neg, lL_unpack_6, lL_unpack_30, lL_unpack_60, ldI_at o77 n77, ldI_at o75 n75, ldI_at o76 n76, h7', rd, rv]
          exact a1
      · rw [if_neg hw]
        refine ⟨μ.1, ?_, fun _ _ => rfl, fun hh => absurd hh hw⟩
        show _ = some (ii (if whyW D V t u = 0 then u else -10 * (t + 1) - whyW D V t u), μ)
        rw [if_neg hw]
        unfold whyW tlen at hw ⊢
        by_cases hd : D t = 0
        · rw [hd] at rd
          rw [if_neg (show ¬ u < D t by omega)] at hw ⊢
          rw [if_pos hd] at hw ⊢
          by_cases h40 : 40 < u + 1
          · rw [if_pos h40]
            simp (disch := omega) only [Option.bind_some, km102, km101, km10, km1, k0, k1, k2, k3, k4, k5, k6, k7, k8, k9, k10, k11, k12, k13, k14, k15, k16, k17, k20, k22, k31, k32, k33, k39, k40, k43, k44, k45, k48, k49, k50, k51, k52, k57, k59, k60, k63, k64, k80, k90, k97, k100, k101, k108, k112, k114, k117, k126, k130, k650, k1000, k100000, k1000000, k15485863, k32452867, k2147483647, ii_add, ii_sub, ii_neg, ii_mul, ii_lt, ii_le, ii_eq, if_true, if_false, if_pos, if_neg, lL_unpack_6, lL_unpack_30, lL_unpack_60, ldI_at o77 n77, ldI_at o75 n75, ldI_at o76 n76, h7', rd, rv]
          · rw [if_neg h40] at hw; exact absurd rfl hw
        · rw [if_neg hd] at hw ⊢
          by_cases hu : u < D t
          · rw [if_pos hu]
            simp (disch := omega) only [Option.bind_some, km102, km101, km10, km1, k0, k1, k2, k3, k4, k5, k6, k7, k8, k9, k10, k11, k12, k13, k14, k15, k16, k17, k20, k22, k31, k32, k33, k39, k40, k43, k44, k45, k48, k49, k50, k51, k52, k57, k59, k60, k63, k64, k80, k90, k97, k100, k101, k108, k112, k114, k117, k126, k130, k650, k1000, k100000, k1000000, k15485863, k32452867, k2147483647, ii_add, ii_sub, ii_neg, ii_mul, ii_lt, ii_le, ii_eq, if_true, if_false, if_pos, if_neg, lL_unpack_6, lL_unpack_30, lL_unpack_60, ldI_at o77 n77, ldI_at o75 n75, ldI_at o76 n76, h7', rd, rv]
          · rw [if_neg hu] at hw ⊢
            by_cases h40 : 40 < u + V t
            · rw [if_pos h40]
              simp (disch := omega) only [Option.bind_some, km102, km101, km10, km1, k0, k1, k2, k3, k4, k5, k6, k7, k8, k9, k10, k11, k12, k13, k14, k15, k16, k17, k20, k22, k31, k32, k33, k39, k40, k43, k44, k45, k48, k49, k50, k51, k52, k57, k59, k60, k63, k64, k80, k90, k97, k100, k101, k108, k112, k114, k117, k126, k130, k650, k1000, k100000, k1000000, k15485863, k32452867, k2147483647, ii_add, ii_sub, ii_neg, ii_mul, ii_lt, ii_le, ii_eq, if_true, if_false, if_pos, if_neg, lL_unpack_6, lL_unpack_30, lL_unpack_60, ldI_at o77 n77, ldI_at o75 n75, ldI_at o76 n76, h7', rd, rv]
            · rw [if_neg h40] at hw; exact absurd rfl hw
theorem unpack_at {S : mSh} {C : Nat} {v : Int → Int} {μ : mMm} (hS : LSh S) (hCC : LRw S C 40) (hW : WF v) (hQ : RQ μ.1 v) (hR : RDV μ.1 75 76 (v 6) (tkD v) (tkV v)) : ∃ m', fL_unpack S μ 75 76 77 C = some (ii (tld (unp v)), (m', μ.2)) ∧ (∀ a, a ≠ C → m' a = μ.1 a) ∧ ((unp v).2.2.2 = 0 → ∀ i, 0 ≤ i → i < (unp v).1 → m' C i.toNat = ii ((unp v).2.1 i)) := by
  have g6 := wf_6 hW
  obtain ⟨m', h⟩ := unp_loop hS hCC (WF_K hW) g6.1 g6.2 41 FU 0 0 (fun _ => 0) μ (by omega) (by decide) (by omega) (by omega) (by omega) (by omega) (hQ 6 (by omega) (by omega)) hR (fun i i0 i1 => by omega)
  refine ⟨m', ?_, h.2⟩
  unfold fL_unpack
  simp (disch := omega) only [Option.bind_some, km102, km101, km10, km1, k0, k1, k2, k3, k4, k5, k6, k7, k8, k9, k10, k11, k12, k13, k14, k15, k16, k17, k20, k22, k31, k32, k33, k39, k40, k43, k44, k45, k48, k49, k50, k51, k52, k57, k59, k60, k63, k64, k80, k90, k97, k100, k101, k108, k112, k114, k117, k126, k130, k650, k1000, k100000, k1000000, k15485863, k32452867, k2147483647, ii_add, ii_sub, ii_neg, ii_mul, ii_lt, ii_le, ii_eq, if_true, if_false, if_pos, if_neg]
  exact h.1
