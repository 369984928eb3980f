/-! packing, as the law does it -/
theorem eLen_lo {v B : Int → Int} {p n : Int} : ∀ f : Nat, n < v 2 → eLen v B p f n = 0
  | 0, _ => rfl
  | f + 1, h => if_pos h
theorem by_loop {S : mSh} {μ : mMm} {v : Int → Int} {C : Nat} {p : Int} (hS : LSh S) (hCC : LRw S C 41) (hQ : RQ μ.1 v) (hW : WF v) (hp : 0 ≤ p) (hp1 : p < v 0) (hB : ∀ k, 0 ≤ k → k ≤ v 0 → μ.1 C k.toNat = ii (cst v (v 1) k)) : ∀ (f n : Nat) (l : Int), l < f → f < n → (l = 0 ∨ v 2 ≤ l) → l ≤ 9 → p + l ≤ v 0 → lL_by_17 S μ n 77 C (ii p) (ii l) = some (ii (eLen v (cst v (v 1)) p f l)) := by
  obtain ⟨-, -, -, -, -, o77, n77⟩ := hS
  obtain ⟨oC, nC, hC78⟩ := hCC
  have g0 := wf_0 hW
  have g2 := wf_2 hW
  have g5 := wf_5 hW
  have q2 := hQ 2 (by omega) (by omega)
  have q5 := hQ 5 (by omega) (by omega)
  intro f
  induction f with
  | zero => intro n l h1 h2 h3; push_cast at h1; omega
  | succ f ih =>
    intro n l h1 h2 h3 h4 h5
    obtain ⟨n, rfl⟩ : ∃ j, n = j + 1 := ⟨n - 1, by omega⟩
    unfold eLen
    rcases h3 with h3 | h3
    · subst h3
      rw [if_pos (show (0 : Int) < v 2 by omega)]
      simp (disch := omega) only [Option.bind_some, km102, km101, km10, km1, k0, k1, k2, k3, k4, k5, k6, k7, k8, k9, k10, k11, k12, k13, k14, k15, k16, k17, k20, k22, k31, k32, k33, k39, k40, k43, k44, k45, k48, k49, k50, k51, k52, k57, k59, k60, k63, k64, k80, k90, k97, k100, k101, k108, k112, k114, k117, k126, k130, k650, k1000, k100000, k1000000, k15485863, k32452867, k2147483647, ii_add, ii_sub, ii_neg, ii_mul, ii_lt, ii_le, ii_eq, if_true, if_false, if_pos, if_neg, lL_by_17]
    · rw [if_neg (show ¬ l < v 2 by omega)]
      have c1 := hB (p + l) (by omega) h5
      have c2 := hB p hp (by omega)
      have b1 := cst_b hW (v 1) (k := p + l) (by omega) h5
      have b2 := cst_b hW (v 1) (k := p) hp (by omega)
      by_cases hc : v 5 + cst v (v 1) (p + l) = cst v (v 1) p
      · rw [if_pos hc]
        simp (disch := omega) only [Option.bind_some, km102, km101, km10, km1, k0, k1, k2, k3, k4, k5, k6, k7, k8, k9, k10, k11, k12, k13, k14, k15, k16, k17, k20, k22, k31, k32, k33, k39, k40, k43, k44, k45, k48, k49, k50, k51, k52, k57, k59, k60, k63, k64, k80, k90, k97, k100, k101, k108, k112, k114, k117, k126, k130, k650, k1000, k100000, k1000000, k15485863, k32452867, k2147483647, ii_add, ii_sub, ii_neg, ii_mul, ii_lt, ii_le, ii_eq, if_true, if_false, if_pos, if_neg, lL_by_17, ldI_at o77 n77, ldI_at oC nC, q2, q5, c1, c2]
      · rw [if_neg hc]
        by_cases hl : l ≤ v 2
        · have hI := ih n 0 (by push_cast at h1; omega) (by omega) (Or.inl rfl) (by omega) (by omega)
          rw [eLen_lo f (by omega)] at hI
          rw [eLen_lo f (by omega)]
          simp (disch := omega) only [Option.bind_some, km102, km101, km10, km1, k0, k1, k2, k3, k4, k5, k6, k7, k8, k9, k10, k11, k12, k13, k14, k15, k16, k17, k20, k22, k31, k32, k33, k39, k40, k43, k44, k45, k48, k49, k50, k51, k52, k57, k59, k60, k63, k64, k80, k90, k97, k100, k101, k108, k112, k114, k117, k126, k130, k650, k1000, k100000, k1000000, k15485863, k32452867, k2147483647, ii_add, ii_sub, ii_neg, ii_mul, ii_lt, ii_le, ii_eq, if_true, if_false, if_pos, if_neg, lL_by_17, lL_by_56, ldI_at o77 n77, ldI_at oC nC, q2, q5, c1, c2]
          exact hI
        · have hI := ih n (l - 1) (by push_cast at h1; omega) (by omega) (Or.inr (by omega)) (by omega) (by omega)
          simp (disch := omega) only [Option.bind_some, km102, km101, km10, km1, k0, k1, k2, k3, k4, k5, k6, k7, k8, k9, k10, k11, k12, k13, k14, k15, k16, k17, k20, k22, k31, k32, k33, k39, k40, k43, k44, k45, k48, k49, k50, k51, k52, k57, k59, k60, k63, k64, k80, k90, k97, k100, k101, k108, k112, k114, k117, k126, k130, k650, k1000, k100000, k1000000, k15485863, k32452867, k2147483647, ii_add, ii_sub, ii_neg, ii_mul, ii_lt, ii_le, ii_eq, if_true, if_false, if_pos, if_neg, lL_by_17, lL_by_56, ldI_at o77 n77, ldI_at oC nC, q2, q5, c1, c2]
          exact hI
theorem by_at {S : mSh} {μ : mMm} {v : Int → Int} {C : Nat} {p way : Int} (hS : LSh S) (hCC : LRw S C 41) (hQ : RQ μ.1 v) (hX : RX μ.1 v) (hW : WF v) (hp : 0 ≤ p) (hp1 : p < v 0) (hB : ∀ k, 0 ≤ k → k ≤ v 0 → μ.1 C k.toNat = ii (cst v (v 1) k)) (hw0 : 0 ≤ way) (hw2 : way ≤ 2) : fL_by S μ 74 77 C (ii way) (ii p) = some (ii (plen v way p)) := by
  have hS1 := hS
  obtain ⟨-, -, -, -, -, o77, n77⟩ := hS
  have g0 := wf_0 hW
  have g1 := wf_1 hW
  have g3 := wf_3 hW
  have q0 := hQ 0 (by omega) (by omega)
  have q1 := hQ 1 (by omega) (by omega)
  have hlb := lng_b hW (p := p) (w := v 1) hp
  have hle := lng_e hW (p := p) (w := v 1) hp (by omega)
  have hlo := lgst_at hS1 hQ hX hW (p := p) (w := v 1) hp (by omega) (by omega) (by omega)
  unfold fL_by plen
  by_cases h2 : way = 2
  · subst h2
    rw [if_pos rfl]
    have hb := by_loop hS1 hCC hQ hW hp hp1 hB 12 FU (lng v p (v 1)) (by omega) (by decide) (by rcases hlb.2.2 with h | h; exact Or.inl h; exact Or.inr h.1) (by omega) hle
    simp (disch := omega) only [Option.bind_some, km102, km101, km10, km1, k0, k1, k2, k3, k4, k5, k6, k7, k8, k9, k10, k11, k12, k13, k14, k15, k16, k17, k20, k22, k31, k32, k33, k39, k40, k43, k44, k45, k48, k49, k50, k51, k52, k57, k59, k60, k63, k64, k80, k90, k97, k100, k101, k108, k112, k114, k117, k126, k130, k650, k1000, k100000, k1000000, k15485863, k32452867, k2147483647, ii_add, ii_sub, ii_neg, ii_mul, ii_lt, ii_le, ii_eq, if_true, if_false, if_pos, if_neg, ldI_at o77 n77, q1, hlo]
    exact hb
  · rw [if_neg h2]
    by_cases h1 : way = 1
    · subst h1
      by_cases hl : v 0 - 1 ≤ p
      · have hz := lng_0 hW (p := p + 1) (w := v 1) (by omega) (by omega)
        rw [if_neg (show ¬ ((1 : Int) = 1 ∧ lng v p (v 1) < lng v (p + 1) (v 1)) by omega)]
        simp (disch := omega) only [Option.bind_some, km102, km101, km10, km1, k0, k1, k2, k3, k4, k5, k6, k7, k8, k9, k10, k11, k12, k13, k14, k15, k16, k17, k20, k22, k31, k32, k33, k39, k40, k43, k44, k45, k48, k49, k50, k51, k52, k57, k59, k60, k63, k64, k80, k90, k97, k100, k101, k108, k112, k114, k117, k126, k130, k650, k1000, k100000, k1000000, k15485863, k32452867, k2147483647, ii_add, ii_sub, ii_neg, ii_mul, ii_lt, ii_le, ii_eq, if_true, if_false, if_pos, if_neg, ldI_at o77 n77, q0, q1, hlo]
      · have hlb1 := lng_b hW (p := p + 1) (w := v 1) (by omega)
        have hlo1 := lgst_at hS1 hQ hX hW (p := p + 1) (w := v 1) (by omega) (by omega) (by omega) (by omega)
        by_cases hc : lng v p (v 1) < lng v (p + 1) (v 1)
        · rw [if_pos ⟨rfl, hc⟩]
          simp (disch := omega) only [Option.bind_some, km102, km101, km10, km1, k0, k1, k2, k3, k4, k5, k6, k7, k8, k9, k10, k11, k12, k13, k14, k15, k16, k17, k20, k22, k31, k32, k33, k39, k40, k43, k44, k45, k48, k49, k50, k51, k52, k57, k59, k60, k63, k64, k80, k90, k97, k100, k101, k108, k112, k114, k117, k126, k130, k650, k1000, k100000, k1000000, k15485863, k32452867, k2147483647, ii_add, ii_sub, ii_neg, ii_mul, ii_lt, ii_le, ii_eq, if_true, if_false, if_pos, if_neg, ldI_at o77 n77, q0, q1, hlo, hlo1]
        · rw [if_neg (show ¬ ((1 : Int) = 1 ∧ lng v p (v 1) < lng v (p + 1) (v 1)) by omega)]
          simp (disch := omega) only [Option.bind_some, km102, km101, km10, km1, k0, k1, k2, k3, k4, k5, k6, k7, k8, k9, k10, k11, k12, k13, k14, k15, k16, k17, k20, k22, k31, k32, k33, k39, k40, k43, k44, k45, k48, k49, k50, k51, k52, k57, k59, k60, k63, k64, k80, k90, k97, k100, k101, k108, k112, k114, k117, k126, k130, k650, k1000, k100000, k1000000, k15485863, k32452867, k2147483647, ii_add, ii_sub, ii_neg, ii_mul, ii_lt, ii_le, ii_eq, if_true, if_false, if_pos, if_neg, ldI_at o77 n77, q0, q1, hlo, hlo1]
    · rw [if_neg (show ¬ (way = 1 ∧ lng v p (v 1) < lng v (p + 1) (v 1)) by omega)]
      simp (disch := omega) only [Option.bind_some, km102, km101, km10, km1, k0, k1, k2, k3, k4, k5, k6, k7, k8, k9, k10, k11, k12, k13, k14, k15, k16, k17, k20, k22, k31, k32, k33, k39, k40, k43, k44, k45, k48, k49, k50, k51, k52, k57, k59, k60, k63, k64, k80, k90, k97, k100, k101, k108, k112, k114, k117, k126, k130, k650, k1000, k100000, k1000000, k15485863, k32452867, k2147483647, ii_add, ii_sub, ii_neg, ii_mul, ii_lt, ii_le, ii_eq, if_true, if_false, if_pos, if_neg, ldI_at o77 n77, q1, hlo]
/-- the rows to which tokens are packed -/
def LDV (S : mSh) (Dn Vn : Nat) : Prop := (mok S Dn 12 = true ∧ mLn S Dn = 40) ∧ (mok S Vn 12 = true ∧ mLn S Vn = 40) ∧ 75 ≤ Dn ∧ 75 ≤ Vn ∧ Dn ≠ 77 ∧ Vn ≠ 77 ∧ Dn ≠ Vn
def RDV (m : Nat → Nat → Int32) (Dn Vn : Nat) (k : Int) (D V : Int → Int) : Prop := ∀ j : Int, 0 ≤ j → j < k → m Dn j.toNat = ii (D j) ∧ m Vn j.toNat = ii (V j)
theorem RDV_put {m : Nat → Nat → Int32} {Dn Vn : Nat} {k x y : Int} {D V : Int → Int} (hne : Dn ≠ Vn) (h0 : 0 ≤ k) (h : RDV m Dn Vn k D V) : RDV (u2 (u2 m Dn k.toNat (ii x)) Vn k.toNat (ii y)) Dn Vn (k + 1) (upI D k x) (upI V k y) := by
  intro j h1 h2
  by_cases hj : j = k
  · subst hj
    rw [upI_s, upI_s]
    exact ⟨(u2_off (Or.inl hne)).trans u2_same, u2_same⟩
  · rw [upI_n hj, upI_n hj]
    obtain ⟨a, b⟩ := h j h1 (by omega)
    have hn : j.toNat ≠ k.toNat := by omega
    exact ⟨((u2_off (Or.inr hn)).trans (u2_off (Or.inr hn))).trans a, ((u2_off (Or.inr hn)).trans (u2_off (Or.inr hn))).trans b⟩
theorem pack_loop {S : mSh} {v : Int → Int} {C Dn Vn cx : Nat} {way : Int} (hS : LSh S) (hCC : LRw S C 41) (hDV : LDV S Dn Vn) (hDC : Dn ≠ C) (hVC : Vn ≠ C) (hW : WF v) (hw0 : 0 ≤ way) (hw2 : way ≤ 2) : ∀ (f n : Nat) (p k : Int) (D V : Int → Int) (μ : mMm), v 0 - p ≤ f → f < n → 0 ≤ p → p ≤ v 0 → 0 ≤ k → k ≤ p → RQ μ.1 v → RX μ.1 v → (∀ k, 0 ≤ k → k ≤ v 0 → μ.1 C k.toNat = ii (cst v (v 1) k)) → RDV μ.1 Dn Vn k D V →
    ∃ m', lL_pack_25 n S μ cx 74 77 (ii way) Dn Vn C (ii k) (ii (csm v D k.toNat)) (ii p) = some (ii ((pkGo v way f p k D V).1 + 1000 * csm v (pkGo v way f p k D V).2.1 (pkGo v way f p k D V).1.toNat), S, (m', μ.2), cx) ∧ (∀ a, a ≠ Dn → a ≠ Vn → m' a = μ.1 a) ∧ RDV m' Dn Vn (pkGo v way f p k D V).1 (pkGo v way f p k D V).2.1 (pkGo v way f p k D V).2.2 := by
  have hS1 := hS
  have hCC1 := hCC
  obtain ⟨-, -, ⟨o74, n74⟩, -, -, o77, n77⟩ := hS
  obtain ⟨oC, nC, hC78⟩ := hCC
  obtain ⟨⟨oD, nD⟩, ⟨oV, nV⟩, d1, d2, d3, d4, d5⟩ := hDV
  have g0 := wf_0 hW
  have g1 := wf_1 hW
  have g2 := wf_2 hW
  have g3 := wf_3 hW
  have h77D : (77 : Nat) ≠ Dn := fun e => d3 e.symm
  have h77V : (77 : Nat) ≠ Vn := fun e => d4 e.symm
  have h74D : (74 : Nat) ≠ Dn := by omega
  have h74V : (74 : Nat) ≠ Vn := by omega
  intro f
  induction f with
  | zero =>
    intro n p k D V μ h1 h2 h3 h4 h5 h6 hQ hX hB hR
    obtain ⟨n, rfl⟩ : ∃ j, n = j + 1 := ⟨n - 1, by omega⟩
    have q0 := hQ 0 (by omega) (by omega)
    have hp : v 0 ≤ p := by push_cast at h1; omega
    refine ⟨μ.1, ?_, fun _ _ _ => rfl, hR⟩
    simp (disch := omega) only [Option.bind_some, km102, km101, km10, km1, k0, k1, k2, k3, k4, k5, k6, k7, k8, k9, k10, k11, k12, k13, k14, k15, k16, k17, k20, k22, k31, k32, k33, k39, k40, k43, k44, k45, k48, k49, k50, k51, k52, k57, k59, k60, k63, k64, k80, k90, k97, k100, k101, k108, k112, k114, k117, k126, k130, k650, k1000, k100000, k1000000, k15485863, k32452867, k2147483647, ii_add, ii_sub, ii_neg, ii_mul, ii_lt, ii_le, ii_eq, if_true, if_false, if_pos, if_neg, lL_pack_25, ldI_at o77 n77, q0, pkGo]
  | succ f ih =>
    intro n p k D V μ h1 h2 h3 h4 h5 h6 hQ hX hB hR
    obtain ⟨n, rfl⟩ : ∃ j, n = j + 1 := ⟨n - 1, by omega⟩
    have q0 := hQ 0 (by omega) (by omega)
    have q4 := hQ 4 (by omega) (by omega)
    have q5 := hQ 5 (by omega) (by omega)
    unfold pkGo
    by_cases hp : v 0 ≤ p
    · rw [if_pos hp]
      refine ⟨μ.1, ?_, fun _ _ _ => rfl, hR⟩
      simp (disch := omega) only [Option.bind_some, km102, km101, km10, km1, k0, k1, k2, k3, k4, k5, k6, k7, k8, k9, k10, k11, k12, k13, k14, k15, k16, k17, k20, k22, k31, k32, k33, k39, k40, k43, k44, k45, k48, k49, k50, k51, k52, k57, k59, k60, k63, k64, k80, k90, k97, k100, k101, k108, k112, k114, k117, k126, k130, k650, k1000, k100000, k1000000, k15485863, k32452867, k2147483647, ii_add, ii_sub, ii_neg, ii_mul, ii_lt, ii_le, ii_eq, if_true, if_false, if_pos, if_neg, lL_pack_25, ldI_at o77 n77, q0]
    · rw [if_neg hp]
      have hby := by_at hS1 hCC1 hQ hX hW h3 (by omega) hB hw0 hw2 (way := way)
      have hcs := csm_b (D := D) hW k.toNat
      have fr : ∀ (x y : Int32) (a : Nat), a ≠ Dn → a ≠ Vn → (u2 (u2 μ.1 Dn k.toNat x) Vn k.toNat y) a = μ.1 a := fun x y a ha hb => (u2_offr hb).trans (u2_offr ha)
      by_cases hl : plen v way p = 0
      · rw [if_pos hl, if_pos hl, if_pos hl]
        rw [hl] at hby
        have xk := hX p h3 (by omega)
        obtain ⟨m', j1, j2, j3⟩ := ih n (p + 1) (k + 1) (upI D k 0) (upI V k (tx v p)) (u2 (u2 μ.1 Dn k.toNat (ii 0)) Vn k.toNat (ii (tx v p)), μ.2) (by push_cast at h1; omega) (by omega) (by omega) (by omega) (by omega) (by omega) (RQ_fr (fr _ _ 77 h77D h77V) hQ) (RX_fr (fr _ _ 74 h74D h74V) hX) (fun j j0 j1 => by rw [show (u2 (u2 μ.1 Dn k.toNat (ii 0)) Vn k.toNat (ii (tx v p)), μ.2).1 C = μ.1 C from fr _ _ C (fun e => hDC e.symm) (fun e => hVC e.symm)]; exact hB j j0 j1) (RDV_put d5 h5 hR)
        refine ⟨m', ?_, fun a ha hb => (j2 a ha hb).trans (fr _ _ a ha hb), j3⟩
        rw [← j1, csm_up h5, if_pos rfl]
        simp (disch := omega) only [Option.bind_some, km102, km101, km10, km1, k0, k1, k2, k3, k4, k5, k6, k7, k8, k9, k10, k11, k12, k13, k14, k15, k16, k17, k20, k22, k31, k32, k33, k39, k40, k43, k44, k45, k48, k49, k50, k51, k52, k57, k59, k60, k63, k64, k80, k90, k97, k100, k101, k108, k112, k114, k117, k126, k130, k650, k1000, k100000, k1000000, k15485863, k32452867, k2147483647, ii_add, ii_sub, ii_neg, ii_mul, ii_lt, ii_le, ii_eq, if_true, if_false, if_pos, if_neg, lL_pack_25, lL_pack_66, lL_pack_85, lL_pack_102, lL_pack_118, ldI_at o77 n77, ldI_at o74 n74, stI_at oD nD, stI_at oV nV, u2_off, q0, q4, xk, hby]
      · rw [if_neg hl, if_neg hl, if_neg hl]
        obtain ⟨e1, e2, e3, d0, e4, e5, e6, e7⟩ := plen_e hW (way := way) h3 (by omega) hl
        have hpb := plen_b hW (way := way) h3
        have hlb := lng_b hW (p := p) (w := v 1) h3
        have hn := near_at hS1 hQ hX hW h3 (by omega) (by omega) (by omega) e4 e5 e6 e7
        have hdb := dst_b (v := v) (p := p) (l := plen v way p) e4 (by omega) e7
        obtain ⟨m', j1, j2, j3⟩ := ih n (p + plen v way p) (k + 1) (upI D k (dst v p (plen v way p))) (upI V k (plen v way p)) (u2 (u2 μ.1 Dn k.toNat (ii (dst v p (plen v way p)))) Vn k.toNat (ii (plen v way p)), μ.2) (by push_cast at h1; omega) (by omega) (by omega) (by omega) (by omega) (by omega) (RQ_fr (fr _ _ 77 h77D h77V) hQ) (RX_fr (fr _ _ 74 h74D h74V) hX) (fun j j0 j1 => by rw [show (u2 (u2 μ.1 Dn k.toNat (ii (dst v p (plen v way p)))) Vn k.toNat (ii (plen v way p)), μ.2).1 C = μ.1 C from fr _ _ C (fun e => hDC e.symm) (fun e => hVC e.symm)]; exact hB j j0 j1) (RDV_put d5 h5 hR)
        refine ⟨m', ?_, fun a ha hb => (j2 a ha hb).trans (fr _ _ a ha hb), j3⟩
        rw [← j1, csm_up h5, if_neg (show ¬ dst v p (plen v way p) = 0 by omega)]
        simp (disch := omega) only [Option.bind_some, km102, km101, km10, km1, k0, k1, k2, k3, k4, k5, k6, k7, k8, k9, k10, k11, k12, k13, k14, k15, k16, k17, k20, k22, k31, k32, k33, k39, k40, k43, k44, k45, k48, k49, k50, k51, k52, k57, k59, k60, k63, k64, k80, k90, k97, k100, k101, k108, k112, k114, k117, k126, k130, k650, k1000, k100000, k1000000, k15485863, k32452867, k2147483647, ii_add, ii_sub, ii_neg, ii_mul, ii_lt, ii_le, ii_eq, if_true, if_false, if_pos, if_neg, lL_pack_25, lL_pack_66, lL_pack_85, lL_pack_102, lL_pack_118, ldI_at o77 n77, ldI_at o74 n74, stI_at oD nD, stI_at oV nV, u2_off, q0, q5, hby, hn]
/-! one row more -/
theorem nSh_kd {S : mSh} {c n t i : Nat} (h : i < mN S) : mKd (nSh S c n t) i = mKd S i := if_neg (by omega)
theorem nSh_ln {S : mSh} {c n t i : Nat} (h : i < mN S) : mLn (nSh S c n t) i = mLn S i := if_neg (by omega)
theorem nSh_rf {S : mSh} {c n t i k : Nat} (h : i < mN S) : mRf (nSh S c n t) i k = mRf S i k := if_neg (by omega)
theorem nSh_n {S : mSh} {c n t : Nat} : mN (nSh S c n t) = mN S + 1 := rfl
theorem nSh_t {S : mSh} {c n t : Nat} : mTot (nSh S c n t) = mTot S + t := rfl
theorem nSh_ok {S : mSh} {c n t i d : Nat} (h : mok S i d = true) : mok (nSh S c n t) i d = true := by
  have h1 := mok_n h
  have h2 := mok_k h
  simp only [mok, Bool.and_eq_true, decide_eq_true_eq]
  exact ⟨by rw [nSh_n]; omega, by rw [nSh_kd h1]; exact h2⟩
theorem nSh_lk {S : mSh} {c n t i d l : Nat} (h : mok S i d = true ∧ mLn S i = l) : mok (nSh S c n t) i d = true ∧ mLn (nSh S c n t) i = l := ⟨nSh_ok h.1, (nSh_ln (mok_n h.1)).trans h.2⟩
theorem nSh_new {S : mSh} {c n t : Nat} : mok (nSh S c n t) (mN S) c = true ∧ mLn (nSh S c n t) (mN S) = n := by
  refine ⟨?_, if_pos rfl⟩
  simp only [mok, Bool.and_eq_true, decide_eq_true_eq]
  exact ⟨by rw [nSh_n]; omega, if_pos rfl⟩
theorem mPf_new {S0 S : mSh} {c n t : Nat} (h : mPf S0 S) : mPf S0 (nSh S c n t) := by
  refine ⟨Nat.le_succ_of_le h.1, fun i hi => ?_⟩
  have := Nat.lt_of_lt_of_le hi h.1
  obtain ⟨a, b, c⟩ := h.2 i hi
  exact ⟨(nSh_kd this).trans a, (nSh_ln this).trans b, fun k => (nSh_rf this).trans (c k)⟩
theorem mPf_rf {S : mSh} : mPf S S := ⟨Nat.le_refl _, fun _ _ => ⟨rfl, rfl, fun _ => rfl⟩⟩
theorem LSh_new {S : mSh} {c n t : Nat} (h : LSh S) : LSh (nSh S c n t) := by
  obtain ⟨h1, h2, h3, h4, h5, h6⟩ := h
  exact ⟨mPf_new h1, Nat.le_succ_of_le h2, nSh_lk h3, nSh_lk h4, nSh_lk h5, nSh_lk h6⟩
theorem nMm_1 {S : mSh} {μ : mMm} {a : Nat} (h : a < mN S) : (nMm S μ).1 a = μ.1 a := by
  funext b
  exact if_neg (by omega)
theorem aN_at {S : mSh} {μ : mMm} {l : List (Option Value)} {st : List Value} {c len t : Nat} (h : mvk S l st = true) (hn : mN S < 1000) : aN S μ l st c len t = some (nSh S c len t, nMm S μ) := if_pos ⟨h, hn⟩
theorem fgt_at {S S' : mSh} {x : Int32} {μ : mMm} {ex : Nat} (h : mPf S S') (h0 : mTot S ≤ mTot S') (h1 : mTot S' ≤ mTot S + 41 * (mN S' - mN S)) : fgt S (some (x, S', μ, ex)) = some (x, μ, ex + (mN S' - mN S)) := if_pos ⟨h, h0, h1⟩
theorem pack_at {S : mSh} {v : Int → Int} {Dn Vn cx : Nat} {way : Int} {μ : mMm} (hS : LSh S) (hN : mN S < 1000) (hDV : LDV S Dn Vn) (hW : WF v) (hw0 : 0 ≤ way) (hw2 : way ≤ 2) (hQ : RQ μ.1 v) (hX : RX μ.1 v) : ∃ m' z', fgt S (fL_pack S μ cx 74 77 (ii way) Dn Vn) = some (ii (pkN v way + 1000 * csm v (pkD v way) (pkN v way).toNat), (m', z'), cx + 1) ∧ (∀ a, a < mN S → a ≠ Dn → a ≠ Vn → m' a = μ.1 a) ∧ RDV m' Dn Vn (pkN v way) (pkD v way) (pkV v way) := by
  have hlo : ∀ {i : Nat}, mok S i 12 = true → i < mN S := fun h => mok_n h
  have d1 := hlo hDV.1.1
  have d2 := hlo hDV.2.1.1
  have h78 := hS.2.1
  have g0 := wf_0 hW
  have g1 := wf_1 hW
  have hS1 : LSh (nSh S 12 41 41) := LSh_new hS
  have hC1 : LRw (nSh S 12 41 41) (mN S) 41 := ⟨nSh_new.1, nSh_new.2, h78⟩
  have hDV1 : LDV (nSh S 12 41 41) Dn Vn := ⟨nSh_lk hDV.1, nSh_lk hDV.2.1, hDV.2.2⟩
  have hQ1 : RQ (nMm S μ).1 v := RQ_fr (nMm_1 (by omega)) hQ
  have hX1 : RX (nMm S μ).1 v := RX_fr (nMm_1 (by omega)) hX
  obtain ⟨m1, a1, a2, a3⟩ := costs_at (w := v 1) hS1 hC1 hW (by omega) (by omega) hQ1 hX1
  have hQ2 : RQ m1 v := RQ_fr (a2 77 (by omega)) hQ1
  have hX2 : RX m1 v := RX_fr (a2 74 (by omega)) hX1
  obtain ⟨m2, b1, b2, b3⟩ := pack_loop (cx := cx) hS1 hC1 hDV1 (by omega) (by omega) hW hw0 hw2 40 FU 0 0 (fun _ => 0) (fun _ => 0) (m1, (nMm S μ).2) (by omega) (by decide) (by omega) (by omega) (by omega) (by omega) hQ2 hX2 a3 (fun j h0 h1 => by omega)
  have hv : mvk S [some (.ref 74), some (.ref 77), some (.int (ii way)), some (.ref Dn), some (.ref Vn), none, none, none, none, none] [] = true := by
    simp [mvk, mvkO, mvk1]
    exact ⟨Nat.lt_of_lt_of_le (by decide) h78, Nat.lt_of_lt_of_le (by decide) h78, Or.inl d1, Or.inl d2⟩
  have q1 := hQ1 1 (by omega) (by omega)
  obtain ⟨-, -, -, -, -, o77, n77⟩ := hS1
  refine ⟨m2, (nMm S μ).2, ?_, fun a ha h1 h2 => ?_, b3⟩
  · have e : fL_pack S μ cx 74 77 (ii way) Dn Vn = some (ii (pkN v way + 1000 * csm v (pkD v way) (pkN v way).toNat), nSh S 12 41 41, (m2, (nMm S μ).2), cx) := by
      unfold fL_pack
      rw [aN_at hv hN, Option.bind_some]
      simp (disch := omega) only [Option.bind_some, km102, km101, km10, km1, k0, k1, k2, k3, k4, k5, k6, k7, k8, k9, k10, k11, k12, k13, k14, k15, k16, k17, k20, k22, k31, k32, k33, k39, k40, k43, k44, k45, k48, k49, k50, k51, k52, k57, k59, k60, k63, k64, k80, k90, k97, k100, k101, k108, k112, k114, k117, k126, k130, k650, k1000, k100000, k1000000, k15485863, k32452867, k2147483647, ii_add, ii_sub, ii_neg, ii_mul, ii_lt, ii_le, ii_eq, if_true, if_false, if_pos, if_neg, ldI_at o77 n77, q1, a1]
      exact b1
    rw [e, fgt_at (mPf_new mPf_rf) (by rw [nSh_t]; omega) (by rw [nSh_t, nSh_n]; omega), nSh_n, show mN S + 1 - mN S = 1 by omega]
  · exact (b2 a h1 h2).trans ((a2 a (by omega)).trans (nMm_1 ha))
