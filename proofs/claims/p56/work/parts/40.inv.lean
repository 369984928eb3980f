/-! the state of both sides -/
def AS : Type := (Int → Int) × Int × (Nat → Int → Int) × Int × (Int → Int) × Int × (Int → Int)
def AS.v (A : AS) : Int → Int := A.1
def AS.c (A : AS) : Int := A.2.1
def AS.H (A : AS) : Nat → Int → Int := A.2.2.1
def AS.s (A : AS) : Int := A.2.2.2.1
def AS.K (A : AS) : Int → Int := A.2.2.2.2.1
def AS.b (A : AS) : Int := A.2.2.2.2.2.1
def AS.Y (A : AS) : Int → Int := A.2.2.2.2.2.2
def AS.sv (A : AS) (v : Int → Int) : AS := (v, A.2)
def AS.sc (A : AS) (c : Int) (H : Nat → Int → Int) : AS := (A.1, c, H, A.2.2.2)
def AS.ss (A : AS) (K : Int → Int) : AS := (A.1, A.2.1, A.2.2.1, 1, K, A.2.2.2.2.2)
def AS.sb (A : AS) (b : Int) (Y : Int → Int) : AS := (A.1, A.2.1, A.2.2.1, A.2.2.2.1, A.2.2.2.2.1, b, Y)
def AW (A : AS) : Prop := WF A.v ∧ (0 ≤ A.c ∧ A.c ≤ 6) ∧ (∀ i : Nat, (i : Int) < A.c → WF (A.H i)) ∧ (A.s = 0 ∨ (A.s = 1 ∧ WF A.K)) ∧ (0 ≤ A.b ∧ A.b ≤ 60) ∧ ∀ j, 0 ≤ j → j < A.b → 33 ≤ A.Y j ∧ A.Y j ≤ 126
def CI (m : Nat → Nat → Int32) (A : AS) : Prop := RS m 1 A.v ∧ HC m A.c A.H ∧ m 0 2 = ii A.s ∧ (A.s = 1 → RS m 8 A.K) ∧ m 59 1 = ii A.b ∧ ∀ j, 0 ≤ j → j < A.b → m 60 j.toNat = ii (A.Y j)
def RI (m : Nat → Nat → Int32) (A : AS) : Prop := RZ m A.v ∧ RP m A.c A.H ∧ m 74 4 = ii A.s ∧ (A.s = 1 → RM m 77 0 A.K) ∧ m 74 10 = ii A.b ∧ ∀ j, 0 ≤ j → j < A.b → m 81 j.toNat = ii (A.Y j)
def chg (A : AS) (v : Int → Int) : AS := (A.sc (if A.c < 6 then A.c + 1 else 6) (pushH A.v A.H)).sv v
theorem AW_chg {A : AS} {v : Int → Int} (h : AW A) (hv : WF v) : AW (chg A v) := by
  obtain ⟨h1, h2, h3, h4, h5, h6⟩ := h
  refine ⟨hv, ?_, fun i hi => ?_, h4, h5, h6⟩
  · show 0 ≤ (if A.c < 6 then A.c + 1 else 6) ∧ (if A.c < 6 then A.c + 1 else 6) ≤ 6
    by_cases h : A.c < 6
    · rw [if_pos h]
      omega
    · rw [if_neg h]
      omega
  · cases i with
    | zero => exact h1
    | succ i =>
      have hi2 : ((i + 1 : Nat) : Int) < (if A.c < 6 then A.c + 1 else 6) := hi
      refine h3 i ?_
      by_cases h : A.c < 6
      · rw [if_pos h] at hi2
        omega
      · omega
theorem AW_set {A : AS} {v : Int → Int} (h : AW A) (hv : WF v) : AW (A.sv v) := ⟨hv, h.2⟩
/-! what leaves them alone -/
theorem CI_fr {m m' : Nat → Nat → Int32} {A : AS} (h : ∀ b, b < 61 → m' b = m b) (hC : CI m A) : CI m' A := by
  obtain ⟨h1, h2, h3, h4, h5, h6⟩ := hC
  refine ⟨RS_fr (fun j hj => h _ (by omega)) h1, HC_fr (fun b h7 h8 => h b (by omega)) h2, by rw [h 0 (by omega)]; exact h3, fun hs => RS_fr (fun j hj => h _ (by omega)) (h4 hs), by rw [h 59 (by omega)]; exact h5, fun j h7 h8 => by rw [h 60 (by omega)]; exact h6 j h7 h8⟩
theorem CI_push {m m' : Nat → Nat → Int32} {A : AS} {c : Int} {H : Nat → Int → Int} (h : ∀ b, b < 15 ∨ 59 ≤ b → m' b = m b) (hH : HC m' c H) (hC : CI m A) : CI m' (A.sc c H) := by
  obtain ⟨h1, h2, h3, h4, h5, h6⟩ := hC
  refine ⟨RS_fr (fun j hj => h _ (by omega)) h1, hH, by rw [h 0 (by omega)]; exact h3, fun hs => RS_fr (fun j hj => h _ (by omega)) (h4 hs), by rw [h 59 (by omega)]; exact h5, fun j h7 h8 => by rw [h 60 (by omega)]; exact h6 j h7 h8⟩
theorem CI_set {m m' : Nat → Nat → Int32} {A : AS} {v : Int → Int} (h : ∀ b, b < 61 → (b < 1 ∨ 8 ≤ b) → m' b = m b) (hR : RS m' 1 v) (hC : CI m A) : CI m' (A.sv v) := by
  obtain ⟨h1, h2, h3, h4, h5, h6⟩ := hC
  refine ⟨hR, HC_fr (fun b h7 h8 => h b (by omega) (by omega)) h2, by rw [h 0 (by omega) (by omega)]; exact h3, fun hs => RS_fr (fun j hj => h _ (by omega) (by omega)) (h4 hs), by rw [h 59 (by omega) (by omega)]; exact h5, fun j h7 h8 => by rw [h 60 (by omega) (by omega)]; exact h6 j h7 h8⟩
theorem RP_fr {m m' : Nat → Nat → Int32} {c : Int} {H : Nat → Int → Int} (h : m' 74 2 = m 74 2) (h2 : m' 76 = m 76) (hP : RP m c H) : RP m' c H := by
  refine ⟨h.trans hP.1, hP.2.1, fun i hi k h7 h8 => ?_⟩
  rw [h2]
  exact hP.2.2 i hi k h7 h8
theorem RI_fr {m m' : Nat → Nat → Int32} {A : AS} (h : ∀ b, b = 75 ∨ b = 76 ∨ b = 77 ∨ b = 81 → m' b = m b) (hf : ∀ k, k = 2 ∨ k = 4 ∨ k = 10 → m' 74 k = m 74 k) (hI : RI m A) : RI m' A := by
  obtain ⟨h1, h2, h3, h4, h5, h6⟩ := hI
  refine ⟨RZ_fr (h 75 (by omega)) h1, RP_fr (hf 2 (by omega)) (h 76 (by omega)) h2, by rw [hf 4 (by omega)]; exact h3, fun hs k h7 h8 => by rw [h 77 (by omega)]; exact h4 hs k h7 h8, by rw [hf 10 (by omega)]; exact h5, fun j h7 h8 => by rw [h 81 (by omega)]; exact h6 j h7 h8⟩
theorem RI_push {m m' : Nat → Nat → Int32} {A : AS} {c : Int} {H : Nat → Int → Int} (h : ∀ b, b ≠ 76 → b ≠ 74 → m' b = m b) (hf : ∀ k, k ≠ 2 → m' 74 k = m 74 k) (hP : RP m' c H) (hI : RI m A) : RI m' (A.sc c H) := by
  obtain ⟨h1, h2, h3, h4, h5, h6⟩ := hI
  refine ⟨RZ_fr (h 75 (by omega) (by omega)) h1, hP, by rw [hf 4 (by omega)]; exact h3, fun hs k h7 h8 => by rw [h 77 (by omega) (by omega)]; exact h4 hs k h7 h8, by rw [hf 10 (by omega)]; exact h5, fun j h7 h8 => by rw [h 81 (by omega) (by omega)]; exact h6 j h7 h8⟩
theorem RI_set {m m' : Nat → Nat → Int32} {A : AS} {v : Int → Int} (h : ∀ b, b = 76 ∨ b = 77 ∨ b = 81 → m' b = m b) (hf : ∀ k, k = 2 ∨ k = 4 ∨ k = 10 → m' 74 k = m 74 k) (hR : RZ m' v) (hI : RI m A) : RI m' (A.sv v) := by
  obtain ⟨h1, h2, h3, h4, h5, h6⟩ := hI
  refine ⟨hR, RP_fr (hf 2 (by omega)) (h 76 (by omega)) h2, by rw [hf 4 (by omega)]; exact h3, fun hs k h7 h8 => by rw [h 77 (by omega)]; exact h4 hs k h7 h8, by rw [hf 10 (by omega)]; exact h5, fun j h7 h8 => by rw [h 81 (by omega)]; exact h6 j h7 h8⟩
/-! what a call of each side does -/
def CS (f : Option ((Int32 ⊕ Nat) × mMm)) (μ : mMm) (r : Int32 ⊕ Nat) (A : AS) : Prop := ∃ m', f = some (r, (m', μ.2)) ∧ (∀ a, 74 ≤ a → m' a = μ.1 a) ∧ CI m' A
def CV (f : Option (Int32 × mMm)) (μ : mMm) (x : Int) (A : AS) : Prop := ∃ m', f = some (ii x, (m', μ.2)) ∧ (∀ a, 74 ≤ a → m' a = μ.1 a) ∧ CI m' A
def RV (f : Option (Int32 × mMm)) (μ : mMm) (w x : Int) (A : AS) : Prop := ∃ m', f = some (ii x, (m', μ.2)) ∧ (∀ a, a < 74 → m' a = μ.1 a) ∧ m' 74 11 = ii w ∧ RI m' A
theorem ii_all (p : Int32) : ∃ q : Int, p = ii q ∧ -2147483648 ≤ q ∧ q < 2147483648 := ⟨p.toInt, (Int32.ofInt_toInt p).symm, Int32.le_toInt p, Int32.toInt_lt p⟩
theorem isL_at {q : Int} (h0 : -2147483648 ≤ q) (h1 : q < 2147483648) : fX10_isLetter (ii q) = some (ii (if 0 ≤ q ∧ q ≤ 3 then 1 else 0)) := by
  unfold fX10_isLetter
  by_cases h2 : q < 0
  · simp (disch := omega) only [Option.bind_some, km1, k0, k1, k2, k3, k4, k5, k6, k7, k8, k9, k10, k11, k15, k16, k20, k32, k33, k39, k40, k43, k44, k45, k48, k49, k50, k51, k52, k57, k59, k60, k63, k64, k80, k97, k100, k101, k108, k112, k114, k117, k126, k130, k650, k100000, k1000000, ii_add, ii_sub, ii_neg, ii_mul, ii_lt, ii_le, ii_eq, if_true, if_false, if_pos, if_neg]
  · by_cases h3 : 4 ≤ q
    · simp (disch := omega) only [Option.bind_some, km1, k0, k1, k2, k3, k4, k5, k6, k7, k8, k9, k10, k11, k15, k16, k20, k32, k33, k39, k40, k43, k44, k45, k48, k49, k50, k51, k52, k57, k59, k60, k63, k64, k80, k97, k100, k101, k108, k112, k114, k117, k126, k130, k650, k100000, k1000000, ii_add, ii_sub, ii_neg, ii_mul, ii_lt, ii_le, ii_eq, if_true, if_false, if_pos, if_neg]
    · simp (disch := omega) only [Option.bind_some, km1, k0, k1, k2, k3, k4, k5, k6, k7, k8, k9, k10, k11, k15, k16, k20, k32, k33, k39, k40, k43, k44, k45, k48, k49, k50, k51, k52, k57, k59, k60, k63, k64, k80, k97, k100, k101, k108, k112, k114, k117, k126, k130, k650, k100000, k1000000, ii_add, ii_sub, ii_neg, ii_mul, ii_lt, ii_le, ii_eq, if_true, if_false, if_pos, if_neg]
theorem isB_at {q a b : Int} (h0 : -2147483648 ≤ q) (h1 : q < 2147483648) (ha : 0 ≤ a) (hb : b ≤ 1000) (hab : a ≤ b) : fX10_isBetween (ii q) (ii a) (ii b) = some (ii (if a ≤ q ∧ q ≤ b then 1 else 0)) := by
  unfold fX10_isBetween
  by_cases h2 : q < a
  · simp (disch := omega) only [Option.bind_some, km1, k0, k1, k2, k3, k4, k5, k6, k7, k8, k9, k10, k11, k15, k16, k20, k32, k33, k39, k40, k43, k44, k45, k48, k49, k50, k51, k52, k57, k59, k60, k63, k64, k80, k97, k100, k101, k108, k112, k114, k117, k126, k130, k650, k100000, k1000000, ii_add, ii_sub, ii_neg, ii_mul, ii_lt, ii_le, ii_eq, if_true, if_false, if_pos, if_neg]
  · by_cases h3 : b < q
    · simp (disch := omega) only [Option.bind_some, km1, k0, k1, k2, k3, k4, k5, k6, k7, k8, k9, k10, k11, k15, k16, k20, k32, k33, k39, k40, k43, k44, k45, k48, k49, k50, k51, k52, k57, k59, k60, k63, k64, k80, k97, k100, k101, k108, k112, k114, k117, k126, k130, k650, k100000, k1000000, ii_add, ii_sub, ii_neg, ii_mul, ii_lt, ii_le, ii_eq, if_true, if_false, if_pos, if_neg]
    · simp (disch := omega) only [Option.bind_some, km1, k0, k1, k2, k3, k4, k5, k6, k7, k8, k9, k10, k11, k15, k16, k20, k32, k33, k39, k40, k43, k44, k45, k48, k49, k50, k51, k52, k57, k59, k60, k63, k64, k80, k97, k100, k101, k108, k112, k114, k117, k126, k130, k650, k100000, k1000000, ii_add, ii_sub, ii_neg, ii_mul, ii_lt, ii_le, ii_eq, if_true, if_false, if_pos, if_neg]
theorem isW_at {q : Int} (h0 : -2147483648 ≤ q) (h1 : q < 2147483648) : fX10_isWay (ii q) = some (ii (if 0 ≤ q ∧ q ≤ 2 then 1 else 0)) := by
  unfold fX10_isWay
  by_cases h2 : q < 0
  · simp (disch := omega) only [Option.bind_some, km1, k0, k1, k2, k3, k4, k5, k6, k7, k8, k9, k10, k11, k15, k16, k20, k32, k33, k39, k40, k43, k44, k45, k48, k49, k50, k51, k52, k57, k59, k60, k63, k64, k80, k97, k100, k101, k108, k112, k114, k117, k126, k130, k650, k100000, k1000000, ii_add, ii_sub, ii_neg, ii_mul, ii_lt, ii_le, ii_eq, if_true, if_false, if_pos, if_neg]
  · by_cases h3 : 2 < q
    · simp (disch := omega) only [Option.bind_some, km1, k0, k1, k2, k3, k4, k5, k6, k7, k8, k9, k10, k11, k15, k16, k20, k32, k33, k39, k40, k43, k44, k45, k48, k49, k50, k51, k52, k57, k59, k60, k63, k64, k80, k97, k100, k101, k108, k112, k114, k117, k126, k130, k650, k100000, k1000000, ii_add, ii_sub, ii_neg, ii_mul, ii_lt, ii_le, ii_eq, if_true, if_false, if_pos, if_neg]
    · simp (disch := omega) only [Option.bind_some, km1, k0, k1, k2, k3, k4, k5, k6, k7, k8, k9, k10, k11, k15, k16, k20, k32, k33, k39, k40, k43, k44, k45, k48, k49, k50, k51, k52, k57, k59, k60, k63, k64, k80, k97, k100, k101, k108, k112, k114, k117, k126, k130, k650, k100000, k1000000, ii_add, ii_sub, ii_neg, ii_mul, ii_lt, ii_le, ii_eq, if_true, if_false, if_pos, if_neg]