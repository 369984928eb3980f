/-! whole numbers as ints of the machine -/
def ii (a : Int) : Int32 := Int32.ofInt a
theorem ii_toInt {a : Int} (h1 : -2147483648 ≤ a) (h2 : a < 2147483648) : (ii a).toInt = a := Int32.toInt_ofInt_of_le h1 h2
theorem ii_of (x : Int32) : ii x.toInt = x := Int32.ofInt_toInt x
theorem ii_ex (x : Int32) : ∃ a, x = ii a ∧ -2147483648 ≤ a ∧ a < 2147483648 := ⟨x.toInt, (ii_of x).symm, x.le_toInt, x.toInt_lt⟩
theorem ii_add (a b : Int) : ii a + ii b = ii (a + b) := (Int32.ofInt_add a b).symm
theorem ii_sub (a b : Int) : ii a - ii b = ii (a - b) := (Int32.ofInt_sub a b).symm
theorem ii_mul (a b : Int) : ii a * ii b = ii (a * b) := (Int32.ofInt_mul a b).symm
theorem ii_neg (a : Int) : -ii a = ii (-a) := (Int32.ofInt_neg a).symm
theorem ii_lt {a b : Int} (h1 : -2147483648 ≤ a) (h2 : a < 2147483648) (h3 : -2147483648 ≤ b) (h4 : b < 2147483648) : (ii a < ii b) ↔ a < b := by
  rw [Int32.lt_iff_toInt_lt, ii_toInt h1 h2, ii_toInt h3 h4]
theorem ii_le {a b : Int} (h1 : -2147483648 ≤ a) (h2 : a < 2147483648) (h3 : -2147483648 ≤ b) (h4 : b < 2147483648) : (ii a ≤ ii b) ↔ a ≤ b := by
  rw [Int32.le_iff_toInt_le, ii_toInt h1 h2, ii_toInt h3 h4]
theorem ii_eq {a b : Int} (h1 : -2147483648 ≤ a) (h2 : a < 2147483648) (h3 : -2147483648 ≤ b) (h4 : b < 2147483648) : (ii a = ii b) ↔ a = b := by
  rw [← Int32.toInt_inj, ii_toInt h1 h2, ii_toInt h3 h4]
theorem ii_nat {a : Int} (h1 : -2147483648 ≤ a) (h2 : a < 2147483648) : (ii a).toNatClampNeg = a.toNat := Int32.toNatClampNeg_ofInt_of_le h1 h2
theorem ii_ofNat (n : Nat) : Int32.ofNat n = ii (n : Int) := (Int32.ofInt_eq_ofNat (n := n)).symm
theorem ii_min {a b : Int} (h1 : -2147483648 ≤ a) (h2 : a < 2147483648) (h3 : -2147483648 ≤ b) (h4 : b < 2147483648) : mMin (ii a) (ii b) = ii (min a b) := by
  unfold mMin
  by_cases h : b < a
  · rw [if_pos ((ii_lt h3 h4 h1 h2).mpr h), show min a b = b by omega]
  · rw [if_neg (fun z => h ((ii_lt h3 h4 h1 h2).mp z)), show min a b = a by omega]
theorem km102 : (-102 : Int32) = ii (-102) := rfl
theorem km101 : (-101 : Int32) = ii (-101) := rfl
theorem km10 : (-10 : Int32) = ii (-10) := rfl
theorem km1 : (-1 : Int32) = ii (-1) := rfl
theorem k0 : (0 : Int32) = ii (0) := rfl
theorem k1 : (1 : Int32) = ii (1) := rfl
theorem k2 : (2 : Int32) = ii (2) := rfl
theorem k3 : (3 : Int32) = ii (3) := rfl
theorem k4 : (4 : Int32) = ii (4) := rfl
theorem k5 : (5 : Int32) = ii (5) := rfl
theorem k6 : (6 : Int32) = ii (6) := rfl
theorem k7 : (7 : Int32) = ii (7) := rfl
theorem k8 : (8 : Int32) = ii (8) := rfl
theorem k9 : (9 : Int32) = ii (9) := rfl
theorem k10 : (10 : Int32) = ii (10) := rfl
theorem k11 : (11 : Int32) = ii (11) := rfl
theorem k12 : (12 : Int32) = ii (12) := rfl
theorem k13 : (13 : Int32) = ii (13) := rfl
theorem k14 : (14 : Int32) = ii (14) := rfl
theorem k15 : (15 : Int32) = ii (15) := rfl
theorem k16 : (16 : Int32) = ii (16) := rfl
theorem k17 : (17 : Int32) = ii (17) := rfl
theorem k20 : (20 : Int32) = ii (20) := rfl
theorem k22 : (22 : Int32) = ii (22) := rfl
theorem k31 : (31 : Int32) = ii (31) := rfl
theorem k32 : (32 : Int32) = ii (32) := rfl
theorem k33 : (33 : Int32) = ii (33) := rfl
theorem k39 : (39 : Int32) = ii (39) := rfl
theorem k40 : (40 : Int32) = ii (40) := rfl
theorem k43 : (43 : Int32) = ii (43) := rfl
theorem k44 : (44 : Int32) = ii (44) := rfl
theorem k45 : (45 : Int32) = ii (45) := rfl
theorem k48 : (48 : Int32) = ii (48) := rfl
theorem k49 : (49 : Int32) = ii (49) := rfl
theorem k50 : (50 : Int32) = ii (50) := rfl
theorem k51 : (51 : Int32) = ii (51) := rfl
theorem k52 : (52 : Int32) = ii (52) := rfl
theorem k57 : (57 : Int32) = ii (57) := rfl
theorem k59 : (59 : Int32) = ii (59) := rfl
theorem k60 : (60 : Int32) = ii (60) := rfl
theorem k63 : (63 : Int32) = ii (63) := rfl
theorem k64 : (64 : Int32) = ii (64) := rfl
theorem k80 : (80 : Int32) = ii (80) := rfl
theorem k90 : (90 : Int32) = ii (90) := rfl
theorem k97 : (97 : Int32) = ii (97) := rfl
theorem k100 : (100 : Int32) = ii (100) := rfl
theorem k101 : (101 : Int32) = ii (101) := rfl
theorem k108 : (108 : Int32) = ii (108) := rfl
theorem k112 : (112 : Int32) = ii (112) := rfl
theorem k114 : (114 : Int32) = ii (114) := rfl
theorem k117 : (117 : Int32) = ii (117) := rfl
theorem k126 : (126 : Int32) = ii (126) := rfl
theorem k130 : (130 : Int32) = ii (130) := rfl
theorem k650 : (650 : Int32) = ii (650) := rfl
theorem k1000 : (1000 : Int32) = ii (1000) := rfl
theorem k100000 : (100000 : Int32) = ii (100000) := rfl
theorem k1000000 : (1000000 : Int32) = ii (1000000) := rfl
theorem k15485863 : (15485863 : Int32) = ii (15485863) := rfl
theorem k32452867 : (32452867 : Int32) = ii (32452867) := rfl
theorem k2147483647 : (2147483647 : Int32) = ii (2147483647) := rfl
theorem mIn_ii {a : Int} {n : Nat} (h1 : 0 ≤ a) (h2 : a < n) (h3 : a < 2147483648) : mIn (ii a) n = true := by
  unfold mIn
  rw [ii_nat (by omega) h3]
  have h0 : (0 : Int32) ≤ ii a := (ii_le (a := 0) (by omega) (by omega) (by omega) h3).mpr h1
  simp only [Bool.and_eq_true, decide_eq_true_eq]
  exact ⟨h0, by omega⟩
theorem gI_at {S : mSh} {μ : mMm} {o c k : Nat} (h : mok S o c = true) : gI S μ o c k = some (μ.1 o k) := if_pos h
theorem gL_at {S : mSh} {μ : mMm} {o c k : Nat} (h : mok S o c = true) : gL S μ o c k = some (μ.2 o k) := if_pos h
theorem pI_at {S : mSh} {μ : mMm} {o c k : Nat} {v : Int32} (h : mok S o c = true) : pI S μ o c k v = some (u2 μ.1 o k v, μ.2) := if_pos h
theorem pL_at {S : mSh} {μ : mMm} {o c k : Nat} {v : Int64} (h : mok S o c = true) : pL S μ o c k v = some (μ.1, u2 μ.2 o k v) := if_pos h
theorem ldI_at {S : mSh} {μ : mMm} {q n : Nat} {a : Int} (h : mok S q 12 = true) (hn : mLn S q = n) (h1 : 0 ≤ a) (h2 : a < n) (h3 : a < 2147483648) : ldI S μ q (ii a) = some (μ.1 q a.toNat) := by
  subst hn
  unfold ldI
  rw [if_pos ⟨h, mIn_ii h1 h2 h3⟩, ii_nat (by omega) h3]
theorem stI_at {S : mSh} {μ : mMm} {q n : Nat} {a : Int} {v : Int32} (h : mok S q 12 = true) (hn : mLn S q = n) (h1 : 0 ≤ a) (h2 : a < n) (h3 : a < 2147483648) : stI S μ q (ii a) v = some (u2 μ.1 q a.toNat v, μ.2) := by
  subst hn
  unfold stI
  rw [if_pos ⟨h, mIn_ii h1 h2 h3⟩, ii_nat (by omega) h3]
theorem aL_at {S : mSh} {q c n : Nat} (h : mok S q c = true) (hn : mLn S q = n) : aL S q c = some (ii n) := by
  subst hn
  unfold aL
  rw [if_pos h, ii_ofNat]
theorem u2_at {f : Nat → Nat → Int32} {i k a b : Nat} {v : Int32} (h1 : a = i) (h2 : b = k) : u2 f i k v a b = v := by
  subst h1; subst h2; exact u2_same
theorem u2_off {f : Nat → Nat → Int32} {i k a b : Nat} {v : Int32} (h : a ≠ i ∨ b ≠ k) : u2 f i k v a b = f a b := u2_other h
theorem u2_offr {f : Nat → Nat → Int32} {i k a : Nat} {v : Int32} (h : a ≠ i) : u2 f i k v a = f a := u2_ne h
