/-! the shape and the memory that the law's start makes -/
def mS0 : mSh := ((0, 0), (fun _ => 0), (fun _ => 0), (fun _ _ => none))
def mM0 : mMm := ((fun _ _ => 0), (fun _ _ => 0))
def oR1 : mSh × mMm := (nSh mS0 10 0 9, nMm mS0 mM0)
def oR2 : mSh × mMm := (fX10_init oR1.1 oR1.2 0).getD (mS0, mM0)
def oS : mSh := oR2.1
def oM : mMm := oR2.2
theorem getD_some {α : Type} {x : Option α} {d : α} (h : x.isSome = true) : x = some (x.getD d) := by
  cases x with
  | none => cases h
  | some a => rfl
set_option maxRecDepth 100000 in
theorem oR2_eq : fX10_init oR1.1 oR1.2 0 = some oR2 := getD_some (by decide +kernel)
set_option maxRecDepth 100000 in
theorem oN1 : aN mS0 mM0 [some (.ref 1000), none, none, none, none, none, none, none, none, none, none, none, none, none] [] 10 0 9 = some oR1 := if_pos (by decide +kernel)
set_option maxRecDepth 100000 in
theorem oK1 : mvk oR1.1 [some (.ref 1000), none, none, none, none, none, none, none, none, none, none, none, none, none] [.ref 0] = true := by decide +kernel
set_option maxRecDepth 100000 in
theorem oMN : mN mS0 = 0 ∧ mN oS = 74 ∧ mTot oS = 1409 := by decide +kernel
set_option maxRecDepth 100000 in
theorem o0 : mok oS 0 10 = true := by decide +kernel
theorem gI_0 {μ : mMm} {k : Nat} : gI oS μ 0 10 k = some (μ.1 0 k) := gI_at o0
theorem pI_0 {μ : mMm} {k : Nat} {v : Int32} : pI oS μ 0 10 k v = some (u2 μ.1 0 k v, μ.2) := pI_at o0
set_option maxRecDepth 100000 in
theorem gR_0_0 : gR oS 0 10 0 = some 1 := by decide +kernel
set_option maxRecDepth 100000 in
theorem gR_0_1 : gR oS 0 10 1 = some 8 := by decide +kernel
set_option maxRecDepth 100000 in
theorem gR_0_3 : gR oS 0 10 3 = some 15 := by decide +kernel
set_option maxRecDepth 100000 in
theorem gR_0_4 : gR oS 0 10 4 = some 59 := by decide +kernel
set_option maxRecDepth 100000 in
theorem gR_0_5 : gR oS 0 10 5 = some 61 := by decide +kernel
set_option maxRecDepth 100000 in
theorem gR_0_6 : gR oS 0 10 6 = some 66 := by decide +kernel
set_option maxRecDepth 100000 in
theorem gR_0_7 : gR oS 0 10 7 = some 68 := by decide +kernel
set_option maxRecDepth 100000 in
theorem gR_0_8 : gR oS 0 10 8 = some 71 := by decide +kernel
set_option maxRecDepth 100000 in
theorem o1 : mok oS 1 7 = true := by decide +kernel
theorem gI_1 {μ : mMm} {k : Nat} : gI oS μ 1 7 k = some (μ.1 1 k) := gI_at o1
theorem pI_1 {μ : mMm} {k : Nat} {v : Int32} : pI oS μ 1 7 k v = some (u2 μ.1 1 k v, μ.2) := pI_at o1
set_option maxRecDepth 100000 in
theorem gR_1_0 : gR oS 1 7 0 = some 2 := by decide +kernel
set_option maxRecDepth 100000 in
theorem gR_1_1 : gR oS 1 7 1 = some 4 := by decide +kernel
set_option maxRecDepth 100000 in
theorem gR_1_2 : gR oS 1 7 2 = some 7 := by decide +kernel
set_option maxRecDepth 100000 in
theorem o2 : mok oS 2 2 = true := by decide +kernel
theorem gI_2 {μ : mMm} {k : Nat} : gI oS μ 2 2 k = some (μ.1 2 k) := gI_at o2
theorem pI_2 {μ : mMm} {k : Nat} {v : Int32} : pI oS μ 2 2 k v = some (u2 μ.1 2 k v, μ.2) := pI_at o2
set_option maxRecDepth 100000 in
theorem gR_2_0 : gR oS 2 2 0 = some 3 := by decide +kernel
set_option maxRecDepth 100000 in
theorem o4 : mok oS 4 5 = true := by decide +kernel
theorem gI_4 {μ : mMm} {k : Nat} : gI oS μ 4 5 k = some (μ.1 4 k) := gI_at o4
theorem pI_4 {μ : mMm} {k : Nat} {v : Int32} : pI oS μ 4 5 k v = some (u2 μ.1 4 k v, μ.2) := pI_at o4
set_option maxRecDepth 100000 in
theorem gR_4_0 : gR oS 4 5 0 = some 5 := by decide +kernel
set_option maxRecDepth 100000 in
theorem gR_4_1 : gR oS 4 5 1 = some 6 := by decide +kernel
set_option maxRecDepth 100000 in
theorem o7 : mok oS 7 6 = true := by decide +kernel
theorem gI_7 {μ : mMm} {k : Nat} : gI oS μ 7 6 k = some (μ.1 7 k) := gI_at o7
theorem pI_7 {μ : mMm} {k : Nat} {v : Int32} : pI oS μ 7 6 k v = some (u2 μ.1 7 k v, μ.2) := pI_at o7
set_option maxRecDepth 100000 in
theorem o15 : mok oS 15 1 = true := by decide +kernel
theorem gI_15 {μ : mMm} {k : Nat} : gI oS μ 15 1 k = some (μ.1 15 k) := gI_at o15
theorem pI_15 {μ : mMm} {k : Nat} {v : Int32} : pI oS μ 15 1 k v = some (u2 μ.1 15 k v, μ.2) := pI_at o15
set_option maxRecDepth 100000 in
theorem gR_15_0 : gR oS 15 1 0 = some 16 := by decide +kernel
set_option maxRecDepth 100000 in
theorem o59 : mok oS 59 9 = true := by decide +kernel
theorem gI_59 {μ : mMm} {k : Nat} : gI oS μ 59 9 k = some (μ.1 59 k) := gI_at o59
theorem pI_59 {μ : mMm} {k : Nat} {v : Int32} : pI oS μ 59 9 k v = some (u2 μ.1 59 k v, μ.2) := pI_at o59
set_option maxRecDepth 100000 in
theorem gR_59_0 : gR oS 59 9 0 = some 60 := by decide +kernel
set_option maxRecDepth 100000 in
theorem o61 : mok oS 61 3 = true := by decide +kernel
theorem gI_61 {μ : mMm} {k : Nat} : gI oS μ 61 3 k = some (μ.1 61 k) := gI_at o61
theorem pI_61 {μ : mMm} {k : Nat} {v : Int32} : pI oS μ 61 3 k v = some (u2 μ.1 61 k v, μ.2) := pI_at o61
set_option maxRecDepth 100000 in
theorem gR_61_0 : gR oS 61 3 0 = some 2 := by decide +kernel
set_option maxRecDepth 100000 in
theorem gR_61_1 : gR oS 61 3 1 = some 7 := by decide +kernel
set_option maxRecDepth 100000 in
theorem gR_61_2 : gR oS 61 3 2 = some 62 := by decide +kernel
set_option maxRecDepth 100000 in
theorem o62 : mok oS 62 0 = true := by decide +kernel
theorem gI_62 {μ : mMm} {k : Nat} : gI oS μ 62 0 k = some (μ.1 62 k) := gI_at o62
theorem pI_62 {μ : mMm} {k : Nat} {v : Int32} : pI oS μ 62 0 k v = some (u2 μ.1 62 k v, μ.2) := pI_at o62
set_option maxRecDepth 100000 in
theorem gR_62_0 : gR oS 62 0 0 = some 63 := by decide +kernel
set_option maxRecDepth 100000 in
theorem gR_62_1 : gR oS 62 0 1 = some 64 := by decide +kernel
set_option maxRecDepth 100000 in
theorem gR_62_2 : gR oS 62 0 2 = some 65 := by decide +kernel
set_option maxRecDepth 100000 in
theorem o66 : mok oS 66 4 = true := by decide +kernel
theorem gI_66 {μ : mMm} {k : Nat} : gI oS μ 66 4 k = some (μ.1 66 k) := gI_at o66
theorem pI_66 {μ : mMm} {k : Nat} {v : Int32} : pI oS μ 66 4 k v = some (u2 μ.1 66 k v, μ.2) := pI_at o66
set_option maxRecDepth 100000 in
theorem gR_66_0 : gR oS 66 4 0 = some 61 := by decide +kernel
set_option maxRecDepth 100000 in
theorem gR_66_1 : gR oS 66 4 1 = some 67 := by decide +kernel
set_option maxRecDepth 100000 in
theorem o68 : mok oS 68 5 = true := by decide +kernel
theorem gI_68 {μ : mMm} {k : Nat} : gI oS μ 68 5 k = some (μ.1 68 k) := gI_at o68
theorem pI_68 {μ : mMm} {k : Nat} {v : Int32} : pI oS μ 68 5 k v = some (u2 μ.1 68 k v, μ.2) := pI_at o68
set_option maxRecDepth 100000 in
theorem gR_68_0 : gR oS 68 5 0 = some 69 := by decide +kernel
set_option maxRecDepth 100000 in
theorem gR_68_1 : gR oS 68 5 1 = some 70 := by decide +kernel
set_option maxRecDepth 100000 in
theorem o71 : mok oS 71 8 = true := by decide +kernel
theorem gI_71 {μ : mMm} {k : Nat} : gI oS μ 71 8 k = some (μ.1 71 k) := gI_at o71
theorem pI_71 {μ : mMm} {k : Nat} {v : Int32} : pI oS μ 71 8 k v = some (u2 μ.1 71 k v, μ.2) := pI_at o71
set_option maxRecDepth 100000 in
theorem gR_71_0 : gR oS 71 8 0 = some 72 := by decide +kernel
set_option maxRecDepth 100000 in
theorem o72 : mok oS 72 2 = true := by decide +kernel
theorem gI_72 {μ : mMm} {k : Nat} : gI oS μ 72 2 k = some (μ.1 72 k) := gI_at o72
theorem pI_72 {μ : mMm} {k : Nat} {v : Int32} : pI oS μ 72 2 k v = some (u2 μ.1 72 k v, μ.2) := pI_at o72
set_option maxRecDepth 100000 in
theorem gR_72_0 : gR oS 72 2 0 = some 73 := by decide +kernel
set_option maxRecDepth 100000 in
theorem o3 : mok oS 3 12 = true := by decide +kernel
set_option maxRecDepth 100000 in
theorem n3 : mLn oS 3 = 40 := by decide +kernel
theorem ld_3 {μ : mMm} {a : Int} (h1 : 0 ≤ a) (h2 : a < 40) : ldI oS μ 3 (ii a) = some (μ.1 3 a.toNat) := ldI_at o3 n3 h1 (by omega) (by omega)
theorem st_3 {μ : mMm} {a : Int} {v : Int32} (h1 : 0 ≤ a) (h2 : a < 40) : stI oS μ 3 (ii a) v = some (u2 μ.1 3 a.toNat v, μ.2) := stI_at o3 n3 h1 (by omega) (by omega)
theorem aL_3 : aL oS 3 12 = some (ii 40) := aL_at o3 n3
set_option maxRecDepth 100000 in
theorem o5 : mok oS 5 12 = true := by decide +kernel
set_option maxRecDepth 100000 in
theorem n5 : mLn oS 5 = 40 := by decide +kernel
theorem ld_5 {μ : mMm} {a : Int} (h1 : 0 ≤ a) (h2 : a < 40) : ldI oS μ 5 (ii a) = some (μ.1 5 a.toNat) := ldI_at o5 n5 h1 (by omega) (by omega)
theorem st_5 {μ : mMm} {a : Int} {v : Int32} (h1 : 0 ≤ a) (h2 : a < 40) : stI oS μ 5 (ii a) v = some (u2 μ.1 5 a.toNat v, μ.2) := stI_at o5 n5 h1 (by omega) (by omega)
theorem aL_5 : aL oS 5 12 = some (ii 40) := aL_at o5 n5
set_option maxRecDepth 100000 in
theorem o6 : mok oS 6 12 = true := by decide +kernel
set_option maxRecDepth 100000 in
theorem n6 : mLn oS 6 = 40 := by decide +kernel
theorem ld_6 {μ : mMm} {a : Int} (h1 : 0 ≤ a) (h2 : a < 40) : ldI oS μ 6 (ii a) = some (μ.1 6 a.toNat) := ldI_at o6 n6 h1 (by omega) (by omega)
theorem st_6 {μ : mMm} {a : Int} {v : Int32} (h1 : 0 ≤ a) (h2 : a < 40) : stI oS μ 6 (ii a) v = some (u2 μ.1 6 a.toNat v, μ.2) := stI_at o6 n6 h1 (by omega) (by omega)
theorem aL_6 : aL oS 6 12 = some (ii 40) := aL_at o6 n6
set_option maxRecDepth 100000 in
theorem o60 : mok oS 60 12 = true := by decide +kernel
set_option maxRecDepth 100000 in
theorem n60 : mLn oS 60 = 60 := by decide +kernel
theorem ld_60 {μ : mMm} {a : Int} (h1 : 0 ≤ a) (h2 : a < 60) : ldI oS μ 60 (ii a) = some (μ.1 60 a.toNat) := ldI_at o60 n60 h1 (by omega) (by omega)
theorem st_60 {μ : mMm} {a : Int} {v : Int32} (h1 : 0 ≤ a) (h2 : a < 60) : stI oS μ 60 (ii a) v = some (u2 μ.1 60 a.toNat v, μ.2) := stI_at o60 n60 h1 (by omega) (by omega)
theorem aL_60 : aL oS 60 12 = some (ii 60) := aL_at o60 n60
set_option maxRecDepth 100000 in
theorem o63 : mok oS 63 12 = true := by decide +kernel
set_option maxRecDepth 100000 in
theorem n63 : mLn oS 63 = 16 := by decide +kernel
theorem ld_63 {μ : mMm} {a : Int} (h1 : 0 ≤ a) (h2 : a < 16) : ldI oS μ 63 (ii a) = some (μ.1 63 a.toNat) := ldI_at o63 n63 h1 (by omega) (by omega)
theorem st_63 {μ : mMm} {a : Int} {v : Int32} (h1 : 0 ≤ a) (h2 : a < 16) : stI oS μ 63 (ii a) v = some (u2 μ.1 63 a.toNat v, μ.2) := stI_at o63 n63 h1 (by omega) (by omega)
theorem aL_63 : aL oS 63 12 = some (ii 16) := aL_at o63 n63
set_option maxRecDepth 100000 in
theorem o64 : mok oS 64 12 = true := by decide +kernel
set_option maxRecDepth 100000 in
theorem n64 : mLn oS 64 = 16 := by decide +kernel
theorem ld_64 {μ : mMm} {a : Int} (h1 : 0 ≤ a) (h2 : a < 16) : ldI oS μ 64 (ii a) = some (μ.1 64 a.toNat) := ldI_at o64 n64 h1 (by omega) (by omega)
theorem st_64 {μ : mMm} {a : Int} {v : Int32} (h1 : 0 ≤ a) (h2 : a < 16) : stI oS μ 64 (ii a) v = some (u2 μ.1 64 a.toNat v, μ.2) := stI_at o64 n64 h1 (by omega) (by omega)
theorem aL_64 : aL oS 64 12 = some (ii 16) := aL_at o64 n64
set_option maxRecDepth 100000 in
theorem o65 : mok oS 65 12 = true := by decide +kernel
set_option maxRecDepth 100000 in
theorem n65 : mLn oS 65 = 40 := by decide +kernel
theorem ld_65 {μ : mMm} {a : Int} (h1 : 0 ≤ a) (h2 : a < 40) : ldI oS μ 65 (ii a) = some (μ.1 65 a.toNat) := ldI_at o65 n65 h1 (by omega) (by omega)
theorem st_65 {μ : mMm} {a : Int} {v : Int32} (h1 : 0 ≤ a) (h2 : a < 40) : stI oS μ 65 (ii a) v = some (u2 μ.1 65 a.toNat v, μ.2) := stI_at o65 n65 h1 (by omega) (by omega)
theorem aL_65 : aL oS 65 12 = some (ii 40) := aL_at o65 n65
set_option maxRecDepth 100000 in
theorem o67 : mok oS 67 12 = true := by decide +kernel
set_option maxRecDepth 100000 in
theorem n67 : mLn oS 67 = 41 := by decide +kernel
theorem ld_67 {μ : mMm} {a : Int} (h1 : 0 ≤ a) (h2 : a < 41) : ldI oS μ 67 (ii a) = some (μ.1 67 a.toNat) := ldI_at o67 n67 h1 (by omega) (by omega)
theorem st_67 {μ : mMm} {a : Int} {v : Int32} (h1 : 0 ≤ a) (h2 : a < 41) : stI oS μ 67 (ii a) v = some (u2 μ.1 67 a.toNat v, μ.2) := stI_at o67 n67 h1 (by omega) (by omega)
theorem aL_67 : aL oS 67 12 = some (ii 41) := aL_at o67 n67
set_option maxRecDepth 100000 in
theorem o69 : mok oS 69 12 = true := by decide +kernel
set_option maxRecDepth 100000 in
theorem n69 : mLn oS 69 = 40 := by decide +kernel
theorem ld_69 {μ : mMm} {a : Int} (h1 : 0 ≤ a) (h2 : a < 40) : ldI oS μ 69 (ii a) = some (μ.1 69 a.toNat) := ldI_at o69 n69 h1 (by omega) (by omega)
theorem st_69 {μ : mMm} {a : Int} {v : Int32} (h1 : 0 ≤ a) (h2 : a < 40) : stI oS μ 69 (ii a) v = some (u2 μ.1 69 a.toNat v, μ.2) := stI_at o69 n69 h1 (by omega) (by omega)
theorem aL_69 : aL oS 69 12 = some (ii 40) := aL_at o69 n69
set_option maxRecDepth 100000 in
theorem o70 : mok oS 70 12 = true := by decide +kernel
set_option maxRecDepth 100000 in
theorem n70 : mLn oS 70 = 40 := by decide +kernel
theorem ld_70 {μ : mMm} {a : Int} (h1 : 0 ≤ a) (h2 : a < 40) : ldI oS μ 70 (ii a) = some (μ.1 70 a.toNat) := ldI_at o70 n70 h1 (by omega) (by omega)
theorem st_70 {μ : mMm} {a : Int} {v : Int32} (h1 : 0 ≤ a) (h2 : a < 40) : stI oS μ 70 (ii a) v = some (u2 μ.1 70 a.toNat v, μ.2) := stI_at o70 n70 h1 (by omega) (by omega)
theorem aL_70 : aL oS 70 12 = some (ii 40) := aL_at o70 n70
set_option maxRecDepth 100000 in
theorem o73 : mok oS 73 12 = true := by decide +kernel
set_option maxRecDepth 100000 in
theorem n73 : mLn oS 73 = 40 := by decide +kernel
theorem ld_73 {μ : mMm} {a : Int} (h1 : 0 ≤ a) (h2 : a < 40) : ldI oS μ 73 (ii a) = some (μ.1 73 a.toNat) := ldI_at o73 n73 h1 (by omega) (by omega)
theorem st_73 {μ : mMm} {a : Int} {v : Int32} (h1 : 0 ≤ a) (h2 : a < 40) : stI oS μ 73 (ii a) v = some (u2 μ.1 73 a.toNat v, μ.2) := stI_at o73 n73 h1 (by omega) (by omega)
theorem aL_73 : aL oS 73 12 = some (ii 40) := aL_at o73 n73
set_option maxRecDepth 100000 in
theorem o16 : mok oS 16 15 = true := by decide +kernel
set_option maxRecDepth 100000 in
theorem n16 : mLn oS 16 = 6 := by decide +kernel
theorem aL_16 : aL oS 16 15 = some (ii 6) := aL_at o16 n16
set_option maxRecDepth 100000 in
theorem r16 : ∀ k, k < 6 → mRf oS 16 k = some (17 + 7 * k) := by decide +kernel
theorem ld_16 {a : Int} (h1 : 0 ≤ a) (h2 : a < 6) : ldR oS 16 (ii a) = some (17 + 7 * a.toNat) := by
  unfold ldR
  rw [if_pos ⟨o16, by rw [n16]; exact mIn_ii h1 (by omega) (by omega)⟩, ii_nat (by omega) (by omega)]
  exact r16 _ (by omega)
/-- an object with a row of letters, an object with two rows of tokens, a state -/
def oLt (o : Nat) : Prop := mok oS o 2 = true ∧ gR oS o 2 0 = some (o + 1) ∧ mok oS (o + 1) 12 = true ∧ mLn oS (o + 1) = 40
def oSk (o : Nat) : Prop := mok oS o 5 = true ∧ gR oS o 5 0 = some (o + 1) ∧ gR oS o 5 1 = some (o + 2) ∧ mok oS (o + 1) 12 = true ∧ mLn oS (o + 1) = 40 ∧ mok oS (o + 2) 12 = true ∧ mLn oS (o + 2) = 40
def oSt (a : Nat) : Prop := mok oS a 7 = true ∧ gR oS a 7 0 = some (a + 1) ∧ gR oS a 7 1 = some (a + 3) ∧ gR oS a 7 2 = some (a + 6) ∧ mok oS (a + 6) 6 = true ∧ oLt (a + 1) ∧ oSk (a + 3)
set_option maxRecDepth 100000 in
theorem oLt_2 : oLt 2 := by unfold oLt; decide +kernel
set_option maxRecDepth 100000 in
theorem oLt_72 : oLt 72 := by unfold oLt; decide +kernel
set_option maxRecDepth 100000 in
theorem oSk_4 : oSk 4 := by unfold oSk; decide +kernel
set_option maxRecDepth 100000 in
theorem oSk_68 : oSk 68 := by unfold oSk; decide +kernel
set_option maxRecDepth 100000 in
theorem oSt_1 : oSt 1 := by unfold oSt oLt oSk; decide +kernel
set_option maxRecDepth 100000 in
theorem oSt_8 : oSt 8 := by unfold oSt oLt oSk; decide +kernel
set_option maxRecDepth 100000 in
theorem oSt_r : ∀ k, k < 6 → oSt (17 + 7 * k) := by unfold oSt oLt oSk; decide +kernel
