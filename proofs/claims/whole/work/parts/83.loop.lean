/-! the law's loop -/
variable {μ : mMm} {A : AS} {L cx : Nat} {xs : Nat → Int32}
theorem lds {i : Int} (h0 : 0 ≤ i) (h1 : i < L) (hL : L ≤ 1536) : ldS L xs (ii i) = some (xs i.toNat) := by
  unfold ldS
  rw [if_pos (mIn_ii h0 h1 (by omega)), ii_nat (by omega) (by omega)]
theorem law_out {i : Int} (hL : L ≤ 1536) (h0 : 0 ≤ i) (h1 : i ≤ 5000) : ((Int32.ofNat L) - (3 : Int32)) < ii i ↔ (L : Int) - 3 < i := by
  rw [ii_ofNat, k3, ii_sub, ii_lt (by omega) (by omega) (by omega) (by omega)]
theorem law_step {n : Nat} {i : Int} (h0 : 0 ≤ i) (h1 : i + 2 < L) (hL : L ≤ 1536) (hA : AW A) (hC : CI μ.1 A) (hI : RI μ.1 A) : GO (lL_law_23 L xs oS (n + 1) μ cx 0 74 83 (ii i)) (lL_law_23 L xs oS n) cx (ii i) := by
  have hp0 := lds (xs := xs) h0 (show i < L by omega) hL
  have hp : ldS L xs (ii i + (1 : Int32)) = some (xs (i + 1).toNat) := by
    rw [k1, ii_add]
    exact lds (by omega) (by omega) hL
  have hp2 : ldS L xs (ii i + (2 : Int32)) = some (xs (i + 2).toNat) := by
    rw [k2, ii_add]
    exact lds (by omega) (by omega) hL
  rw [lL_law_23, if_neg (fun hh => by have := (law_out hL h0 (by omega)).mp hh; omega), hp0, Option.bind_some]
  generalize lL_law_23 L xs oS n = K
  generalize (xs i.toNat &&& (63 : Int32)).toInt = t
  by_cases c : t < 0 ∨ 52 < t
  · rw [if_pos c]
    exact ⟨A, μ, cx, rfl, by omega, hA, hC, hI⟩
  rw [if_neg c]
  by_cases c0 : t = 0
  · rw [if_pos c0]
    exact rnd_0 hp hp2 hA hC hI
  rw [if_neg c0]
  by_cases c1 : t = 1
  · rw [if_pos c1]
    exact rnd_1 hp hp2 hA hC hI
  rw [if_neg c1]
  by_cases c2 : t = 2
  · rw [if_pos c2]
    exact rnd_2 hp hp2 hA hC hI
  rw [if_neg c2]
  by_cases c3 : t = 3
  · rw [if_pos c3]
    exact rnd_3 hp hp2 hA hC hI
  rw [if_neg c3]
  by_cases c4 : t = 4
  · rw [if_pos c4]
    exact rnd_4 hp hp2 hA hC hI
  rw [if_neg c4]
  by_cases c5 : t = 5
  · rw [if_pos c5]
    exact rnd_5 hp hp2 hA hC hI
  rw [if_neg c5]
  by_cases c6 : t = 6
  · rw [if_pos c6]
    exact rnd_6 hp hp2 hA hC hI
  rw [if_neg c6]
  by_cases c7 : t = 7
  · rw [if_pos c7]
    exact rnd_7 hp hp2 hA hC hI
  rw [if_neg c7]
  by_cases c8 : t = 8
  · rw [if_pos c8]
    exact rnd_8 hp hp2 hA hC hI
  rw [if_neg c8]
  by_cases c9 : t = 9
  · rw [if_pos c9]
    exact rnd_9 hp hp2 hA hC hI
  rw [if_neg c9]
  by_cases c10 : t = 10
  · rw [if_pos c10]
    exact rnd_10 hp hp2 hA hC hI
  rw [if_neg c10]
  by_cases c11 : t = 11
  · rw [if_pos c11]
    exact rnd_11 hp hp2 hA hC hI
  rw [if_neg c11]
  by_cases c12 : t = 12
  · rw [if_pos c12]
    exact rnd_12 hp hp2 hA hC hI
  rw [if_neg c12]
  by_cases c13 : t = 13
  · rw [if_pos c13]
    exact rnd_13 hp hp2 hA hC hI
  rw [if_neg c13]
  by_cases c14 : t = 14
  · rw [if_pos c14]
    exact rnd_14 hp hp2 hA hC hI
  rw [if_neg c14]
  by_cases c15 : t = 15
  · rw [if_pos c15]
    exact rnd_15 hp hp2 hA hC hI
  rw [if_neg c15]
  by_cases c16 : t = 16
  · rw [if_pos c16]
    exact rnd_16 hp hp2 hA hC hI
  rw [if_neg c16]
  by_cases c17 : t = 17
  · rw [if_pos c17]
    exact rnd_17 hp hp2 hA hC hI
  rw [if_neg c17]
  by_cases c18 : t = 18
  · rw [if_pos c18]
    exact rnd_18 hp hp2 hA hC hI
  rw [if_neg c18]
  by_cases c19 : t = 19
  · rw [if_pos c19]
    exact rnd_19 hp hp2 hA hC hI
  rw [if_neg c19]
  by_cases c20 : t = 20
  · rw [if_pos c20]
    exact rnd_20 hp hp2 hA hC hI
  rw [if_neg c20]
  by_cases c21 : t = 21
  · rw [if_pos c21]
    exact rnd_21 hp hp2 hA hC hI
  rw [if_neg c21]
  by_cases c22 : t = 22
  · rw [if_pos c22]
    exact rnd_22 hp hp2 hA hC hI
  rw [if_neg c22]
  by_cases c23 : t = 23
  · rw [if_pos c23]
    exact rnd_23 hp hp2 hA hC hI
  rw [if_neg c23]
  by_cases c24 : t = 24
  · rw [if_pos c24]
    exact rnd_24 hp hp2 hA hC hI
  rw [if_neg c24]
  by_cases c25 : t = 25
  · rw [if_pos c25]
    exact rnd_25 hp hp2 hA hC hI
  rw [if_neg c25]
  by_cases c26 : t = 26
  · rw [if_pos c26]
    exact rnd_26 hp hp2 hA hC hI
  rw [if_neg c26]
  by_cases c27 : t = 27
  · rw [if_pos c27]
    exact rnd_27 hp hp2 hA hC hI
  rw [if_neg c27]
  by_cases c28 : t = 28
  · rw [if_pos c28]
    exact rnd_28 hp hp2 hA hC hI
  rw [if_neg c28]
  by_cases c29 : t = 29
  · rw [if_pos c29]
    exact rnd_29 hp hp2 hA hC hI
  rw [if_neg c29]
  by_cases c30 : t = 30
  · rw [if_pos c30]
    exact rnd_30 hp hp2 hA hC hI
  rw [if_neg c30]
  by_cases c31 : t = 31
  · rw [if_pos c31]
    exact rnd_31 hp hp2 hA hC hI
  rw [if_neg c31]
  by_cases c32 : t = 32
  · rw [if_pos c32]
    exact rnd_32 hp hp2 hA hC hI
  rw [if_neg c32]
  by_cases c33 : t = 33
  · rw [if_pos c33]
    exact rnd_33 hp hp2 hA hC hI
  rw [if_neg c33]
  by_cases c34 : t = 34
  · rw [if_pos c34]
    exact rnd_34 hp hp2 hA hC hI
  rw [if_neg c34]
  by_cases c35 : t = 35
  · rw [if_pos c35]
    exact rnd_35 hp hp2 hA hC hI
  rw [if_neg c35]
  by_cases c36 : t = 36
  · rw [if_pos c36]
    exact rnd_36 hp hp2 hA hC hI
  rw [if_neg c36]
  by_cases c37 : t = 37
  · rw [if_pos c37]
    exact rnd_37 hp hp2 hA hC hI
  rw [if_neg c37]
  by_cases c38 : t = 38
  · rw [if_pos c38]
    exact rnd_38 hp hp2 hA hC hI
  rw [if_neg c38]
  by_cases c39 : t = 39
  · rw [if_pos c39]
    exact rnd_39 hp hp2 hA hC hI
  rw [if_neg c39]
  by_cases c40 : t = 40
  · rw [if_pos c40]
    exact rnd_40 hp hp2 hA hC hI
  rw [if_neg c40]
  by_cases c41 : t = 41
  · rw [if_pos c41]
    exact rnd_41 hp hp2 hA hC hI
  rw [if_neg c41]
  by_cases c42 : t = 42
  · rw [if_pos c42]
    exact rnd_42 hp hp2 hA hC hI
  rw [if_neg c42]
  by_cases c43 : t = 43
  · rw [if_pos c43]
    exact rnd_43 hp hp2 hA hC hI
  rw [if_neg c43]
  by_cases c44 : t = 44
  · rw [if_pos c44]
    exact rnd_44 hp hp2 hA hC hI
  rw [if_neg c44]
  by_cases c45 : t = 45
  · rw [if_pos c45]
    exact rnd_45 hp hp2 hA hC hI
  rw [if_neg c45]
  by_cases c46 : t = 46
  · rw [if_pos c46]
    exact rnd_46 hp hp2 hA hC hI
  rw [if_neg c46]
  by_cases c47 : t = 47
  · rw [if_pos c47]
    exact rnd_47 hp hp2 hA hC hI
  rw [if_neg c47]
  by_cases c48 : t = 48
  · rw [if_pos c48]
    exact rnd_48 hp hp2 hA hC hI
  rw [if_neg c48]
  by_cases c49 : t = 49
  · rw [if_pos c49]
    exact rnd_49 hp hp2 hA hC hI
  rw [if_neg c49]
  by_cases c50 : t = 50
  · rw [if_pos c50]
    exact rnd_50 hp hp2 hA hC hI
  rw [if_neg c50]
  by_cases c51 : t = 51
  · rw [if_pos c51]
    exact rnd_51 hp hp2 hA hC hI
  rw [if_neg c51]
  exact rnd_52 hp hp2 hA hC hI
theorem law_loop (hL : L ≤ 1536) : ∀ (f n : Nat) (i : Int) (μ : mMm) (cx : Nat) (A : AS), (L : Int) - i ≤ 3 * f + 2 → f < n → 0 ≤ i → i ≤ 1600 → AW A → CI μ.1 A → RI μ.1 A → ∃ μ' cx', lL_law_23 L xs oS n μ cx 0 74 83 (ii i) = some ((1 : Int32), oS, μ', cx') ∧ cx' ≤ cx + f := by
  intro f
  induction f with
  | zero =>
    intro n i μ cx A h1 h2 h3 h4 hA hC hI
    obtain ⟨n, rfl⟩ : ∃ k, n = k + 1 := ⟨n - 1, by omega⟩
    refine ⟨μ, cx, ?_, by omega⟩
    rw [lL_law_23, if_pos ((law_out hL h3 (by omega)).mpr (by omega))]
  | succ f ih =>
    intro n i μ cx A h1 h2 h3 h4 hA hC hI
    obtain ⟨n, rfl⟩ : ∃ k, n = k + 1 := ⟨n - 1, by omega⟩
    push_cast at h1
    by_cases c : i + 2 < L
    · obtain ⟨A', μ', cx', g1, g2, g3, g4, g5⟩ := law_step (μ := μ) (cx := cx) (xs := xs) (n := n) h3 c hL hA hC hI
      obtain ⟨μ2, cx2, q1, q2⟩ := ih n (i + 3) μ' cx' A' (by omega) (by omega) (by omega) (by omega) g3 g4 g5
      refine ⟨μ2, cx2, ?_, by omega⟩
      rw [g1, k3, ii_add]
      exact q1
    · refine ⟨μ, cx, ?_, by omega⟩
      rw [lL_law_23, if_pos ((law_out hL h3 (by omega)).mpr (by omega))]
theorem law_pure : ∀ (L : Nat) (xs : Nat → Int32), L ≤ 1536 → ∃ S μ cx, fL_law L xs mS0 mM0 0 = some (1, S, μ, cx) ∧ mN S + cx ≤ 601024 ∧ mTot S + 6 * cx ≤ 7293034 := by
  intro L xs hL
  obtain ⟨μ', cx', h, hc⟩ := law_loop (L := L) (xs := xs) hL 512 FU 0 oM 0 A0 (by omega) (by decide) (by omega) (by omega) AW_0 CI_0 RI_0
  have e1 := oMN.2.2.2.1
  have e2 := oMN.2.2.2.2
  refine ⟨oS, μ', cx', ?_, by rw [e1]; omega, by rw [e2]; omega⟩
  rw [law_eq]
  exact h
