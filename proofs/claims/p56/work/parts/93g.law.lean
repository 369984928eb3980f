/-! a round of the law -/
def STP (kk60 : mSh → mMm → Nat → Nat → Nat → Nat → Nat → Nat → Int32 → Option (Int32 × mSh × mMm × Nat)) (r : Option (Int32 × mSh × mMm × Nat)) (S : mSh) (cx : Nat) (e : Int) : Prop := ∃ S' m' z' c A', r = kk60 S' (m', z') c 0 74 75 76 77 (ii (e + 1)) ∧ LI S' m' A' ∧ mN S' ≤ mN S + 1 ∧ mTot S' ≤ mTot S + 40 ∧ c ≤ cx + 10
theorem law_988 {kk60 : mSh → mMm → Nat → Nat → Nat → Nat → Nat → Nat → Int32 → Option (Int32 × mSh × mMm × Nat)} {L : Nat} {xs : Nat → Int32} {S S0 : mSh} {μ : mMm} {cx cx0 : Nat} {A : AS} {e : Int} {x7 : Int32} (hI : LI S μ.1 A) (hN : mN S < 900) (e0 : 0 ≤ e) (e1 : e < 90) (b1 : mN S ≤ mN S0 + 1) (b2 : mTot S ≤ mTot S0 + 40) (b3 : cx ≤ cx0 + 3) : STP kk60 (lL_law_988 kk60 L xs S μ cx 0 74 75 76 77 (ii e) x7 (ii 1)) S0 cx0 e := by
  have h78 := hI.1.2.1
  have v1 : mvk S [some (.ref 1000), some (.ref 0), some (.ref 74), some (.ref 75), some (.ref 76), some (.ref 77), some (.int (ii e)), some (.int x7), none, none, none, none, none, none] [] = true := by
    simp [mvk, mvkO, mvk1]
    exact ⟨Nat.lt_of_lt_of_le (by decide) h78, Nat.lt_of_lt_of_le (by decide) h78, Nat.lt_of_lt_of_le (by decide) h78, Nat.lt_of_lt_of_le (by decide) h78, Nat.lt_of_lt_of_le (by decide) h78⟩
  have v2 : mvk S [some (.ref 1000), some (.ref 0), some (.ref 74), some (.ref 75), some (.ref 76), some (.ref 77), some (.int (ii e)), none, none, none, none, none, none, none] [] = true := by
    simp [mvk, mvkO, mvk1]
    exact ⟨Nat.lt_of_lt_of_le (by decide) h78, Nat.lt_of_lt_of_le (by decide) h78, Nat.lt_of_lt_of_le (by decide) h78, Nat.lt_of_lt_of_le (by decide) h78, Nat.lt_of_lt_of_le (by decide) h78⟩
  obtain ⟨m1, z1, s1, I1⟩ := sack_at (cx := cx) hI (by omega)
  have r1 : (if mvk S [some (.ref 1000), some (.ref 0), some (.ref 74), some (.ref 75), some (.ref 76), some (.ref 77), some (.int (ii e)), some (.int x7), none, none, none, none, none, none] [] = true then fgt S (fL_sack S μ cx 0 74 75 76 77) else none) = some (ii 1, (m1, z1), cx + 1) := by rw [if_pos v1, s1]
  have h10 : ¬ (ii 1 : Int32) = 0 := by decide +kernel
  have hm : dRem (ii e) 4 = some (ii (e % 4)) := dRem_at (n := 4) e0 (by omega) (by omega) (by omega)
  by_cases h3 : e % 4 = 3
  · obtain ⟨m2, t1, I2⟩ := text_at (μ := (m1, z1)) I1
    obtain ⟨w, w0, w1, hw⟩ := low_at (x7 >>> (17 &&& 31)) (n := 32) (by omega) (by omega)
    have hw : fL_low (x7 >>> (17 &&& 31)) 32 = some (ii w) := hw
    obtain ⟨m3, z3, c1, I3⟩ := costsOf_at (μ := (m2, z1)) (cx := cx + 1) (w := 1 + w) I2 hN (by omega) (by omega)
    have r2 : (if mvk S [some (.ref 1000), some (.ref 0), some (.ref 74), some (.ref 75), some (.ref 76), some (.ref 77), some (.int (ii e)), none, none, none, none, none, none, none] [] = true then fgt S (fL_costsOf S (m2, z1) (cx + 1) 0 74 77 (1 + ii w)) else none) = some (ii 1, (m3, z3), cx + 1 + 6) := by
      rw [if_pos v2, k1, ii_add, c1]
    refine ⟨S, m3, z3, cx + 1 + 6, A, ?_, I3, b1, b2, by omega⟩
    have f1 : ∀ m z c, lL_law_1048 kk60 L xs S (m, z) c 0 74 75 76 77 (ii e) = kk60 S (m, z) c 0 74 75 76 77 (ii (e + 1)) := fun m z c => by
      unfold lL_law_1048
      rw [k1, ii_add]
    unfold lL_law_988
    rw [if_neg h10, r1, Option.bind_some]
    show (if ii 1 = 0 then _ else (dRem (ii e) 4).bind _) = _
    rw [if_neg h10, hm, Option.bind_some, if_pos (show (ii (e % 4) : Int32) = 3 by rw [h3]; rfl)]
    show (fL_text S (m1, z1) 0 74 77).bind _ = _
    rw [t1, Option.bind_some]
    show (if ii 1 = 0 then _ else (fL_low (x7 >>> (17 &&& 31)) 32).bind _) = _
    rw [if_neg h10, hw, Option.bind_some]
    show (if mvk S [some (.ref 1000), some (.ref 0), some (.ref 74), some (.ref 75), some (.ref 76), some (.ref 77), some (.int (ii e)), none, none, none, none, none, none, none] [] = true then fgt S (fL_costsOf S (m2, z1) (cx + 1) 0 74 77 (1 + ii w)) else none).bind _ = _
    rw [r2, Option.bind_some]
    show (if ii 1 = 0 then _ else lL_law_1048 kk60 L xs S (m3, z3) (cx + 1 + 6) 0 74 75 76 77 (ii e)) = _
    rw [if_neg h10, f1]
  · refine ⟨S, m1, z1, cx + 1, A, ?_, I1, b1, b2, by omega⟩
    unfold lL_law_988
    rw [if_neg h10, r1, Option.bind_some]
    show (if ii 1 = 0 then _ else (dRem (ii e) 4).bind _) = _
    rw [if_neg h10, hm, Option.bind_some, if_neg (show ¬ (ii (e % 4) : Int32) = 3 by rw [k3, ii_eq (by omega) (by omega) (by omega) (by omega)]; exact h3)]
    show lL_law_1048 kk60 L xs S (m1, z1) (cx + 1) 0 74 75 76 77 (ii e) = _
    unfold lL_law_1048
    rw [k1, ii_add]
theorem LI_mk {S : mSh} {m1 m' : Nat → Nat → Int32} {A : AS} (hS : LSh S) (hA : AW A) (hC : CI m1 A) (hf : ∀ a, a < 74 → m' a = m1 a) (hQ : RQ m' A.v) (hX : RX m' A.v) (hR : RDV m' 75 76 (A.v 6) (tkD A.v) (tkV A.v)) : LI S m' A := ⟨hS, hA, CI_fr (fun b hb => hf b (by omega)) hC, hQ, hX, hR⟩
theorem RQ_st {m : Nat → Nat → Int32} {v w : Int → Int} {j0 y : Int} (h : RQ m v) (h0 : 0 ≤ j0) (hw : w j0 = y) (hw2 : ∀ j, 0 ≤ j → j < 7 → j ≠ j0 → w j = v j) : RQ (u2 m 77 j0.toNat (ii y)) w := by
  intro j q0 q1
  by_cases hj : j = j0
  · subst hj
    rw [hw]
    exact u2_same
  · rw [hw2 j q0 q1 hj, u2_off (Or.inr (by omega))]
    exact h j q0 q1
theorem RX_ext {m : Nat → Nat → Int32} {v w : Int → Int} (h : RX m v) (h0 : w 0 ≤ v 0) (hw : ∀ k, 0 ≤ k → k < w 0 → tx w k = tx v k) : RX m w := fun k q0 q1 => by
  rw [hw k q0 q1]
  exact h k q0 (by omega)
theorem RDV_ext {m : Nat → Nat → Int32} {k l : Int} {D V D' V' : Int → Int} (h : RDV m 75 76 k D V) (hl : l ≤ k) (hD : ∀ j, 0 ≤ j → j < l → D' j = D j) (hV : ∀ j, 0 ≤ j → j < l → V' j = V j) : RDV m 75 76 l D' V' := fun j q0 q1 => by
  rw [hD j q0 q1, hV j q0 q1]
  exact h j q0 (by omega)
theorem RDV_fr {m m' : Nat → Nat → Int32} {k : Int} {D V : Int → Int} (h : RDV m 75 76 k D V) (h5 : m' 75 = m 75) (h6 : m' 76 = m 76) : RDV m' 75 76 k D V := fun j q0 q1 => by
  rw [h5, h6]
  exact h j q0 q1
/-! letters that come -/
section LAWK
variable {kk60 : mSh → mMm → Nat → Nat → Nat → Nat → Nat → Nat → Int32 → Option (Int32 × mSh × mMm × Nat)} {L : Nat} {xs : Nat → Int32} {S : mSh} {μ : mMm} {cx : Nat} {A : AS} {e : Int} {x7 : Int32}
theorem law_167 {q : Int} (hI : LI S μ.1 A) (hN : mN S < 900) (e0 : 0 ≤ e) (e1 : e < 90) (q0 : 0 ≤ q) (q1 : q ≤ 3) : STP kk60 (lL_law_167 kk60 L xs S μ cx 0 74 75 76 77 (ii e) x7 (ii q)) S cx e := by
  have hI0 := hI
  obtain ⟨hS, hA, hC, hQ, hX, hR⟩ := hI
  have hS1 := hS
  obtain ⟨-, -, ⟨o74, n74⟩, -, -, o77, n77⟩ := hS
  have hW := hA.1
  have g0 := wf_0 hW
  have z0 := hQ 0 (by omega) (by omega)
  by_cases hf : A.v 0 < 40
  · obtain ⟨m1, a1, a2, a3⟩ := cT_at (μ := μ) hS1 (cAddLetter hA hC ⟨q0, q1⟩ hf)
    have hadd : fL_add S μ 0 (ii q) = some (ii (A.v 0 + 1), (m1, μ.2), 0) := by
      unfold fL_add
      rw [a1]
      rfl
    have z1 : m1 77 (0 : Int).toNat = ii (A.v 0) := by rw [a2 77 (by omega)]; exact z0
    have hJ : LI S (u2 (u2 m1 74 (A.v 0).toNat (ii q)) 77 (0 : Int).toNat (ii (A.v 0 + 1))) (chg A (upI (upI A.v (10 + A.v 0) q) 0 (A.v 0 + 1))) := by
      refine LI_mk hS1 (AW_chg hA (WF_put hW hf q0 q1)) a3 (fun a ha => (u2_offr (by omega)).trans (u2_offr (by omega))) ?_ ?_ ?_
      · show RQ _ (upI (upI A.v (10 + A.v 0) q) 0 (A.v 0 + 1))
        refine RQ_st (v := A.v) (RQ_fr ((u2_offr (by omega)).trans (a2 77 (by omega))) hQ) (by omega) (upI_at rfl) (fun j j0 j1 jn => ?_)
        rw [upI_n jn, upI_n (by omega)]
      · show RX _ (upI (upI A.v (10 + A.v 0) q) 0 (A.v 0 + 1))
        intro k k0 k1
        have k1 : k < A.v 0 + 1 := k1
        rw [u2_off (Or.inl (by omega)), tx_n (by omega)]
        by_cases hk : k = A.v 0
        · rw [hk, tx_s rfl]
          exact u2_same
        · rw [tx_n (by omega), u2_off (Or.inr (by omega)), a2 74 (by omega)]
          exact hX k k0 (by omega)
      · show RDV _ 75 76 (upI (upI A.v (10 + A.v 0) q) 0 (A.v 0 + 1) 6) _ _
        rw [upI_n (by omega), upI_n (by omega)]
        refine RDV_ext (RDV_fr hR ?_ ?_) (Int.le_refl _) (fun j j0 j1 => ?_) (fun j j0 j1 => ?_)
        · exact (u2_offr (by omega)).trans ((u2_offr (by omega)).trans (a2 75 (by omega)))
        · exact (u2_offr (by omega)).trans ((u2_offr (by omega)).trans (a2 76 (by omega)))
        · show tkD (upI (upI A.v (10 + A.v 0) q) 0 (A.v 0 + 1)) j = _
          rw [tD_n (by omega), tD_n (by omega)]
        · show tkV (upI (upI A.v (10 + A.v 0) q) 0 (A.v 0 + 1)) j = _
          rw [tV_n (by omega), tV_n (by omega)]
    have ee : lL_law_167 kk60 L xs S μ cx 0 74 75 76 77 (ii e) x7 (ii q) = lL_law_988 kk60 L xs S (u2 (u2 m1 74 (A.v 0).toNat (ii q)) 77 (0 : Int).toNat (ii (A.v 0 + 1)), μ.2) (cx + 0) 0 74 75 76 77 (ii e) x7 (ii 1) := by
      have f1 : lL_law_215 kk60 L xs S (m1, μ.2) (cx + 0) 0 74 75 76 77 (ii e) x7 (ii q) (ii 1) (ii 1) = lL_law_988 kk60 L xs S (u2 (u2 m1 74 (A.v 0).toNat (ii q)) 77 (0 : Int).toNat (ii (A.v 0 + 1)), μ.2) (cx + 0) 0 74 75 76 77 (ii e) x7 (ii 1) := by
        simp (disch := omega) only [Option.bind_some, km102, km101, km10, km1, k0, k1, k2, k3, k4, k5, k6, k7, k8, k9, k10, k11, k12, k13, k14, k15, k16, k17, k20, k22, k31, k32, k33, k39, k40, k43, k44, k45, k48, k49, k50, k51, k52, k57, k59, k60, k63, k64, k80, k90, k97, k100, k101, k108, k112, k114, k117, k126, k130, k650, k1000, k100000, k1000000, k15485863, k32452867, k2147483647, ii_add, ii_sub, ii_neg, ii_mul, ii_lt, ii_le, ii_eq, if_true, if_false, if_pos, if_neg, lL_law_215, lL_law_238, ldI_at o77 n77, stI_at o77 n77, stI_at o74 n74, z1, u2_off]
      have f2 : lL_law_207 kk60 L xs S (m1, μ.2) (cx + 0) 0 74 75 76 77 (ii e) x7 (ii q) (ii 1) (ii (A.v 0 + 1)) (ii (A.v 0 + 1)) = lL_law_988 kk60 L xs S (u2 (u2 m1 74 (A.v 0).toNat (ii q)) 77 (0 : Int).toNat (ii (A.v 0 + 1)), μ.2) (cx + 0) 0 74 75 76 77 (ii e) x7 (ii 1) := by
        simp (disch := omega) only [Option.bind_some, km102, km101, km10, km1, k0, k1, k2, k3, k4, k5, k6, k7, k8, k9, k10, k11, k12, k13, k14, k15, k16, k17, k20, k22, k31, k32, k33, k39, k40, k43, k44, k45, k48, k49, k50, k51, k52, k57, k59, k60, k63, k64, k80, k90, k97, k100, k101, k108, k112, k114, k117, k126, k130, k650, k1000, k100000, k1000000, k15485863, k32452867, k2147483647, ii_add, ii_sub, ii_neg, ii_mul, ii_lt, ii_le, ii_eq, if_true, if_false, if_pos, if_neg, lL_law_207]
        exact f1
      have f3 : lL_law_183 kk60 L xs S μ cx 0 74 75 76 77 (ii e) x7 (ii q) (ii 1) = lL_law_988 kk60 L xs S (u2 (u2 m1 74 (A.v 0).toNat (ii q)) 77 (0 : Int).toNat (ii (A.v 0 + 1)), μ.2) (cx + 0) 0 74 75 76 77 (ii e) x7 (ii 1) := by
        simp (disch := omega) only [Option.bind_some, km102, km101, km10, km1, k0, k1, k2, k3, k4, k5, k6, k7, k8, k9, k10, k11, k12, k13, k14, k15, k16, k17, k20, k22, k31, k32, k33, k39, k40, k43, k44, k45, k48, k49, k50, k51, k52, k57, k59, k60, k63, k64, k80, k90, k97, k100, k101, k108, k112, k114, k117, k126, k130, k650, k1000, k100000, k1000000, k15485863, k32452867, k2147483647, ii_add, ii_sub, ii_neg, ii_mul, ii_lt, ii_le, ii_eq, if_true, if_false, if_pos, if_neg, lL_law_183, hadd, ldI_at o77 n77, z1]
        exact f2
      simp (disch := omega) only [Option.bind_some, km102, km101, km10, km1, k0, k1, k2, k3, k4, k5, k6, k7, k8, k9, k10, k11, k12, k13, k14, k15, k16, k17, k20, k22, k31, k32, k33, k39, k40, k43, k44, k45, k48, k49, k50, k51, k52, k57, k59, k60, k63, k64, k80, k90, k97, k100, k101, k108, k112, k114, k117, k126, k130, k650, k1000, k100000, k1000000, k15485863, k32452867, k2147483647, ii_add, ii_sub, ii_neg, ii_mul, ii_lt, ii_le, ii_eq, if_true, if_false, if_pos, if_neg, lL_law_167, ldI_at o77 n77, z0]
      exact f3
    rw [ee]
    exact law_988 hJ hN e0 e1 (by omega) (by omega) (by omega)
  · obtain ⟨m1, a1, a2, a3⟩ := cT_at (μ := μ) hS1 (cAddLetter_1 hA hC ⟨q0, q1⟩ hf)
    have hadd : fL_add S μ 0 (ii q) = some (ii (-102), (m1, μ.2), 1) := by
      unfold fL_add
      rw [a1]
      rfl
    have hJ : LI S m1 A := LI_c hI0 (fun a h _ => a2 a h) a3
    have ee : lL_law_167 kk60 L xs S μ cx 0 74 75 76 77 (ii e) x7 (ii q) = lL_law_988 kk60 L xs S (m1, μ.2) (cx + 1) 0 74 75 76 77 (ii e) x7 (ii 1) := by
      have f2 : lL_law_207 kk60 L xs S (m1, μ.2) (cx + 1) 0 74 75 76 77 (ii e) x7 (ii q) (ii 0) (ii (-102)) (ii (-102)) = lL_law_988 kk60 L xs S (m1, μ.2) (cx + 1) 0 74 75 76 77 (ii e) x7 (ii 1) := by
        simp (disch := omega) only [Option.bind_some, km102, km101, km10, km1, k0, k1, k2, k3, k4, k5, k6, k7, k8, k9, k10, k11, k12, k13, k14, k15, k16, k17, k20, k22, k31, k32, k33, k39, k40, k43, k44, k45, k48, k49, k50, k51, k52, k57, k59, k60, k63, k64, k80, k90, k97, k100, k101, k108, k112, k114, k117, k126, k130, k650, k1000, k100000, k1000000, k15485863, k32452867, k2147483647, ii_add, ii_sub, ii_neg, ii_mul, ii_lt, ii_le, ii_eq, if_true, if_false, if_pos, if_neg, lL_law_207, lL_law_215, lL_law_238]
      have f3 : lL_law_183 kk60 L xs S μ cx 0 74 75 76 77 (ii e) x7 (ii q) (ii 0) = lL_law_988 kk60 L xs S (m1, μ.2) (cx + 1) 0 74 75 76 77 (ii e) x7 (ii 1) := by
        simp (disch := omega) only [Option.bind_some, km102, km101, km10, km1, k0, k1, k2, k3, k4, k5, k6, k7, k8, k9, k10, k11, k12, k13, k14, k15, k16, k17, k20, k22, k31, k32, k33, k39, k40, k43, k44, k45, k48, k49, k50, k51, k52, k57, k59, k60, k63, k64, k80, k90, k97, k100, k101, k108, k112, k114, k117, k126, k130, k650, k1000, k100000, k1000000, k15485863, k32452867, k2147483647, ii_add, ii_sub, ii_neg, ii_mul, ii_lt, ii_le, ii_eq, if_true, if_false, if_pos, if_neg, lL_law_183, hadd]
        exact f2
      simp (disch := omega) only [Option.bind_some, km102, km101, km10, km1, k0, k1, k2, k3, k4, k5, k6, k7, k8, k9, k10, k11, k12, k13, k14, k15, k16, k17, k20, k22, k31, k32, k33, k39, k40, k43, k44, k45, k48, k49, k50, k51, k52, k57, k59, k60, k63, k64, k80, k90, k97, k100, k101, k108, k112, k114, k117, k126, k130, k650, k1000, k100000, k1000000, k15485863, k32452867, k2147483647, ii_add, ii_sub, ii_neg, ii_mul, ii_lt, ii_le, ii_eq, if_true, if_false, if_pos, if_neg, lL_law_167, ldI_at o77 n77, z0]
      exact f3
    rw [ee]
    exact law_988 hJ hN e0 e1 (by omega) (by omega) (by omega)
end LAWK
