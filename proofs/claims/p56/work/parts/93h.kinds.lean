/-! the law's kinds of rounds -/
section LAWH
variable {kk60 : mSh → mMm → Nat → Nat → Nat → Nat → Nat → Nat → Int32 → Option (Int32 × mSh × mMm × Nat)} {L : Nat} {xs : Nat → Int32} {S : mSh} {μ : mMm} {cx : Nat} {A : AS} {e : Int} {x7 : Int32}
theorem kd_0 {k : Int} (hI : LI S μ.1 A) (hN : mN S < 900) (e0 : 0 ≤ e) (e1 : e < 90) (k0' : 0 ≤ k) (k9' : k < 9) : STP kk60 (lL_law_93 kk60 L xs S μ cx 0 74 75 76 77 (ii e) x7 (ii k)) S cx e := by
  have hI0 := hI
  obtain ⟨hS, hA, hC, hQ, hX, hR⟩ := hI
  have hS1 := hS
  obtain ⟨-, -, ⟨o74, n74⟩, -, -, o77, n77⟩ := hS
  have hW := hA.1
  have g0 := wf_0 hW
  have z0 := hQ 0 (by omega) (by omega)
  obtain ⟨w, w0, w1, hw⟩ := low_at (x7 >>> (5 &&& 31)) (n := 64) (by omega) (by omega)
  obtain ⟨b, b0, b1, hb⟩ := low_at (x7 >>> (11 &&& 31)) (n := 7) (by omega) (by omega)
  obtain ⟨c, c0, c1, hc⟩ := low_at (x7 >>> (14 &&& 31)) (n := 3) (by omega) (by omega)
  have hw : fL_low (x7 >>> (5 &&& 31)) 64 = some (ii w) := hw
  have hb : fL_low (x7 >>> (11 &&& 31)) 7 = some (ii b) := hb
  have hc : fL_low (x7 >>> (14 &&& 31)) 3 = some (ii c) := hc
  have hd : dRem (ii w) (ii 4) = some (ii (w % 4)) := dRem_at w0 (by omega) (by omega) (by omega)
  have h163 : STP kk60 (lL_law_163 kk60 L xs S μ cx 0 74 75 76 77 (ii e) x7 (ii w)) S cx e := by
    have := law_167 (kk60 := kk60) (L := L) (xs := xs) (cx := cx) (x7 := x7) (q := w % 4) hI0 hN e0 e1 (by omega) (by omega)
    unfold lL_law_163
    rw [show dRem (ii w) 4 = some (ii (w % 4)) from hd, Option.bind_some]
    exact this
  unfold lL_law_93
  rw [hw, Option.bind_some, if_neg (show ¬ (9 : Int32) ≤ ii k by rw [k9, ii_le (by omega) (by omega) (by omega) (by omega)]; omega), hb, Option.bind_some, hc, Option.bind_some]
  by_cases h1 : c ≤ 0
  · rw [if_pos (show ii c ≤ (0 : Int32) by rw [k0, ii_le (by omega) (by omega) (by omega) (by omega)]; omega)]
    exact h163
  · rw [if_neg (show ¬ ii c ≤ (0 : Int32) by rw [k0, ii_le (by omega) (by omega) (by omega) (by omega)]; omega)]
    rw [show ldI S μ 77 0 = some (ii (A.v 0)) from (ldI_at o77 n77 (a := 0) (by omega) (by omega) (by omega)).trans (congrArg some z0), Option.bind_some]
    by_cases h2 : A.v 0 < 1 + b
    · rw [if_pos (show ii (A.v 0) < (1 : Int32) + ii b by rw [k1, ii_add, ii_lt (by omega) (by omega) (by omega) (by omega)]; omega)]
      exact h163
    · rw [if_neg (show ¬ ii (A.v 0) < (1 : Int32) + ii b by rw [k1, ii_add, ii_lt (by omega) (by omega) (by omega) (by omega)]; omega), Option.bind_some]
      have t1 := wf_t hW (k := A.v 0 - (1 + b)) (by omega) (by omega)
      rw [show ldI S μ 74 (ii (A.v 0) - ((1 : Int32) + ii b)) = some (ii (tx A.v (A.v 0 - (1 + b)))) by
        rw [k1, ii_add, ii_sub, ldI_at o74 n74 (by omega) (by omega) (by omega)]
        exact congrArg some (hX _ (by omega) (by omega)), Option.bind_some]
      exact law_167 hI0 hN e0 e1 (by omega) (by omega)
theorem kd_9 (hI : LI S μ.1 A) (hN : mN S < 900) (e0 : 0 ≤ e) (e1 : e < 90) : STP kk60 (lL_law_93 kk60 L xs S μ cx 0 74 75 76 77 (ii e) x7 (ii 9)) S cx e := by
  have hI0 := hI
  obtain ⟨hS, hA, hC, hQ, hX, hR⟩ := hI
  have hS1 := hS
  obtain ⟨-, -, ⟨o74, n74⟩, -, -, o77, n77⟩ := hS
  have hW := hA.1
  have g0 := wf_0 hW
  have z0 := hQ 0 (by omega) (by omega)
  obtain ⟨w, w0, w1, hw⟩ := low_at (x7 >>> (5 &&& 31)) (n := 64) (by omega) (by omega)
  obtain ⟨q, q0, q1, hq⟩ := low_at (x7 >>> (11 &&& 31)) (n := 4) (by omega) (by omega)
  have hw : fL_low (x7 >>> (5 &&& 31)) 64 = some (ii w) := hw
  have hq : fL_low (x7 >>> (11 &&& 31)) 4 = some (ii q) := hq
  unfold lL_law_93
  rw [hw, Option.bind_some, if_pos (show (9 : Int32) ≤ ii 9 by decide +kernel), if_pos (show (ii 9 : Int32) = 9 from rfl)]
  rw [show ldI S μ 77 0 = some (ii (A.v 0)) from (ldI_at o77 n77 (a := 0) (by omega) (by omega) (by omega)).trans (congrArg some z0), Option.bind_some]
  by_cases h1 : A.v 0 ≤ 0
  · rw [if_pos (show ii (A.v 0) ≤ (0 : Int32) by rw [k0, ii_le (by omega) (by omega) (by omega) (by omega)]; omega)]
    exact law_988 hI0 hN e0 e1 (by omega) (by omega) (by omega)
  · rw [if_neg (show ¬ ii (A.v 0) ≤ (0 : Int32) by rw [k0, ii_le (by omega) (by omega) (by omega) (by omega)]; omega), Option.bind_some, dRem_at w0 (by omega) (show 0 < A.v 0 by omega) (by omega), Option.bind_some, hq, Option.bind_some]
    have p0 : 0 ≤ w % A.v 0 := Int.emod_nonneg _ (by omega)
    have p1 : w % A.v 0 < A.v 0 := Int.emod_lt_of_pos _ (by omega)
    generalize w % A.v 0 = p at *
    obtain ⟨m1, a1, a2, a3⟩ := cV_at (μ := μ) hS1 (cSetLetter hA hC ⟨p0, p1⟩ ⟨q0, by omega⟩)
    rw [a1, Option.bind_some]
    have xp : m1 74 p.toNat = ii (tx A.v p) := by rw [a2 74 (by omega)]; exact hX p p0 p1
    show STP kk60 ((ldI S (m1, μ.2) 74 (ii p)).bind _) S cx e
    rw [ldI_at o74 n74 p0 (by omega) (by omega), Option.bind_some]
    show STP kk60 (if ii (tx A.v p) = m1 74 p.toNat then lL_law_291 kk60 L xs S (m1, μ.2) cx 0 74 75 76 77 (ii e) x7 (ii p) 1 else _) S cx e
    rw [if_pos xp.symm]
    have hJ : LI S (u2 m1 74 p.toNat (ii q)) (chg A (upI A.v (10 + p) q)) := by
      refine LI_mk hS1 (AW_chg hA (WF_rep hW p0 p1 q0 (by omega))) a3 (fun a ha => u2_offr (by omega)) ?_ ?_ ?_
      · show RQ _ (upI A.v (10 + p) q)
        intro j j0 j1
        rw [upI_n (by omega), u2_off (Or.inl (by omega)), a2 77 (by omega)]
        exact hQ j j0 j1
      · show RX _ (upI A.v (10 + p) q)
        intro k j0 j1
        have j1 : k < upI A.v (10 + p) q 0 := j1
        rw [upI_n (by omega)] at j1
        by_cases hk : k = p
        · rw [hk, tx_s rfl]
          exact u2_same
        · rw [tx_n (by omega), u2_off (Or.inr (by omega)), a2 74 (by omega)]
          exact hX k j0 j1
      · show RDV _ 75 76 (upI A.v (10 + p) q 6) _ _
        rw [upI_n (by omega)]
        refine RDV_ext (RDV_fr hR ?_ ?_) (Int.le_refl _) (fun j j0 j1 => ?_) (fun j j0 j1 => ?_)
        · exact (u2_offr (by omega)).trans (a2 75 (by omega))
        · exact (u2_offr (by omega)).trans (a2 76 (by omega))
        · show tkD (upI A.v (10 + p) q) j = _
          rw [tD_n (by omega)]
        · show tkV (upI A.v (10 + p) q) j = _
          rw [tV_n (by omega)]
    unfold lL_law_291
    rw [hq, Option.bind_some, stI_at o74 n74 p0 (by omega) (by omega), Option.bind_some]
    exact law_988 (μ := (u2 m1 74 p.toNat (ii q), μ.2)) hJ hN e0 e1 (by omega) (by omega) (by omega)
/-- one setting, the class's and the law's -/
theorem set_I {m1 : Nat → Nat → Int32} {j0 y : Int} (hI : LI S μ.1 A) (h1 : 1 ≤ j0) (h5 : j0 ≤ 5) (hW : WF (upI A.v j0 y)) (a2 : ∀ a, 74 ≤ a → m1 a = μ.1 a) (hC : CI m1 (chg A (upI A.v j0 y))) : LI S (u2 m1 77 j0.toNat (ii y)) (chg A (upI A.v j0 y)) := by
  obtain ⟨hS, hA, -, hQ, hX, hR⟩ := hI
  refine LI_mk hS (AW_chg hA hW) hC (fun a ha => u2_offr (by omega)) ?_ ?_ ?_
  · exact RQ_st (v := A.v) (RQ_fr (a2 77 (by omega)) hQ) (by omega) (upI_at rfl) (fun j _ _ jn => upI_n jn)
  · refine RX_ext (v := A.v) (RX_fr ((u2_offr (by omega)).trans (a2 74 (by omega))) hX) ?_ (fun k k0 k1 => ?_)
    · show upI A.v j0 y 0 ≤ _
      rw [upI_n (by omega)]
      exact Int.le_refl _
    · show tx (upI A.v j0 y) k = _
      rw [tx_n (by omega)]
  · show RDV _ 75 76 (upI A.v j0 y 6) _ _
    rw [upI_n (by omega)]
    refine RDV_ext (RDV_fr hR ((u2_offr (by omega)).trans (a2 75 (by omega))) ((u2_offr (by omega)).trans (a2 76 (by omega)))) (Int.le_refl _) (fun j j0 j1 => ?_) (fun j j0 j1 => ?_)
    · show tkD (upI A.v _ y) j = _
      rw [tD_n (by omega)]
    · show tkV (upI A.v _ y) j = _
      rw [tV_n (by omega)]
theorem kd_10 (hI : LI S μ.1 A) (hN : mN S < 900) (e0 : 0 ≤ e) (e1 : e < 90) : STP kk60 (lL_law_93 kk60 L xs S μ cx 0 74 75 76 77 (ii e) x7 (ii 10)) S cx e := by
  have hI0 := hI
  obtain ⟨hS, hA, hC, hQ, hX, hR⟩ := hI
  have hS1 := hS
  obtain ⟨-, -, -, -, -, o77, n77⟩ := hS
  have hW := hA.1
  have z1 := hQ 1 (by omega) (by omega)
  obtain ⟨w, w0, w1, hw⟩ := low_at (x7 >>> (5 &&& 31)) (n := 64) (by omega) (by omega)
  have hw : fL_low (x7 >>> (5 &&& 31)) 64 = some (ii w) := hw
  have hd : dRem (ii w) 32 = some (ii (w % 32)) := dRem_at (n := 32) w0 (by omega) (by omega) (by omega)
  obtain ⟨m1, a1, a2, a3⟩ := cV_at (μ := μ) hS1 (cSetWindow (q := 1 + w % 32) hA hC (by omega))
  have zm : m1 77 (1 : Int).toNat = ii (A.v 1) := by rw [a2 77 (by omega)]; exact z1
  have hJ := set_I (j0 := 1) (y := 1 + w % 32) hI0 (by omega) (by omega) (WF_s1 hW (by omega) (by omega)) a2 a3
  unfold lL_law_93
  rw [hw, Option.bind_some, if_pos (show (9 : Int32) ≤ ii 10 by decide +kernel), if_neg (show ¬ (ii 10 : Int32) = 9 by decide +kernel), if_pos (show (ii 10 : Int32) = 10 from rfl), hd, Option.bind_some]
  rw [show (1 : Int32) + ii (w % 32) = ii (1 + w % 32) by rw [k1, ii_add], a1, Option.bind_some]
  show STP kk60 ((ldI S (m1, μ.2) 77 1).bind _) S cx e
  rw [show ldI S (m1, μ.2) 77 1 = some (ii (A.v 1)) from (ldI_at o77 n77 (a := 1) (by omega) (by omega) (by omega)).trans (congrArg some zm), Option.bind_some]
  show STP kk60 (if ii (A.v 1) = ii (A.v 1) then lL_law_339 kk60 L xs S (m1, μ.2) cx 0 74 75 76 77 (ii e) x7 (ii w) 1 else _) S cx e
  rw [if_pos rfl]
  unfold lL_law_339
  rw [hd, Option.bind_some, show (1 : Int32) + ii (w % 32) = ii (1 + w % 32) by rw [k1, ii_add], show stI S (m1, μ.2) 77 1 (ii (1 + w % 32)) = some (u2 m1 77 (1 : Int).toNat (ii (1 + w % 32)), μ.2) from stI_at o77 n77 (a := 1) (by omega) (by omega) (by omega), Option.bind_some]
  exact law_988 (μ := (u2 m1 77 (1 : Int).toNat (ii (1 + w % 32)), μ.2)) hJ hN e0 e1 (by omega) (by omega) (by omega)
theorem kd_11 (hI : LI S μ.1 A) (hN : mN S < 900) (e0 : 0 ≤ e) (e1 : e < 90) : STP kk60 (lL_law_93 kk60 L xs S μ cx 0 74 75 76 77 (ii e) x7 (ii 11)) S cx e := by
  have hI0 := hI
  obtain ⟨hS, hA, hC, hQ, hX, hR⟩ := hI
  have hS1 := hS
  obtain ⟨-, -, -, -, -, o77, n77⟩ := hS
  have hW := hA.1
  have z2 := hQ 2 (by omega) (by omega)
  have z3 := hQ 3 (by omega) (by omega)
  obtain ⟨w, w0, w1, hw⟩ := low_at (x7 >>> (5 &&& 31)) (n := 64) (by omega) (by omega)
  obtain ⟨q, q0, q1, hq⟩ := low_at (x7 >>> (11 &&& 31)) (n := 6) (by omega) (by omega)
  have hw : fL_low (x7 >>> (5 &&& 31)) 64 = some (ii w) := hw
  have hq : fL_low (x7 >>> (11 &&& 31)) 6 = some (ii q) := hq
  have hd : dRem (ii w) 3 = some (ii (w % 3)) := dRem_at (n := 3) w0 (by omega) (by omega) (by omega)
  obtain ⟨m1, a1, a2, a3⟩ := cV_at (μ := μ) hS1 (cSetShortest (q := 2 + w % 3) hA hC (by omega))
  have hJ := set_I (j0 := 2) (y := 2 + w % 3) hI0 (by omega) (by omega) (WF_s2 hW (by omega) (by omega)) a2 a3
  have hA1 : AW (chg A (upI A.v 2 (2 + w % 3))) := hJ.2.1
  obtain ⟨m2, b1, b2, b3⟩ := cV_at (μ := (m1, μ.2)) hS1 (cSetLongest (μ := (m1, μ.2)) (A := chg A (upI A.v 2 (2 + w % 3))) (q := 4 + q) hA1 a3 (by omega))
  have e3 : (chg A (upI A.v 2 (2 + w % 3))).v 3 = A.v 3 := by
    show upI A.v 2 (2 + w % 3) 3 = _
    exact upI_n (by omega)
  rw [e3] at b1
  have hb2 : ∀ a, 74 ≤ a → u2 m2 77 (2 : Int).toNat (ii (2 + w % 3)) a = u2 m1 77 (2 : Int).toNat (ii (2 + w % 3)) a := fun a ha => by
    have := b2 a ha
    funext k
    unfold u2
    rw [this]
  have hC2 : CI (u2 m2 77 (2 : Int).toNat (ii (2 + w % 3))) (chg (chg A (upI A.v 2 (2 + w % 3))) (upI (chg A (upI A.v 2 (2 + w % 3))).v 3 (4 + q))) := CI_fr (fun b hb => u2_offr (by omega)) b3
  have hJ2 := set_I (μ := (u2 m1 77 (2 : Int).toNat (ii (2 + w % 3)), μ.2)) (j0 := 3) (y := 4 + q) hJ (by omega) (by omega) (WF_s3 hA1.1 (by omega) (by omega)) hb2 hC2
  have zm : m1 77 (2 : Int).toNat = ii (A.v 2) := by rw [a2 77 (by omega)]; exact z2
  have zn : m2 77 (3 : Int).toNat = ii (A.v 3) := by rw [b2 77 (by omega)]; show m1 77 _ = _; rw [a2 77 (by omega)]; exact z3
  unfold lL_law_93
  rw [hw, Option.bind_some, if_pos (show (9 : Int32) ≤ ii 11 by decide +kernel), if_neg (show ¬ (ii 11 : Int32) = 9 by decide +kernel), if_neg (show ¬ (ii 11 : Int32) = 10 by decide +kernel), if_pos (show (ii 11 : Int32) = 11 from rfl), hd, Option.bind_some]
  rw [show (2 : Int32) + ii (w % 3) = ii (2 + w % 3) by rw [k2, ii_add], a1, Option.bind_some]
  show STP kk60 ((ldI S (m1, μ.2) 77 2).bind _) S cx e
  rw [show ldI S (m1, μ.2) 77 2 = some (ii (A.v 2)) from (ldI_at o77 n77 (a := 2) (by omega) (by omega) (by omega)).trans (congrArg some zm), Option.bind_some, if_pos rfl, hq, Option.bind_some]
  show STP kk60 ((cV oS S (m1, μ.2) (fX10_setLongest oS (m1, μ.2) 0 (4 + ii q))).bind _) S cx e
  rw [show (4 : Int32) + ii q = ii (4 + q) by rw [k4, ii_add], b1, Option.bind_some]
  show STP kk60 ((ldI S (m2, μ.2) 77 3).bind _) S cx e
  rw [show ldI S (m2, μ.2) 77 3 = some (ii (A.v 3)) from (ldI_at o77 n77 (a := 3) (by omega) (by omega) (by omega)).trans (congrArg some zn), Option.bind_some]
  show STP kk60 (if ii (A.v 3) = ii (A.v 3) then lL_law_407 kk60 L xs S (m2, μ.2) cx 0 74 75 76 77 (ii e) x7 (ii w) 1 else _) S cx e
  rw [if_pos rfl]
  unfold lL_law_407
  rw [hd, Option.bind_some, show (2 : Int32) + ii (w % 3) = ii (2 + w % 3) by rw [k2, ii_add], show stI S (m2, μ.2) 77 2 (ii (2 + w % 3)) = some (u2 m2 77 (2 : Int).toNat (ii (2 + w % 3)), μ.2) from stI_at o77 n77 (a := 2) (by omega) (by omega) (by omega), Option.bind_some, hq, Option.bind_some, show (4 : Int32) + ii q = ii (4 + q) by rw [k4, ii_add], show stI S (u2 m2 77 (2 : Int).toNat (ii (2 + w % 3)), μ.2) 77 3 (ii (4 + q)) = some (u2 (u2 m2 77 (2 : Int).toNat (ii (2 + w % 3))) 77 (3 : Int).toNat (ii (4 + q)), μ.2) from stI_at o77 n77 (a := 3) (by omega) (by omega) (by omega), Option.bind_some]
  exact law_988 (μ := (u2 (u2 m2 77 (2 : Int).toNat (ii (2 + w % 3))) 77 (3 : Int).toNat (ii (4 + q)), μ.2)) hJ2 hN e0 e1 (by omega) (by omega) (by omega)
theorem kd_12 (hI : LI S μ.1 A) (hN : mN S < 900) (e0 : 0 ≤ e) (e1 : e < 90) : STP kk60 (lL_law_93 kk60 L xs S μ cx 0 74 75 76 77 (ii e) x7 (ii 12)) S cx e := by
  have hI0 := hI
  obtain ⟨hS, hA, hC, hQ, hX, hR⟩ := hI
  have hS1 := hS
  obtain ⟨-, -, -, -, -, o77, n77⟩ := hS
  have hW := hA.1
  have z2 := hQ 4 (by omega) (by omega)
  have z3 := hQ 5 (by omega) (by omega)
  obtain ⟨w, w0, w1, hw⟩ := low_at (x7 >>> (5 &&& 31)) (n := 64) (by omega) (by omega)
  obtain ⟨q, q0, q1, hq⟩ := low_at (x7 >>> (11 &&& 31)) (n := 20) (by omega) (by omega)
  have hw : fL_low (x7 >>> (5 &&& 31)) 64 = some (ii w) := hw
  have hq : fL_low (x7 >>> (11 &&& 31)) 20 = some (ii q) := hq
  have hd : dRem (ii w) 9 = some (ii (w % 9)) := dRem_at (n := 9) w0 (by omega) (by omega) (by omega)
  obtain ⟨m1, a1, a2, a3⟩ := cV_at (μ := μ) hS1 (cSetLetterPrice (q := 1 + w % 9) hA hC (by omega))
  have hJ := set_I (j0 := 4) (y := 1 + w % 9) hI0 (by omega) (by omega) (WF_s4 hW (by omega) (by omega)) a2 a3
  have hA1 : AW (chg A (upI A.v 4 (1 + w % 9))) := hJ.2.1
  obtain ⟨m2, b1, b2, b3⟩ := cV_at (μ := (m1, μ.2)) hS1 (cSetRepeatPrice (μ := (m1, μ.2)) (A := chg A (upI A.v 4 (1 + w % 9))) (q := 1 + q) hA1 a3 (by omega))
  have e3 : (chg A (upI A.v 4 (1 + w % 9))).v 5 = A.v 5 := by
    show upI A.v 4 (1 + w % 9) 5 = _
    exact upI_n (by omega)
  rw [e3] at b1
  have hb2 : ∀ a, 74 ≤ a → u2 m2 77 (4 : Int).toNat (ii (1 + w % 9)) a = u2 m1 77 (4 : Int).toNat (ii (1 + w % 9)) a := fun a ha => by
    have := b2 a ha
    funext k
    unfold u2
    rw [this]
  have hC2 : CI (u2 m2 77 (4 : Int).toNat (ii (1 + w % 9))) (chg (chg A (upI A.v 4 (1 + w % 9))) (upI (chg A (upI A.v 4 (1 + w % 9))).v 5 (1 + q))) := CI_fr (fun b hb => u2_offr (by omega)) b3
  have hJ2 := set_I (μ := (u2 m1 77 (4 : Int).toNat (ii (1 + w % 9)), μ.2)) (j0 := 5) (y := 1 + q) hJ (by omega) (by omega) (WF_s5 hA1.1 (by omega) (by omega)) hb2 hC2
  have zm : m1 77 (4 : Int).toNat = ii (A.v 4) := by rw [a2 77 (by omega)]; exact z2
  have zn : m2 77 (5 : Int).toNat = ii (A.v 5) := by rw [b2 77 (by omega)]; show m1 77 _ = _; rw [a2 77 (by omega)]; exact z3
  unfold lL_law_93
  rw [hw, Option.bind_some, if_pos (show (9 : Int32) ≤ ii 12 by decide +kernel), if_neg (show ¬ (ii 12 : Int32) = 9 by decide +kernel), if_neg (show ¬ (ii 12 : Int32) = 10 by decide +kernel), if_neg (show ¬ (ii 12 : Int32) = 11 by decide +kernel), if_pos (show (ii 12 : Int32) = 12 from rfl), hd, Option.bind_some]
  rw [show (1 : Int32) + ii (w % 9) = ii (1 + w % 9) by rw [k1, ii_add], a1, Option.bind_some]
  show STP kk60 ((ldI S (m1, μ.2) 77 4).bind _) S cx e
  rw [show ldI S (m1, μ.2) 77 4 = some (ii (A.v 4)) from (ldI_at o77 n77 (a := 4) (by omega) (by omega) (by omega)).trans (congrArg some zm), Option.bind_some, if_pos rfl, hq, Option.bind_some]
  show STP kk60 ((cV oS S (m1, μ.2) (fX10_setRepeatPrice oS (m1, μ.2) 0 (1 + ii q))).bind _) S cx e
  rw [show (1 : Int32) + ii q = ii (1 + q) by rw [k1, ii_add], b1, Option.bind_some]
  show STP kk60 ((ldI S (m2, μ.2) 77 5).bind _) S cx e
  rw [show ldI S (m2, μ.2) 77 5 = some (ii (A.v 5)) from (ldI_at o77 n77 (a := 5) (by omega) (by omega) (by omega)).trans (congrArg some zn), Option.bind_some]
  show STP kk60 (if ii (A.v 5) = ii (A.v 5) then lL_law_491 kk60 L xs S (m2, μ.2) cx 0 74 75 76 77 (ii e) x7 (ii w) 1 else _) S cx e
  rw [if_pos rfl]
  unfold lL_law_491
  rw [hd, Option.bind_some, show (1 : Int32) + ii (w % 9) = ii (1 + w % 9) by rw [k1, ii_add], show stI S (m2, μ.2) 77 4 (ii (1 + w % 9)) = some (u2 m2 77 (4 : Int).toNat (ii (1 + w % 9)), μ.2) from stI_at o77 n77 (a := 4) (by omega) (by omega) (by omega), Option.bind_some, hq, Option.bind_some, show (1 : Int32) + ii q = ii (1 + q) by rw [k1, ii_add], show stI S (u2 m2 77 (4 : Int).toNat (ii (1 + w % 9)), μ.2) 77 5 (ii (1 + q)) = some (u2 (u2 m2 77 (4 : Int).toNat (ii (1 + w % 9))) 77 (5 : Int).toNat (ii (1 + q)), μ.2) from stI_at o77 n77 (a := 5) (by omega) (by omega) (by omega), Option.bind_some]
  exact law_988 (μ := (u2 (u2 m2 77 (4 : Int).toNat (ii (1 + w % 9))) 77 (5 : Int).toNat (ii (1 + q)), μ.2)) hJ2 hN e0 e1 (by omega) (by omega) (by omega)
end LAWH
