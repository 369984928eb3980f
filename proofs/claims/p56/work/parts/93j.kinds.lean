/-! the law's kinds of rounds: the last token, emptying; all of them -/
section LAWJ
variable {kk60 : mSh → mMm → Nat → Nat → Nat → Nat → Nat → Nat → Int32 → Option (Int32 × mSh × mMm × Nat)} {L : Nat} {xs : Nat → Int32} {S : mSh} {μ : mMm} {cx : Nat} {A : AS} {e : Int} {x7 : Int32}
theorem kd_20 (hI : LI S μ.1 A) (hN : mN S < 900) (e0 : 0 ≤ e) (e1 : e < 90) : STP kk60 (lL_law_93 kk60 L xs S μ cx 0 74 75 76 77 (ii e) x7 (ii 20)) S cx e := by
  have hI0 := hI
  obtain ⟨hS, hA, hC, hQ, hX, hR⟩ := hI
  have hS1 := hS
  obtain ⟨-, -, -, -, -, o77, n77⟩ := hS
  have hW := hA.1
  have g6 := wf_6 hW
  have z6 := hQ 6 (by omega) (by omega)
  obtain ⟨w, w0, w1, hw⟩ := low_at (x7 >>> (5 &&& 31)) (n := 64) (by omega) (by omega)
  have hw : fL_low (x7 >>> (5 &&& 31)) 64 = some (ii w) := hw
  unfold lL_law_93
  rw [hw, Option.bind_some, if_pos (show (9 : Int32) ≤ ii 20 by decide +kernel), if_neg (show ¬ (ii 20 : Int32) = 9 by decide +kernel), if_neg (show ¬ (ii 20 : Int32) = 10 by decide +kernel), if_neg (show ¬ (ii 20 : Int32) = 11 by decide +kernel), if_neg (show ¬ (ii 20 : Int32) = 12 by decide +kernel), if_pos (show (16 : Int32) ≤ ii 20 by decide +kernel), if_neg (show ¬ (ii 20 : Int32) = 16 by decide +kernel), if_pos (show (20 : Int32) ≤ ii 20 by decide +kernel), if_pos (show (ii 20 : Int32) = 20 from rfl)]
  by_cases hf : 0 < A.v 6
  · obtain ⟨m1, a1, a2, a3⟩ := cT_at (μ := μ) hS1 (cTakeLast hA hC hf)
    have hl : fL_last S μ 0 = some (ii (A.v 6 - 1), (m1, μ.2), 0) := by
      unfold fL_last
      rw [a1]
      rfl
    have z1 : m1 77 (6 : Int).toNat = ii (A.v 6) := by rw [a2 77 (by omega)]; exact z6
    have hJ : LI S (u2 m1 77 (6 : Int).toNat (ii (A.v 6 - 1))) (chg A (upI (upI (upI A.v 6 (A.v 6 - 1)) (50 + 2 * (A.v 6 - 1)) 0) (50 + 2 * (A.v 6 - 1) + 1) 0)) := by
      refine LI_mk hS1 (AW_chg hA (WF_slast hW hf)) a3 (fun a ha => u2_offr (by omega)) ?_ ?_ ?_
      · show RQ _ (upI (upI (upI A.v 6 (A.v 6 - 1)) (50 + 2 * (A.v 6 - 1)) 0) (50 + 2 * (A.v 6 - 1) + 1) 0)
        refine RQ_st (v := A.v) (RQ_fr (a2 77 (by omega)) hQ) (by omega) ?_ (fun j j0 j1 jn => ?_)
        · rw [upI_n (by omega), upI_n (by omega), upI_s]
        · rw [upI_n (by omega), upI_n (by omega), upI_n jn]
      · refine RX_ext (v := A.v) (RX_fr ((u2_offr (by omega)).trans (a2 74 (by omega))) hX) ?_ (fun k k0' k1' => ?_)
        · show upI (upI (upI A.v 6 (A.v 6 - 1)) (50 + 2 * (A.v 6 - 1)) 0) (50 + 2 * (A.v 6 - 1) + 1) 0 0 ≤ _
          rw [upI_n (by omega), upI_n (by omega), upI_n (by omega)]
          exact Int.le_refl _
        · have k1' : k < upI (upI (upI A.v 6 (A.v 6 - 1)) (50 + 2 * (A.v 6 - 1)) 0) (50 + 2 * (A.v 6 - 1) + 1) 0 0 := k1'
          rw [upI_n (by omega), upI_n (by omega), upI_n (by omega)] at k1'
          have g0 := wf_0 hW
          show tx (upI (upI (upI A.v 6 (A.v 6 - 1)) (50 + 2 * (A.v 6 - 1)) 0) (50 + 2 * (A.v 6 - 1) + 1) 0) k = _
          rw [tx_n (by omega), tx_n (by omega), tx_n (by omega)]
      · show RDV _ 75 76 (upI (upI (upI A.v 6 (A.v 6 - 1)) (50 + 2 * (A.v 6 - 1)) 0) (50 + 2 * (A.v 6 - 1) + 1) 0 6) _ _
        rw [upI_n (by omega), upI_n (by omega), upI_s]
        refine RDV_ext (RDV_fr hR ((u2_offr (by omega)).trans (a2 75 (by omega))) ((u2_offr (by omega)).trans (a2 76 (by omega)))) (by omega) (fun j j0 j1 => ?_) (fun j j0 j1 => ?_)
        · show tkD (upI (upI (upI A.v 6 (A.v 6 - 1)) (50 + 2 * (A.v 6 - 1)) 0) (50 + 2 * (A.v 6 - 1) + 1) 0) j = _
          rw [tD_n (by omega), tD_n (by omega), tD_n (by omega)]
        · show tkV (upI (upI (upI A.v 6 (A.v 6 - 1)) (50 + 2 * (A.v 6 - 1)) 0) (50 + 2 * (A.v 6 - 1) + 1) 0) j = _
          rw [tV_n (by omega), tV_n (by omega), tV_n (by omega)]
    have f1 : lL_law_863 kk60 L xs S (m1, μ.2) (cx + 0) 0 74 75 76 77 (ii e) x7 (ii 1) = lL_law_988 kk60 L xs S (u2 m1 77 (6 : Int).toNat (ii (A.v 6 - 1)), μ.2) (cx + 0) 0 74 75 76 77 (ii e) x7 (ii 1) := by
      simp (disch := omega) only [Option.bind_some, km102, km101, km10, km1, k0, k1, k2, k3, k4, k5, k6, k7, k8, k9, k10, k11, k12, k13, k14, k15, k16, k17, k20, k22, k31, k32, k33, k39, k40, k43, k44, k45, k48, k49, k50, k51, k52, k57, k59, k60, k63, k64, k80, k90, k97, k100, k101, k108, k112, k114, k117, k126, k130, k650, k1000, k100000, k1000000, k15485863, k32452867, k2147483647, ii_add, ii_sub, ii_neg, ii_mul, ii_lt, ii_le, ii_eq, if_true, if_false, if_pos, if_neg, lL_law_863, lL_law_884, ldI_at o77 n77, stI_at o77 n77, z1]
    have f2 : lL_law_855 kk60 L xs S (m1, μ.2) (cx + 0) 0 74 75 76 77 (ii e) x7 (ii (A.v 6 - 1)) (ii (A.v 6 - 1)) = lL_law_988 kk60 L xs S (u2 m1 77 (6 : Int).toNat (ii (A.v 6 - 1)), μ.2) (cx + 0) 0 74 75 76 77 (ii e) x7 (ii 1) := by
      simp (disch := omega) only [Option.bind_some, km102, km101, km10, km1, k0, k1, k2, k3, k4, k5, k6, k7, k8, k9, k10, k11, k12, k13, k14, k15, k16, k17, k20, k22, k31, k32, k33, k39, k40, k43, k44, k45, k48, k49, k50, k51, k52, k57, k59, k60, k63, k64, k80, k90, k97, k100, k101, k108, k112, k114, k117, k126, k130, k650, k1000, k100000, k1000000, k15485863, k32452867, k2147483647, ii_add, ii_sub, ii_neg, ii_mul, ii_lt, ii_le, ii_eq, if_true, if_false, if_pos, if_neg, lL_law_855]
      exact f1
    rw [hl, Option.bind_some]
    show STP kk60 ((ldI S (m1, μ.2) 77 6).bind fun v34 => if v34 = 0 then _ else (ldI S (m1, μ.2) 77 6).bind fun v35 => lL_law_855 kk60 L xs S (m1, μ.2) (cx + 0) 0 74 75 76 77 (ii e) x7 (v35 - 1) (ii (A.v 6 - 1))) S cx e
    rw [show ldI S (m1, μ.2) 77 6 = some (ii (A.v 6)) from (ldI_at o77 n77 (a := 6) (by omega) (by omega) (by omega)).trans (congrArg some z1), Option.bind_some, if_neg (show ¬ (ii (A.v 6) : Int32) = 0 by rw [k0, ii_eq (by omega) (by omega) (by omega) (by omega)]; omega), Option.bind_some, show (ii (A.v 6) : Int32) - 1 = ii (A.v 6 - 1) by rw [k1, ii_sub], f2]
    exact law_988 (μ := (u2 m1 77 (6 : Int).toNat (ii (A.v 6 - 1)), μ.2)) hJ hN e0 e1 (by omega) (by omega) (by omega)
  · have hz : A.v 6 = 0 := by omega
    obtain ⟨m1, a1, a2, a3⟩ := cT_at (μ := μ) hS1 (cTakeLast_1 hA hC hf)
    have hl : fL_last S μ 0 = some (ii (-101), (m1, μ.2), 1) := by
      unfold fL_last
      rw [a1]
      rfl
    have z1 : m1 77 (6 : Int).toNat = ii 0 := by rw [a2 77 (by omega), z6, hz]
    have I1 : LI S m1 A := LI_c hI0 (fun a h _ => a2 a h) a3
    have hJ : LI S (u2 m1 77 (6 : Int).toNat (ii 0)) A := by
      rw [u2_id z1]
      exact I1
    have f1 : lL_law_863 kk60 L xs S (m1, μ.2) (cx + 1) 0 74 75 76 77 (ii e) x7 (ii 1) = lL_law_988 kk60 L xs S (u2 m1 77 (6 : Int).toNat (ii (0 - 0)), μ.2) (cx + 1) 0 74 75 76 77 (ii e) x7 (ii 1) := by
      simp (disch := omega) only [Option.bind_some, km102, km101, km10, km1, k0, k1, k2, k3, k4, k5, k6, k7, k8, k9, k10, k11, k12, k13, k14, k15, k16, k17, k20, k22, k31, k32, k33, k39, k40, k43, k44, k45, k48, k49, k50, k51, k52, k57, k59, k60, k63, k64, k80, k90, k97, k100, k101, k108, k112, k114, k117, k126, k130, k650, k1000, k100000, k1000000, k15485863, k32452867, k2147483647, ii_add, ii_sub, ii_neg, ii_mul, ii_lt, ii_le, ii_eq, if_true, if_false, if_pos, if_neg, lL_law_863, lL_law_884, ldI_at o77 n77, stI_at o77 n77, z1]
    have f2 : lL_law_855 kk60 L xs S (m1, μ.2) (cx + 1) 0 74 75 76 77 (ii e) x7 (ii (-101)) (ii (-101)) = lL_law_988 kk60 L xs S (u2 m1 77 (6 : Int).toNat (ii (0 - 0)), μ.2) (cx + 1) 0 74 75 76 77 (ii e) x7 (ii 1) := by
      simp (disch := omega) only [Option.bind_some, km102, km101, km10, km1, k0, k1, k2, k3, k4, k5, k6, k7, k8, k9, k10, k11, k12, k13, k14, k15, k16, k17, k20, k22, k31, k32, k33, k39, k40, k43, k44, k45, k48, k49, k50, k51, k52, k57, k59, k60, k63, k64, k80, k90, k97, k100, k101, k108, k112, k114, k117, k126, k130, k650, k1000, k100000, k1000000, k15485863, k32452867, k2147483647, ii_add, ii_sub, ii_neg, ii_mul, ii_lt, ii_le, ii_eq, if_true, if_false, if_pos, if_neg, lL_law_855]
      exact f1
    rw [hl, Option.bind_some]
    show STP kk60 ((ldI S (m1, μ.2) 77 6).bind fun v34 => if v34 = 0 then lL_law_855 kk60 L xs S (m1, μ.2) (cx + 1) 0 74 75 76 77 (ii e) x7 (ii (-101)) (ii (-101)) else _) S cx e
    rw [show ldI S (m1, μ.2) 77 6 = some (ii 0) from (ldI_at o77 n77 (a := 6) (by omega) (by omega) (by omega)).trans (congrArg some z1), Option.bind_some, if_pos (show (ii 0 : Int32) = 0 from rfl), f2]
    exact law_988 (μ := (u2 m1 77 (6 : Int).toNat (ii 0), μ.2)) hJ hN e0 e1 (by omega) (by omega) (by omega)
theorem kd_21 (hI : LI S μ.1 A) (hN : mN S < 900) (e0 : 0 ≤ e) (e1 : e < 90) : STP kk60 (lL_law_93 kk60 L xs S μ cx 0 74 75 76 77 (ii e) x7 (ii 21)) S cx e := by
  have hI0 := hI
  obtain ⟨hS, hA, hC, hQ, hX, hR⟩ := hI
  have hS1 := hS
  obtain ⟨-, -, -, -, -, o77, n77⟩ := hS
  have hW := hA.1
  have g0 := wf_0 hW
  have g6 := wf_6 hW
  have z0 := hQ 0 (by omega) (by omega)
  have z6 := hQ 6 (by omega) (by omega)
  obtain ⟨w, w0, w1, hw⟩ := low_at (x7 >>> (5 &&& 31)) (n := 64) (by omega) (by omega)
  obtain ⟨q, q0, q1, hq⟩ := low_at (x7 >>> (11 &&& 31)) (n := 3) (by omega) (by omega)
  have hw : fL_low (x7 >>> (5 &&& 31)) 64 = some (ii w) := hw
  have hq : fL_low (x7 >>> (11 &&& 31)) 3 = some (ii q) := hq
  have hd : dRem (ii w) 2 = some (ii (w % 2)) := dRem_at (n := 2) w0 (by omega) (by omega) (by omega)
  unfold lL_law_93
  rw [hw, Option.bind_some, if_pos (show (9 : Int32) ≤ ii 21 by decide +kernel), if_neg (show ¬ (ii 21 : Int32) = 9 by decide +kernel), if_neg (show ¬ (ii 21 : Int32) = 10 by decide +kernel), if_neg (show ¬ (ii 21 : Int32) = 11 by decide +kernel), if_neg (show ¬ (ii 21 : Int32) = 12 by decide +kernel), if_pos (show (16 : Int32) ≤ ii 21 by decide +kernel), if_neg (show ¬ (ii 21 : Int32) = 16 by decide +kernel), if_pos (show (20 : Int32) ≤ ii 21 by decide +kernel), if_neg (show ¬ (ii 21 : Int32) = 20 by decide +kernel), hq, Option.bind_some]
  by_cases hz : q = 0
  · rw [if_pos (show (ii q : Int32) = 0 by rw [hz]; rfl), hd, Option.bind_some]
    have hdk : dRem (ii w) (ii 2) = some (ii (w % 2)) := hd
    by_cases h2 : w % 2 = 0
    · rw [h2] at hd hdk
      rw [show w % 2 = 0 from h2, if_pos (show (ii 0 : Int32) = 0 from rfl)]
      have hcm : CV (fX10_emptySack oS μ 0) μ (A.v 6) (chg A (clr (upI A.v 6 0) 50 80)) := cEmptySack hA hC
      obtain ⟨m1, a1, a2, a3⟩ := cM_at (μ := μ) hS1 hcm
      have zz0 : m1 77 (0 : Int).toNat = ii (A.v 0) := by rw [a2 77 (by omega)]; exact z0
      have zz6 : m1 77 (6 : Int).toNat = ii (A.v 6) := by rw [a2 77 (by omega)]; exact z6
      have hJ : LI S (u2 (u2 m1 77 (6 : Int).toNat (ii 0)) 77 (0 : Int).toNat (ii (A.v 0))) (chg A (clr (upI A.v 6 0) 50 80)) := by
        rw [u2_id (show u2 m1 77 (6 : Int).toNat (ii 0) 77 (0 : Int).toNat = ii (A.v 0) by rw [u2_off (Or.inr (by decide))]; exact zz0)]
        refine LI_mk hS1 (AW_chg hA (WF_scl hW)) a3 (fun a ha => u2_offr (by omega)) ?_ ?_ ?_
        · show RQ _ (clr (upI A.v 6 0) 50 80)
          refine RQ_st (v := A.v) (RQ_fr (a2 77 (by omega)) hQ) (by omega) ?_ (fun j j0 j1 jn => ?_)
          · rw [clr_n (by omega), upI_s]
          · rw [clr_n (by omega), upI_n jn]
        · refine RX_ext (v := A.v) (RX_fr ((u2_offr (by omega)).trans (a2 74 (by omega))) hX) ?_ (fun k k0' k1' => ?_)
          · show clr (upI A.v 6 0) 50 80 0 ≤ _
            rw [clr_n (by omega), upI_n (by omega)]
            exact Int.le_refl _
          · have k1' : k < clr (upI A.v 6 0) 50 80 0 := k1'
            rw [clr_n (by omega), upI_n (by omega)] at k1'
            show tx (clr (upI A.v 6 0) 50 80) k = _
            rw [tx_c (by omega), tx_n (by omega)]
        · show RDV _ 75 76 (clr (upI A.v 6 0) 50 80 6) _ _
          rw [clr_n (by omega), upI_s]
          exact fun j j0 j1 => by omega
      have f1 : lL_law_919 kk60 L xs S (m1, μ.2) cx 0 74 75 76 77 (ii e) x7 (ii w) (ii (A.v 6)) = lL_law_988 kk60 L xs S (u2 (u2 m1 77 (6 : Int).toNat (ii 0)) 77 (0 : Int).toNat (ii (A.v 0)), μ.2) cx 0 74 75 76 77 (ii e) x7 (ii 1) := by
        have e1 : lL_law_968 kk60 L xs S (m1, μ.2) cx 0 74 75 76 77 (ii e) x7 (ii w) (ii 1) (ii 0) (ii 6) 77 = lL_law_988 kk60 L xs S (u2 (u2 m1 77 (6 : Int).toNat (ii 0)) 77 (0 : Int).toNat (ii (A.v 0)), μ.2) cx 0 74 75 76 77 (ii e) x7 (ii 1) := by
          simp (disch := omega) only [Option.bind_some, km102, km101, km10, km1, k0, k1, k2, k3, k4, k5, k6, k7, k8, k9, k10, k11, k12, k13, k14, k15, k16, k17, k20, k22, k31, k32, k33, k39, k40, k43, k44, k45, k48, k49, k50, k51, k52, k57, k59, k60, k63, k64, k80, k90, k97, k100, k101, k108, k112, k114, k117, k126, k130, k650, k1000, k100000, k1000000, k15485863, k32452867, k2147483647, ii_add, ii_sub, ii_neg, ii_mul, ii_lt, ii_le, ii_eq, if_true, if_false, if_pos, if_neg, lL_law_968, lL_law_987, ldI_at o77 n77, stI_at o77 n77, hdk, u2_off, zz0]
        have e2 : lL_law_946 kk60 L xs S (m1, μ.2) cx 0 74 75 76 77 (ii e) x7 (ii w) (ii 1) = lL_law_988 kk60 L xs S (u2 (u2 m1 77 (6 : Int).toNat (ii 0)) 77 (0 : Int).toNat (ii (A.v 0)), μ.2) cx 0 74 75 76 77 (ii e) x7 (ii 1) := by
          simp (disch := omega) only [Option.bind_some, km102, km101, km10, km1, k0, k1, k2, k3, k4, k5, k6, k7, k8, k9, k10, k11, k12, k13, k14, k15, k16, k17, k20, k22, k31, k32, k33, k39, k40, k43, k44, k45, k48, k49, k50, k51, k52, k57, k59, k60, k63, k64, k80, k90, k97, k100, k101, k108, k112, k114, k117, k126, k130, k650, k1000, k100000, k1000000, k15485863, k32452867, k2147483647, ii_add, ii_sub, ii_neg, ii_mul, ii_lt, ii_le, ii_eq, if_true, if_false, if_pos, if_neg, lL_law_946, hdk]
          exact e1
        simp (disch := omega) only [Option.bind_some, km102, km101, km10, km1, k0, k1, k2, k3, k4, k5, k6, k7, k8, k9, k10, k11, k12, k13, k14, k15, k16, k17, k20, k22, k31, k32, k33, k39, k40, k43, k44, k45, k48, k49, k50, k51, k52, k57, k59, k60, k63, k64, k80, k90, k97, k100, k101, k108, k112, k114, k117, k126, k130, k650, k1000, k100000, k1000000, k15485863, k32452867, k2147483647, ii_add, ii_sub, ii_neg, ii_mul, ii_lt, ii_le, ii_eq, if_true, if_false, if_pos, if_neg, lL_law_919, lL_law_938, hdk, ldI_at o77 n77, zz6]
        exact e2
      rw [a1, Option.bind_some]
      show STP kk60 (lL_law_919 kk60 L xs S (m1, μ.2) cx 0 74 75 76 77 (ii e) x7 (ii w) (ii (A.v 6))) S cx e
      rw [f1]
      exact law_988 (μ := (u2 (u2 m1 77 (6 : Int).toNat (ii 0)) 77 (0 : Int).toNat (ii (A.v 0)), μ.2)) hJ hN e0 e1 (by omega) (by omega) (by omega)
    · have h1 : w % 2 = 1 := by omega
      rw [h1] at hd hdk
      rw [h1, if_neg (show ¬ (ii 1 : Int32) = 0 by decide +kernel)]
      have hcm : CV (fX10_emptyText oS μ 0) μ (A.v 0) (chg A (clr (upI A.v 0 0) 10 40)) := cEmptyText hA hC
      obtain ⟨m1, a1, a2, a3⟩ := cM_at (μ := μ) hS1 hcm
      have zz0 : m1 77 (0 : Int).toNat = ii (A.v 0) := by rw [a2 77 (by omega)]; exact z0
      have zz6 : m1 77 (6 : Int).toNat = ii (A.v 6) := by rw [a2 77 (by omega)]; exact z6
      have hJ : LI S (u2 (u2 m1 77 (6 : Int).toNat (ii (A.v 6))) 77 (0 : Int).toNat (ii 0)) (chg A (clr (upI A.v 0 0) 10 40)) := by
        rw [u2_id zz6]
        refine LI_mk hS1 (AW_chg hA (WF_lcl hW)) a3 (fun a ha => u2_offr (by omega)) ?_ ?_ ?_
        · show RQ _ (clr (upI A.v 0 0) 10 40)
          refine RQ_st (v := A.v) (RQ_fr (a2 77 (by omega)) hQ) (by omega) ?_ (fun j j0 j1 jn => ?_)
          · rw [clr_n (by omega), upI_s]
          · rw [clr_n (by omega), upI_n jn]
        · show RX _ (clr (upI A.v 0 0) 10 40)
          intro k k0' k1'
          have k1' : k < clr (upI A.v 0 0) 10 40 0 := k1'
          rw [clr_n (by omega), upI_s] at k1'
          omega
        · show RDV _ 75 76 (clr (upI A.v 0 0) 10 40 6) _ _
          rw [clr_n (by omega), upI_n (by omega)]
          refine RDV_ext (RDV_fr hR ((u2_offr (by omega)).trans (a2 75 (by omega))) ((u2_offr (by omega)).trans (a2 76 (by omega)))) (Int.le_refl _) (fun j j0 j1 => ?_) (fun j j0 j1 => ?_)
          · show tkD (clr (upI A.v 0 0) 10 40) j = _
            rw [tD_c (by omega), tD_n (by omega)]
          · show tkV (clr (upI A.v 0 0) 10 40) j = _
            rw [tV_c (by omega), tV_n (by omega)]
      have f1 : lL_law_919 kk60 L xs S (m1, μ.2) cx 0 74 75 76 77 (ii e) x7 (ii w) (ii (A.v 0)) = lL_law_988 kk60 L xs S (u2 (u2 m1 77 (6 : Int).toNat (ii (A.v 6))) 77 (0 : Int).toNat (ii 0), μ.2) cx 0 74 75 76 77 (ii e) x7 (ii 1) := by
        have e1 : lL_law_968 kk60 L xs S (m1, μ.2) cx 0 74 75 76 77 (ii e) x7 (ii w) (ii 1) (ii (A.v 6)) (ii 6) 77 = lL_law_988 kk60 L xs S (u2 (u2 m1 77 (6 : Int).toNat (ii (A.v 6))) 77 (0 : Int).toNat (ii 0), μ.2) cx 0 74 75 76 77 (ii e) x7 (ii 1) := by
          simp (disch := omega) only [Option.bind_some, km102, km101, km10, km1, k0, k1, k2, k3, k4, k5, k6, k7, k8, k9, k10, k11, k12, k13, k14, k15, k16, k17, k20, k22, k31, k32, k33, k39, k40, k43, k44, k45, k48, k49, k50, k51, k52, k57, k59, k60, k63, k64, k80, k90, k97, k100, k101, k108, k112, k114, k117, k126, k130, k650, k1000, k100000, k1000000, k15485863, k32452867, k2147483647, ii_add, ii_sub, ii_neg, ii_mul, ii_lt, ii_le, ii_eq, if_true, if_false, if_pos, if_neg, lL_law_968, lL_law_987, ldI_at o77 n77, stI_at o77 n77, hdk, u2_off]
        have e2 : lL_law_946 kk60 L xs S (m1, μ.2) cx 0 74 75 76 77 (ii e) x7 (ii w) (ii 1) = lL_law_988 kk60 L xs S (u2 (u2 m1 77 (6 : Int).toNat (ii (A.v 6))) 77 (0 : Int).toNat (ii 0), μ.2) cx 0 74 75 76 77 (ii e) x7 (ii 1) := by
          simp (disch := omega) only [Option.bind_some, km102, km101, km10, km1, k0, k1, k2, k3, k4, k5, k6, k7, k8, k9, k10, k11, k12, k13, k14, k15, k16, k17, k20, k22, k31, k32, k33, k39, k40, k43, k44, k45, k48, k49, k50, k51, k52, k57, k59, k60, k63, k64, k80, k90, k97, k100, k101, k108, k112, k114, k117, k126, k130, k650, k1000, k100000, k1000000, k15485863, k32452867, k2147483647, ii_add, ii_sub, ii_neg, ii_mul, ii_lt, ii_le, ii_eq, if_true, if_false, if_pos, if_neg, lL_law_946, hdk, ldI_at o77 n77, zz6]
          exact e1
        simp (disch := omega) only [Option.bind_some, km102, km101, km10, km1, k0, k1, k2, k3, k4, k5, k6, k7, k8, k9, k10, k11, k12, k13, k14, k15, k16, k17, k20, k22, k31, k32, k33, k39, k40, k43, k44, k45, k48, k49, k50, k51, k52, k57, k59, k60, k63, k64, k80, k90, k97, k100, k101, k108, k112, k114, k117, k126, k130, k650, k1000, k100000, k1000000, k15485863, k32452867, k2147483647, ii_add, ii_sub, ii_neg, ii_mul, ii_lt, ii_le, ii_eq, if_true, if_false, if_pos, if_neg, lL_law_919, lL_law_938, hdk, ldI_at o77 n77, zz0]
        exact e2
      rw [a1, Option.bind_some]
      show STP kk60 (lL_law_919 kk60 L xs S (m1, μ.2) cx 0 74 75 76 77 (ii e) x7 (ii w) (ii (A.v 0))) S cx e
      rw [f1]
      exact law_988 (μ := (u2 (u2 m1 77 (6 : Int).toNat (ii (A.v 6))) 77 (0 : Int).toNat (ii 0), μ.2)) hJ hN e0 e1 (by omega) (by omega) (by omega)
  · rw [if_neg (show ¬ (ii q : Int32) = 0 by rw [k0, ii_eq (by omega) (by omega) (by omega) (by omega)]; exact hz)]
    exact law_988 hI0 hN e0 e1 (by omega) (by omega) (by omega)
theorem kd_all {k : Int} (hI : LI S μ.1 A) (hN : mN S < 899) (e0 : 0 ≤ e) (e1 : e < 90) (h0 : 0 ≤ k) (h22 : k < 22) : STP kk60 (lL_law_93 kk60 L xs S μ cx 0 74 75 76 77 (ii e) x7 (ii k)) S cx e := by
  by_cases q1 : k < 9
  · exact kd_0 hI (by omega) e0 e1 h0 q1
  by_cases q2 : k = 9
  · subst q2; exact kd_9 hI (by omega) e0 e1
  by_cases q3 : k = 10
  · subst q3; exact kd_10 hI (by omega) e0 e1
  by_cases q4 : k = 11
  · subst q4; exact kd_11 hI (by omega) e0 e1
  by_cases q5 : k = 12
  · subst q5; exact kd_12 hI (by omega) e0 e1
  by_cases q6 : k < 16
  · exact kd_13 hI (by omega) e0 e1 (by omega) q6
  by_cases q7 : k = 16
  · subst q7; exact kd_16 hI hN e0 e1
  by_cases q8 : k < 20
  · exact kd_17 hI (by omega) e0 e1 (by omega) q8
  by_cases q9 : k = 20
  · subst q9; exact kd_20 hI (by omega) e0 e1
  · have : k = 21 := by omega
    subst this; exact kd_21 hI (by omega) e0 e1
end LAWJ
/-! all rounds -/
theorem law_rounds {L : Nat} {xs : Nat → Int32} (hL : L ≤ 260) : ∀ (f n : Nat) (e : Int) (S : mSh) (μ : mMm) (cx : Nat) (A : AS), 90 - e = f → f < n → 0 ≤ e → LI S μ.1 A → mN S ≤ 78 + e.toNat → mTot S ≤ 2000 + 40 * e.toNat → cx ≤ 10 * e.toNat → ∃ S' μ' c, lL_law_60 L xs n S μ cx 0 74 75 76 77 (ii e) = some (1, S', μ', c) ∧ mN S' + c ≤ 2000 ∧ mTot S' + 41 * c ≤ 100000 := by
  intro f
  induction f with
  | zero =>
    intro n e S μ cx A h1 h2 h3 hI b1 b2 b3
    obtain ⟨n, rfl⟩ : ∃ j, n = j + 1 := ⟨n - 1, by omega⟩
    have : e = 90 := by push_cast at h1; omega
    subst this
    refine ⟨S, μ, cx, ?_, by omega, by omega⟩
    rw [lL_law_60, if_pos (show (90 : Int32) ≤ ii 90 by decide +kernel)]
  | succ f ih =>
    intro n e S μ cx A h1 h2 h3 hI b1 b2 b3
    obtain ⟨n, rfl⟩ : ∃ j, n = j + 1 := ⟨n - 1, by omega⟩
    push_cast at h1
    have hcell : ∃ c, fL_cell L xs (ii e) = some c := by
      unfold fL_cell
      by_cases hc : Int32.ofNat L ≤ ii e
      · rw [if_pos hc]
        exact ⟨_, rfl⟩
      · rw [if_neg hc]
        rw [ii_ofNat, ii_le (by omega) (by omega) (by omega) (by omega)] at hc
        refine ⟨xs (ii e).toNatClampNeg, ?_⟩
        unfold ldS
        rw [if_pos (mIn_ii h3 (by omega) (by omega))]
        rfl
    obtain ⟨c, hc⟩ := hcell
    have hkind : ∃ k : Int, 0 ≤ k ∧ k < 22 ∧ lL_law_60 L xs (n + 1) S μ cx 0 74 75 76 77 (ii e) = lL_law_93 (lL_law_60 L xs n) L xs S μ cx 0 74 75 76 77 (ii e) c (ii k) := by
      by_cases h16 : 16 ≤ e
      · obtain ⟨k, q0, q1, q2⟩ := low_at c (n := 22) (by omega) (by omega)
        have q2 : fL_low c 22 = some (ii k) := q2
        refine ⟨k, q0, q1, ?_⟩
        rw [lL_law_60, if_neg (show ¬ (90 : Int32) ≤ ii e by rw [k90, ii_le (by omega) (by omega) (by omega) (by omega)]; omega), hc, Option.bind_some, if_pos (show (16 : Int32) ≤ ii e by rw [k16, ii_le (by omega) (by omega) (by omega) (by omega)]; exact h16), q2, Option.bind_some]
      · refine ⟨0, by omega, by omega, ?_⟩
        rw [lL_law_60, if_neg (show ¬ (90 : Int32) ≤ ii e by rw [k90, ii_le (by omega) (by omega) (by omega) (by omega)]; omega), hc, Option.bind_some, if_neg (show ¬ (16 : Int32) ≤ ii e by rw [k16, ii_le (by omega) (by omega) (by omega) (by omega)]; exact h16)]
        rfl
    obtain ⟨k, q0, q1, q2⟩ := hkind
    obtain ⟨S', m', z', c', A', s1, s2, s3, s4, s5⟩ := kd_all (kk60 := lL_law_60 L xs n) (L := L) (xs := xs) (cx := cx) (x7 := c) hI (by omega) h3 (by omega) q0 q1
    rw [q2, s1]
    exact ih n (e + 1) S' (m', z') c' A' (by omega) (by omega) (by omega) s2 (by omega) (by omega) (by omega)
