/-! the law's kinds of rounds: packing, unpacking, tokens by hand -/
section LAWI
variable {kk60 : mSh → mMm → Nat → Nat → Nat → Nat → Nat → Nat → Int32 → Option (Int32 × mSh × mMm × Nat)} {L : Nat} {xs : Nat → Int32} {S : mSh} {μ : mMm} {cx : Nat} {A : AS} {e : Int} {x7 : Int32}
theorem kd_13 {k : Int} (hI : LI S μ.1 A) (hN : mN S < 900) (e0 : 0 ≤ e) (e1 : e < 90) (h13 : 13 ≤ k) (h16 : k < 16) : STP kk60 (lL_law_93 kk60 L xs S μ cx 0 74 75 76 77 (ii e) x7 (ii k)) S cx e := by
  have hI0 := hI
  obtain ⟨hS, hA, hC, hQ, hX, hR⟩ := hI
  have hS1 := hS
  obtain ⟨-, -, -, ⟨o75, n75⟩, ⟨o76, n76⟩, o77, n77⟩ := hS
  have hW := hA.1
  have h78 := hS1.2.1
  have g0 := wf_0 hW
  obtain ⟨w, w0, w1, hw⟩ := low_at (x7 >>> (5 &&& 31)) (n := 64) (by omega) (by omega)
  have hw : fL_low (x7 >>> (5 &&& 31)) 64 = some (ii w) := hw
  have hDV : LDV S 75 76 := ⟨⟨o75, n75⟩, ⟨o76, n76⟩, by omega, by omega, by omega, by omega, by omega⟩
  obtain ⟨m1, z1, a1, a2, a3⟩ := pack_at (cx := cx) (way := k - 13) hS1 (by omega) hDV hW (by omega) (by omega) hQ hX
  have hb := pkR_b hW (k - 13)
  have hcs := csm_b (D := pkD A.v (k - 13)) hW (pkN A.v (k - 13)).toNat
  have e2 : (pkN A.v (k - 13) + 1000 * csm A.v (pkD A.v (k - 13)) (pkN A.v (k - 13)).toNat) % 1000 = pkN A.v (k - 13) := by omega
  have hd : dRem (ii (pkN A.v (k - 13) + 1000 * csm A.v (pkD A.v (k - 13)) (pkN A.v (k - 13)).toNat)) 1000 = some (ii (pkN A.v (k - 13))) := by
    have := dRem_at (a := pkN A.v (k - 13) + 1000 * csm A.v (pkD A.v (k - 13)) (pkN A.v (k - 13)).toNat) (n := 1000) (by omega) (by omega) (by omega) (by omega)
    rw [e2] at this
    exact this
  have hv : mvk S [some (.ref 1000), some (.ref 0), some (.ref 74), some (.ref 75), some (.ref 76), some (.ref 77), some (.int (ii e)), some (.int x7), none, none, none, some (.int (ii (k - 13))), none, none] [.int 6, .ref 77] = true := by
    simp [mvk, mvkO, mvk1]
    exact ⟨⟨Nat.lt_of_lt_of_le (by decide) h78, Nat.lt_of_lt_of_le (by decide) h78, Nat.lt_of_lt_of_le (by decide) h78, Nat.lt_of_lt_of_le (by decide) h78, Nat.lt_of_lt_of_le (by decide) h78⟩, Nat.lt_of_lt_of_le (by decide) h78⟩
  have hC1 : CI (u2 m1 77 (6 : Int).toNat (ii (pkN A.v (k - 13)))) A := CI_fr (fun b hb => (u2_offr (by omega)).trans (a2 b (by omega) (by omega) (by omega))) hC
  obtain ⟨m2, c1, c2, c3⟩ := cV_at (μ := (u2 m1 77 (6 : Int).toNat (ii (pkN A.v (k - 13))), z1)) hS1 (cPack (μ := (u2 m1 77 (6 : Int).toNat (ii (pkN A.v (k - 13))), z1)) (q := k - 13) hA hC1 (by omega))
  have c2 : ∀ a, 74 ≤ a → m2 a = u2 m1 77 (6 : Int).toNat (ii (pkN A.v (k - 13))) a := c2
  have z6 : m2 77 (6 : Int).toNat = ii (pkN A.v (k - 13)) := by rw [c2 77 (by omega)]; exact u2_same
  have hJ : LI S m2 (chg A (pkv A.v (k - 13))) := by
    refine LI_mk hS1 (AW_chg hA (WF_pkv hW _)) c3 (fun a _ => rfl) ?_ ?_ ?_
    · show RQ m2 (pkv A.v (k - 13))
      refine RQ_fr (c2 77 (by omega)) (RQ_st (v := A.v) (RQ_fr (a2 77 (by omega) (by omega) (by omega)) hQ) (by omega) sSk_6 (fun j j0 j1 jn => sSk_n jn (by omega)))
    · refine RX_ext (v := A.v) (RX_fr ((c2 74 (by omega)).trans ((u2_offr (by omega)).trans (a2 74 (by omega) (by omega) (by omega)))) hX) ?_ (fun j j0 j1 => ?_)
      · show pkv A.v (k - 13) 0 ≤ _
        rw [show pkv A.v (k - 13) 0 = A.v 0 from sSk_n (by omega) (by omega)]
        exact Int.le_refl _
      · have j1 : j < pkv A.v (k - 13) 0 := j1
        rw [show pkv A.v (k - 13) 0 = A.v 0 from sSk_n (by omega) (by omega)] at j1
        exact sSk_x j0 (by omega)
    · show RDV m2 75 76 (pkv A.v (k - 13) 6) _ _
      rw [show pkv A.v (k - 13) 6 = pkN A.v (k - 13) from sSk_6]
      exact RDV_ext (RDV_fr a3 ((c2 75 (by omega)).trans (u2_offr (by omega))) ((c2 76 (by omega)).trans (u2_offr (by omega)))) (Int.le_refl _) (fun j j0 j1 => sSk_d j0 j1) (fun j j0 j1 => sSk_v j0 j1)
  unfold lL_law_93
  have hne : ∀ n : Int, 0 ≤ n → n < 13 → ¬ (ii k : Int32) = ii n := fun n n0 n1 => by
    rw [ii_eq (by omega) (by omega) (by omega) (by omega)]
    omega
  rw [hw, Option.bind_some, if_pos (show (9 : Int32) ≤ ii k by rw [k9, ii_le (by omega) (by omega) (by omega) (by omega)]; omega), if_neg (show ¬ (ii k : Int32) = 9 from hne 9 (by omega) (by omega)), if_neg (show ¬ (ii k : Int32) = 10 from hne 10 (by omega) (by omega)), if_neg (show ¬ (ii k : Int32) = 11 from hne 11 (by omega) (by omega)), if_neg (show ¬ (ii k : Int32) = 12 from hne 12 (by omega) (by omega)), if_neg (show ¬ (16 : Int32) ≤ ii k by rw [k16, ii_le (by omega) (by omega) (by omega) (by omega)]; omega)]
  rw [show (ii k : Int32) - 13 = ii (k - 13) by rw [k13, ii_sub], if_pos hv, a1, Option.bind_some]
  show STP kk60 ((dRem (ii (pkN A.v (k - 13) + 1000 * csm A.v (pkD A.v (k - 13)) (pkN A.v (k - 13)).toNat)) 1000).bind _) S cx e
  rw [hd, Option.bind_some]
  show STP kk60 ((stI S (m1, z1) 77 6 (ii (pkN A.v (k - 13)))).bind _) S cx e
  rw [show stI S (m1, z1) 77 6 (ii (pkN A.v (k - 13))) = some (u2 m1 77 (6 : Int).toNat (ii (pkN A.v (k - 13))), z1) from stI_at o77 n77 (a := 6) (by omega) (by omega) (by omega), Option.bind_some, c1, Option.bind_some]
  show STP kk60 ((ldI S (m2, z1) 77 6).bind _) S cx e
  rw [show ldI S (m2, z1) 77 6 = some (ii (pkN A.v (k - 13))) from (ldI_at o77 n77 (a := 6) (by omega) (by omega) (by omega)).trans (congrArg some z6), Option.bind_some]
  show STP kk60 (if ii (pkN A.v (k - 13)) = ii (pkN A.v (k - 13)) then lL_law_576 kk60 L xs S (m2, z1) (cx + 1) 0 74 75 76 77 (ii e) x7 1 else _) S cx e
  rw [if_pos rfl]
  unfold lL_law_576
  exact law_988 (μ := (m2, z1)) hJ hN e0 e1 (by omega) (by omega) (by omega)
theorem law_635 {C : Nat} {n' told : Int} {U : Int → Int} {x10 : Int32} (hS : LSh S) (oC : mok S C 12 = true) (nC : mLn S C = 40) (hC78 : 78 ≤ C) (t4 : told ≤ 40) : ∀ (f n : Nat) (k : Int) (μ : mMm), told - k ≤ f → f < n → 0 ≤ k → (k ≤ told ∨ told < 0) → (∀ i, 0 ≤ i → i < told → μ.1 C i.toNat = ii (U i)) → (∀ i, 0 ≤ i → i < k → i < told → μ.1 74 i.toNat = ii (U i)) → -1000 ≤ told → k ≤ 40 →
    ∃ m', lL_law_635 kk60 L xs n S μ cx 0 74 75 76 77 (ii e) x7 x10 C (ii told) (ii k) = (if (0 : Int) ≤ told then lL_law_674 kk60 L xs S (m', μ.2) cx 0 74 75 76 77 (ii e) x7 x10 (ii told) (ii 0) 77 else (ldI S (m', μ.2) 77 (ii 0)).bind fun v56 => lL_law_674 kk60 L xs S (m', μ.2) cx 0 74 75 76 77 (ii e) x7 x10 v56 (ii 0) 77) ∧ (∀ a, a ≠ 74 → m' a = μ.1 a) ∧ (told < 0 → m' = μ.1) ∧ ∀ i, 0 ≤ i → i < told → m' 74 i.toNat = ii (U i) := by
  obtain ⟨-, -, ⟨o74, n74⟩, -, -, o77, n77⟩ := hS
  have last : ∀ (n : Nat) (k : Int) (μ : mMm), told ≤ k → 0 ≤ k → k ≤ 40 → -1000 ≤ told → lL_law_635 kk60 L xs (n + 1) S μ cx 0 74 75 76 77 (ii e) x7 x10 C (ii told) (ii k) = (if (0 : Int) ≤ told then lL_law_674 kk60 L xs S μ cx 0 74 75 76 77 (ii e) x7 x10 (ii told) (ii 0) 77 else (ldI S μ 77 (ii 0)).bind fun v56 => lL_law_674 kk60 L xs S μ cx 0 74 75 76 77 (ii e) x7 x10 v56 (ii 0) 77) := by
    intro n k μ h1 h2 h3 h4
    rw [lL_law_635, if_pos (show ii told ≤ ii k by rw [ii_le (by omega) (by omega) (by omega) (by omega)]; exact h1)]
    by_cases h : 0 ≤ told
    · rw [if_pos (show (0 : Int32) ≤ ii told by rw [k0, ii_le (by omega) (by omega) (by omega) (by omega)]; exact h), if_pos h]
      rfl
    · rw [if_neg (show ¬ (0 : Int32) ≤ ii told by rw [k0, ii_le (by omega) (by omega) (by omega) (by omega)]; exact h), if_neg h]
      rfl
  intro f
  induction f with
  | zero =>
    intro n k μ h1 h2 h3 h4 hU hX h5 h6
    obtain ⟨n, rfl⟩ : ∃ j, n = j + 1 := ⟨n - 1, by omega⟩
    have h1 : told ≤ k := by push_cast at h1; omega
    exact ⟨μ.1, last n k μ h1 h3 h6 h5, fun _ _ => rfl, fun _ => rfl, fun i i0 i1 => hX i i0 (by omega) i1⟩
  | succ f ih =>
    intro n k μ h1 h2 h3 h4 hU hX h5 h6
    obtain ⟨n, rfl⟩ : ∃ j, n = j + 1 := ⟨n - 1, by omega⟩
    by_cases hk : told ≤ k
    · exact ⟨μ.1, last n k μ hk h3 h6 h5, fun _ _ => rfl, fun _ => rfl, fun i i0 i1 => hX i i0 (by omega) i1⟩
    · obtain ⟨m', j1, j2, j3, j4⟩ := ih n (k + 1) (u2 μ.1 74 k.toNat (ii (U k)), μ.2) (by push_cast at h1; omega) (by omega) (by omega) (Or.inl (by omega)) (fun i i0 i1 => by
        show u2 μ.1 74 k.toNat (ii (U k)) C i.toNat = _
        rw [u2_off (Or.inl (by omega))]
        exact hU i i0 i1) (fun i i0 i1 i2 => by
        show u2 μ.1 74 k.toNat (ii (U k)) 74 i.toNat = _
        by_cases hi : i = k
        · subst hi
          exact u2_same
        · rw [u2_off (Or.inr (by omega))]
          exact hX i i0 (by omega) i2) h5 (by omega)
      refine ⟨m', ?_, fun a ha => (j2 a ha).trans (u2_offr ha), fun hh => by omega, j4⟩
      rw [← j1, lL_law_635, if_neg (show ¬ ii told ≤ ii k by rw [ii_le (by omega) (by omega) (by omega) (by omega)]; exact hk), ldI_at oC nC h3 (by omega) (by omega), Option.bind_some, hU k h3 (by omega), stI_at o74 n74 h3 (by omega) (by omega), Option.bind_some, k1, ii_add]
theorem kd_16 (hI : LI S μ.1 A) (hN : mN S < 899) (e0 : 0 ≤ e) (e1 : e < 90) : STP kk60 (lL_law_93 kk60 L xs S μ cx 0 74 75 76 77 (ii e) x7 (ii 16)) S cx e := by
  have h78 := hI.1.2.1
  have hW := hI.2.1.1
  have hA := hI.2.1
  have g0 := wf_0 hW
  have hJ1 : LI (nSh S 12 40 40) (nMm S μ).1 A := LI_new hI
  have hCC : LRw (nSh S 12 40 40) (mN S) 40 := ⟨nSh_new.1, nSh_new.2, h78⟩
  obtain ⟨w, w0, w1, hw⟩ := low_at (x7 >>> (5 &&& 31)) (n := 64) (by omega) (by omega)
  have hw : fL_low (x7 >>> (5 &&& 31)) 64 = some (ii w) := hw
  have hv : mvk S [some (.ref 1000), some (.ref 0), some (.ref 74), some (.ref 75), some (.ref 76), some (.ref 77), some (.int (ii e)), some (.int x7), none, none, none, none, none, none] [] = true := by
    simp [mvk, mvkO, mvk1]
    exact ⟨Nat.lt_of_lt_of_le (by decide) h78, Nat.lt_of_lt_of_le (by decide) h78, Nat.lt_of_lt_of_le (by decide) h78, Nat.lt_of_lt_of_le (by decide) h78, Nat.lt_of_lt_of_le (by decide) h78⟩
  obtain ⟨m1, a1, a2, a3⟩ := unpack_at hJ1.1 hCC hW hJ1.2.2.2.1 hJ1.2.2.2.2.2
  have I1 : LI (nSh S 12 40 40) m1 A := LI_fr hJ1 (fun a ha => a2 a (by omega))
  have hu := unp_b hW
  have hn1 : mN (nSh S 12 40 40) = mN S + 1 := rfl
  have ht1 : mTot (nSh S 12 40 40) = mTot S + 40 := rfl
  have o77 := hJ1.1.2.2.2.2.2
  unfold lL_law_93
  rw [hw, Option.bind_some, if_pos (show (9 : Int32) ≤ ii 16 by decide +kernel), if_neg (show ¬ (ii 16 : Int32) = 9 by decide +kernel), if_neg (show ¬ (ii 16 : Int32) = 10 by decide +kernel), if_neg (show ¬ (ii 16 : Int32) = 11 by decide +kernel), if_neg (show ¬ (ii 16 : Int32) = 12 by decide +kernel), if_pos (show (16 : Int32) ≤ ii 16 by decide +kernel), if_pos (show (ii 16 : Int32) = 16 from rfl)]
  rw [aN_at hv (by omega), Option.bind_some]
  show STP kk60 ((fL_unpack (nSh S 12 40 40) (nMm S μ) 75 76 77 (mN S)).bind _) S cx e
  rw [a1, Option.bind_some]
  show STP kk60 ((fL_unpacks (nSh S 12 40 40) (m1, (nMm S μ).2) 0).bind _) S cx e
  by_cases hy : (unp A.v).2.2.2 = 0
  · have ht : tld (unp A.v) = (unp A.v).1 := if_pos hy
    obtain ⟨m2, b1, b2, b3⟩ := cT_at (S := nSh S 12 40 40) (μ := (m1, (nMm S μ).2)) hJ1.1 (cUnpack (μ := (m1, (nMm S μ).2)) hA I1.2.2.1 hy)
    have hun : fL_unpacks (nSh S 12 40 40) (m1, (nMm S μ).2) 0 = some (ii (unp A.v).1, (m2, (nMm S μ).2), 0) := by
      unfold fL_unpacks
      rw [b1]
      rfl
    obtain ⟨m3, c1, c2, c3, c4⟩ := law_635 (kk60 := kk60) (L := L) (xs := xs) (e := e) (x7 := x7) (cx := cx + 0) (x10 := ii 1) (n' := 0) (U := (unp A.v).2.1) (told := (unp A.v).1) hJ1.1 hCC.1 hCC.2.1 hCC.2.2 (by omega) 40 FU 0 (m2, (nMm S μ).2) (by omega) (by decide) (by omega) (Or.inl (by omega)) (fun i i0 i1 => by
      show m2 (mN S) _ = _
      rw [b2 (mN S) (by omega)]
      exact a3 hy i i0 i1) (fun i i0 i1 => by omega) (by omega) (by omega)
    rw [if_pos (show (0 : Int) ≤ (unp A.v).1 by omega)] at c1
    have hJ : LI (nSh S 12 40 40) (u2 m3 77 (0 : Int).toNat (ii (unp A.v).1)) (chg A (setTx A.v (unp A.v).1 (unp A.v).2.1)) := by
      have f77 : m3 77 = m1 77 := (c2 77 (by omega)).trans (b2 77 (by omega))
      refine LI_mk (m1 := m2) hJ1.1 (AW_chg hA (WF_setTx hW (by omega) (by omega) hu.2.1)) b3 (fun a ha => (u2_offr (by omega)).trans (c2 a (by omega))) ?_ ?_ ?_
      · show RQ _ (setTx A.v (unp A.v).1 (unp A.v).2.1)
        exact RQ_st (v := A.v) (RQ_fr f77 I1.2.2.2.1) (by omega) sTx_0 (fun j j0 j1 jn => sTx_n jn (by omega))
      · show RX _ (setTx A.v (unp A.v).1 (unp A.v).2.1)
        intro k k0' k1'
        have k1' : k < setTx A.v (unp A.v).1 (unp A.v).2.1 0 := k1'
        rw [sTx_0] at k1'
        rw [sTx_x k0' k1' (by omega), u2_off (Or.inl (by omega))]
        exact c4 k k0' k1'
      · show RDV _ 75 76 (setTx A.v (unp A.v).1 (unp A.v).2.1 6) _ _
        rw [sTx_n (by omega) (by omega)]
        refine RDV_ext (RDV_fr I1.2.2.2.2.2 ?_ ?_) (Int.le_refl _) (fun j j0 j1 => (sTx_k j0).1) (fun j j0 j1 => (sTx_k j0).2)
        · exact (u2_offr (by omega)).trans ((c2 75 (by omega)).trans (b2 75 (by omega)))
        · exact (u2_offr (by omega)).trans ((c2 76 (by omega)).trans (b2 76 (by omega)))
    rw [hun, Option.bind_some]
    show STP kk60 (if 0 ≤ ii (tld (unp A.v)) then lL_law_622 kk60 L xs (nSh S 12 40 40) (m2, (nMm S μ).2) (cx + 0) 0 74 75 76 77 (ii e) x7 (mN S) (ii (tld (unp A.v))) (ii (tld (unp A.v))) (ii (unp A.v).1) else _) S cx e
    rw [ht, if_pos (show (0 : Int32) ≤ ii (unp A.v).1 by rw [k0, ii_le (by omega) (by omega) (by omega) (by omega)]; omega)]
    unfold lL_law_622
    rw [if_pos rfl]
    unfold lL_law_630
    rw [show lL_law_635 kk60 L xs FU (nSh S 12 40 40) (m2, (nMm S μ).2) (cx + 0) 0 74 75 76 77 (ii e) x7 1 (mN S) (ii (unp A.v).1) 0 = _ from c1]
    unfold lL_law_674
    rw [stI_at o77.1 o77.2 (by omega) (by omega) (by omega), Option.bind_some]
    exact law_988 (μ := (u2 m3 77 (0 : Int).toNat (ii (unp A.v).1), (nMm S μ).2)) hJ (by omega) e0 e1 (by omega) (by omega) (by omega)
  · have ht : tld (unp A.v) = -10 * ((unp A.v).2.2.1 + 1) - (unp A.v).2.2.2 := if_neg hy
    obtain ⟨m2, b1, b2, b3⟩ := cT_at (S := nSh S 12 40 40) (μ := (m1, (nMm S μ).2)) hJ1.1 (cUnpack_1 (μ := (m1, (nMm S μ).2)) hA I1.2.2.1 hy)
    have hun : fL_unpacks (nSh S 12 40 40) (m1, (nMm S μ).2) 0 = some (ii (-101), (m2, (nMm S μ).2), 1) := by
      unfold fL_unpacks
      rw [b1]
      rfl
    have I2 : LI (nSh S 12 40 40) m2 A := LI_c I1 (fun a h _ => b2 a h) b3
    obtain ⟨m3, c1, c2, c3, c4⟩ := law_635 (kk60 := kk60) (L := L) (xs := xs) (e := e) (x7 := x7) (cx := cx + 1) (x10 := ii 1) (n' := 0) (U := (unp A.v).2.1) (told := tld (unp A.v)) hJ1.1 hCC.1 hCC.2.1 hCC.2.2 (by omega) 40 FU 0 (m2, (nMm S μ).2) (by omega) (by decide) (by omega) (Or.inr (by omega)) (fun i i0 i1 => by omega) (fun i i0 i1 => by omega) (by omega) (by omega)
    rw [if_neg (show ¬ (0 : Int) ≤ tld (unp A.v) by omega), c3 (by omega)] at c1
    have z0 := I2.2.2.2.1 0 (by omega) (by omega)
    have hJ : LI (nSh S 12 40 40) (u2 m2 77 (0 : Int).toNat (ii (A.v 0))) A := by
      rw [u2_id (show m2 77 (0 : Int).toNat = ii (A.v 0) from z0)]
      exact I2
    rw [hun, Option.bind_some]
    show STP kk60 (if 0 ≤ ii (tld (unp A.v)) then _ else lL_law_622 kk60 L xs (nSh S 12 40 40) (m2, (nMm S μ).2) (cx + 1) 0 74 75 76 77 (ii e) x7 (mN S) (ii (tld (unp A.v))) (-101) (ii (-101))) S cx e
    rw [if_neg (show ¬ (0 : Int32) ≤ ii (tld (unp A.v)) by rw [k0, ii_le (by omega) (by omega) (by omega) (by omega)]; omega)]
    unfold lL_law_622
    rw [if_pos (show (ii (-101) : Int32) = -101 from rfl)]
    unfold lL_law_630
    rw [show lL_law_635 kk60 L xs FU (nSh S 12 40 40) (m2, (nMm S μ).2) (cx + 1) 0 74 75 76 77 (ii e) x7 1 (mN S) (ii (tld (unp A.v))) 0 = _ from c1]
    rw [ldI_at o77.1 o77.2 (by omega) (by omega) (by omega), Option.bind_some]
    show STP kk60 (lL_law_674 kk60 L xs (nSh S 12 40 40) (m2, (nMm S μ).2) (cx + 1) 0 74 75 76 77 (ii e) x7 (ii 1) (m2 77 (0 : Int).toNat) (ii 0) 77) S cx e
    rw [z0]
    unfold lL_law_674
    rw [stI_at o77.1 o77.2 (by omega) (by omega) (by omega), Option.bind_some]
    exact law_988 (μ := (u2 m2 77 (0 : Int).toNat (ii (A.v 0)), (nMm S μ).2)) hJ (by omega) e0 e1 (by omega) (by omega) (by omega)
theorem law_734 {d q : Int} (hI : LI S μ.1 A) (hN : mN S < 900) (e0 : 0 ≤ e) (e1 : e < 90) (hd : (d = 0 ∧ 0 ≤ q ∧ q ≤ 3) ∨ (1 ≤ d ∧ d ≤ 39 ∧ 1 ≤ q ∧ q ≤ 40)) : STP kk60 (lL_law_734 kk60 L xs S μ cx 0 74 75 76 77 (ii e) x7 (ii d) (ii q)) S cx e := by
  have hI0 := hI
  obtain ⟨hS, hA, hC, hQ, hX, hR⟩ := hI
  have hS1 := hS
  obtain ⟨-, -, -, ⟨o75, n75⟩, ⟨o76, n76⟩, o77, n77⟩ := hS
  have hW := hA.1
  have g0 := wf_0 hW
  have g6 := wf_6 hW
  have z6 := hQ 6 (by omega) (by omega)
  by_cases hf : A.v 6 < 40
  · have hcall : ∃ m1, fL_token S μ 0 (ii d) (ii q) = some (ii (A.v 6 + 1), (m1, μ.2), 0) ∧ (∀ a, 74 ≤ a → m1 a = μ.1 a) ∧ CI m1 (chg A (upI (upI (upI A.v (50 + 2 * A.v 6) d) (50 + 2 * A.v 6 + 1) q) 6 (A.v 6 + 1))) := by
      rcases hd with ⟨d0, q0, q1⟩ | ⟨d0, d1, q0, q1⟩
      · subst d0
        obtain ⟨m1, a1, a2, a3⟩ := cT_at (μ := μ) hS1 (cAddToken hA hC ⟨q0, q1⟩ hf)
        refine ⟨m1, ?_, a2, a3⟩
        unfold fL_token
        rw [if_pos (show (ii 0 : Int32) = 0 from rfl), a1]
        rfl
      · obtain ⟨m1, a1, a2, a3⟩ := cT_at (μ := μ) hS1 (cAddRepeat hA hC ⟨d0, d1⟩ ⟨q0, q1⟩ hf)
        refine ⟨m1, ?_, a2, a3⟩
        unfold fL_token
        rw [if_neg (show ¬ (ii d : Int32) = 0 by rw [k0, ii_eq (by omega) (by omega) (by omega) (by omega)]; omega), a1]
        rfl
    obtain ⟨m1, a1, a2, a3⟩ := hcall
    have z1 : m1 77 (6 : Int).toNat = ii (A.v 6) := by rw [a2 77 (by omega)]; exact z6
    have hJ : LI S (u2 (u2 (u2 m1 75 (A.v 6).toNat (ii d)) 76 (A.v 6).toNat (ii q)) 77 (6 : Int).toNat (ii (A.v 6 + 1))) (chg A (upI (upI (upI A.v (50 + 2 * A.v 6) d) (50 + 2 * A.v 6 + 1) q) 6 (A.v 6 + 1))) := by
      have hok : 0 ≤ d ∧ d ≤ 39 ∧ (d = 0 → 0 ≤ q ∧ q ≤ 3) ∧ (d ≠ 0 → 1 ≤ q ∧ q ≤ 40) := by omega
      refine LI_mk hS1 (AW_chg hA (WF_sput hW hf hok)) a3 (fun a ha => (u2_offr (by omega)).trans ((u2_offr (by omega)).trans (u2_offr (by omega)))) ?_ ?_ ?_
      · show RQ _ (upI (upI (upI A.v (50 + 2 * A.v 6) d) (50 + 2 * A.v 6 + 1) q) 6 (A.v 6 + 1))
        refine RQ_st (v := A.v) (RQ_fr ((u2_offr (by omega)).trans ((u2_offr (by omega)).trans (a2 77 (by omega)))) hQ) (by omega) (upI_at rfl) (fun j j0 j1 jn => ?_)
        rw [upI_n jn, upI_n (by omega), upI_n (by omega)]
      · refine RX_ext (v := A.v) (RX_fr ((u2_offr (by omega)).trans ((u2_offr (by omega)).trans ((u2_offr (by omega)).trans (a2 74 (by omega))))) hX) ?_ (fun k k0' k1' => ?_)
        · show upI (upI (upI A.v (50 + 2 * A.v 6) d) (50 + 2 * A.v 6 + 1) q) 6 (A.v 6 + 1) 0 ≤ _
          rw [upI_n (by omega), upI_n (by omega), upI_n (by omega)]
          exact Int.le_refl _
        · have k1' : k < upI (upI (upI A.v (50 + 2 * A.v 6) d) (50 + 2 * A.v 6 + 1) q) 6 (A.v 6 + 1) 0 := k1'
          rw [upI_n (by omega), upI_n (by omega), upI_n (by omega)] at k1'
          show tx (upI (upI (upI A.v (50 + 2 * A.v 6) d) (50 + 2 * A.v 6 + 1) q) 6 (A.v 6 + 1)) k = _
          rw [tx_n (by omega), tx_n (by omega), tx_n (by omega)]
      · show RDV _ 75 76 (upI (upI (upI A.v (50 + 2 * A.v 6) d) (50 + 2 * A.v 6 + 1) q) 6 (A.v 6 + 1) 6) _ _
        rw [upI_at rfl]
        have hP := RDV_put (m := m1) (Dn := 75) (Vn := 76) (x := d) (y := q) (by omega) g6.1 (RDV_fr hR (a2 75 (by omega)) (a2 76 (by omega)))
        intro j j0 j1
        obtain ⟨p1, p2⟩ := hP j j0 j1
        have f5 : (u2 (u2 (u2 m1 75 (A.v 6).toNat (ii d)) 76 (A.v 6).toNat (ii q)) 77 (6 : Int).toNat (ii (A.v 6 + 1))) 75 = (u2 (u2 m1 75 (A.v 6).toNat (ii d)) 76 (A.v 6).toNat (ii q)) 75 := u2_offr (by omega)
        have f6 : (u2 (u2 (u2 m1 75 (A.v 6).toNat (ii d)) 76 (A.v 6).toNat (ii q)) 77 (6 : Int).toNat (ii (A.v 6 + 1))) 76 = (u2 (u2 m1 75 (A.v 6).toNat (ii d)) 76 (A.v 6).toNat (ii q)) 76 := u2_offr (by omega)
        rw [f5, f6, p1, p2]
        show ii (upI (tkD A.v) (A.v 6) d j) = ii (tkD (upI (upI (upI A.v (50 + 2 * A.v 6) d) (50 + 2 * A.v 6 + 1) q) 6 (A.v 6 + 1)) j) ∧ ii (upI (tkV A.v) (A.v 6) q j) = ii (tkV (upI (upI (upI A.v (50 + 2 * A.v 6) d) (50 + 2 * A.v 6 + 1) q) 6 (A.v 6 + 1)) j)
        by_cases hj : j = A.v 6
        · subst hj
          rw [upI_s, upI_s, tD_n (by omega), tD_n (by omega), tD_s rfl, tV_n (by omega), tV_s (by omega)]
          exact ⟨rfl, rfl⟩
        · rw [upI_n hj, upI_n hj, tD_n (by omega), tD_n (by omega), tD_n (by omega), tV_n (by omega), tV_n (by omega), tV_n (by omega)]
          exact ⟨rfl, rfl⟩
    have ee : lL_law_734 kk60 L xs S μ cx 0 74 75 76 77 (ii e) x7 (ii d) (ii q) = lL_law_988 kk60 L xs S (u2 (u2 (u2 m1 75 (A.v 6).toNat (ii d)) 76 (A.v 6).toNat (ii q)) 77 (6 : Int).toNat (ii (A.v 6 + 1)), μ.2) (cx + 0) 0 74 75 76 77 (ii e) x7 (ii 1) := by
      have f1 : lL_law_786 kk60 L xs S (m1, μ.2) (cx + 0) 0 74 75 76 77 (ii e) x7 (ii d) (ii q) (ii 1) (ii 1) = lL_law_988 kk60 L xs S (u2 (u2 (u2 m1 75 (A.v 6).toNat (ii d)) 76 (A.v 6).toNat (ii q)) 77 (6 : Int).toNat (ii (A.v 6 + 1)), μ.2) (cx + 0) 0 74 75 76 77 (ii e) x7 (ii 1) := by
        simp (disch := omega) only [Option.bind_some, km102, km101, km10, km1, k0, k1, k2, k3, k4, k5, k6, k7, k8, k9, k10, k11, k12, k13, k14, k15, k16, k17, k20, k22, k31, k32, k33, k39, k40, k43, k44, k45, k48, k49, k50, k51, k52, k57, k59, k60, k63, k64, k80, k90, k97, k100, k101, k108, k112, k114, k117, k126, k130, k650, k1000, k100000, k1000000, k15485863, k32452867, k2147483647, ii_add, ii_sub, ii_neg, ii_mul, ii_lt, ii_le, ii_eq, if_true, if_false, if_pos, if_neg, lL_law_786, lL_law_821, ldI_at o77 n77, stI_at o77 n77, stI_at o75 n75, stI_at o76 n76, z1, u2_off]
      have f2 : lL_law_778 kk60 L xs S (m1, μ.2) (cx + 0) 0 74 75 76 77 (ii e) x7 (ii d) (ii q) (ii 1) (ii (A.v 6 + 1)) (ii (A.v 6 + 1)) = lL_law_988 kk60 L xs S (u2 (u2 (u2 m1 75 (A.v 6).toNat (ii d)) 76 (A.v 6).toNat (ii q)) 77 (6 : Int).toNat (ii (A.v 6 + 1)), μ.2) (cx + 0) 0 74 75 76 77 (ii e) x7 (ii 1) := by
        simp (disch := omega) only [Option.bind_some, km102, km101, km10, km1, k0, k1, k2, k3, k4, k5, k6, k7, k8, k9, k10, k11, k12, k13, k14, k15, k16, k17, k20, k22, k31, k32, k33, k39, k40, k43, k44, k45, k48, k49, k50, k51, k52, k57, k59, k60, k63, k64, k80, k90, k97, k100, k101, k108, k112, k114, k117, k126, k130, k650, k1000, k100000, k1000000, k15485863, k32452867, k2147483647, ii_add, ii_sub, ii_neg, ii_mul, ii_lt, ii_le, ii_eq, if_true, if_false, if_pos, if_neg, lL_law_778]
        exact f1
      have f3 : lL_law_751 kk60 L xs S μ cx 0 74 75 76 77 (ii e) x7 (ii d) (ii q) (ii 1) = lL_law_988 kk60 L xs S (u2 (u2 (u2 m1 75 (A.v 6).toNat (ii d)) 76 (A.v 6).toNat (ii q)) 77 (6 : Int).toNat (ii (A.v 6 + 1)), μ.2) (cx + 0) 0 74 75 76 77 (ii e) x7 (ii 1) := by
        simp (disch := omega) only [Option.bind_some, km102, km101, km10, km1, k0, k1, k2, k3, k4, k5, k6, k7, k8, k9, k10, k11, k12, k13, k14, k15, k16, k17, k20, k22, k31, k32, k33, k39, k40, k43, k44, k45, k48, k49, k50, k51, k52, k57, k59, k60, k63, k64, k80, k90, k97, k100, k101, k108, k112, k114, k117, k126, k130, k650, k1000, k100000, k1000000, k15485863, k32452867, k2147483647, ii_add, ii_sub, ii_neg, ii_mul, ii_lt, ii_le, ii_eq, if_true, if_false, if_pos, if_neg, lL_law_751, a1, ldI_at o77 n77, z1]
        exact f2
      simp (disch := omega) only [Option.bind_some, km102, km101, km10, km1, k0, k1, k2, k3, k4, k5, k6, k7, k8, k9, k10, k11, k12, k13, k14, k15, k16, k17, k20, k22, k31, k32, k33, k39, k40, k43, k44, k45, k48, k49, k50, k51, k52, k57, k59, k60, k63, k64, k80, k90, k97, k100, k101, k108, k112, k114, k117, k126, k130, k650, k1000, k100000, k1000000, k15485863, k32452867, k2147483647, ii_add, ii_sub, ii_neg, ii_mul, ii_lt, ii_le, ii_eq, if_true, if_false, if_pos, if_neg, lL_law_734, ldI_at o77 n77, z6]
      exact f3
    rw [ee]
    exact law_988 hJ hN e0 e1 (by omega) (by omega) (by omega)
  · have hcall : ∃ m1, fL_token S μ 0 (ii d) (ii q) = some (ii (-102), (m1, μ.2), 1) ∧ (∀ a, 74 ≤ a → m1 a = μ.1 a) ∧ CI m1 A := by
      rcases hd with ⟨d0, q0, q1⟩ | ⟨d0, d1, q0, q1⟩
      · subst d0
        obtain ⟨m1, a1, a2, a3⟩ := cT_at (μ := μ) hS1 (cAddToken_1 hA hC ⟨q0, q1⟩ hf)
        refine ⟨m1, ?_, a2, a3⟩
        unfold fL_token
        rw [if_pos (show (ii 0 : Int32) = 0 from rfl), a1]
        rfl
      · obtain ⟨m1, a1, a2, a3⟩ := cT_at (μ := μ) hS1 (cAddRepeat_1 hA hC ⟨d0, d1⟩ ⟨q0, q1⟩ hf)
        refine ⟨m1, ?_, a2, a3⟩
        unfold fL_token
        rw [if_neg (show ¬ (ii d : Int32) = 0 by rw [k0, ii_eq (by omega) (by omega) (by omega) (by omega)]; omega), a1]
        rfl
    obtain ⟨m1, a1, a2, a3⟩ := hcall
    have hJ : LI S m1 A := LI_c hI0 (fun a h _ => a2 a h) a3
    have ee : lL_law_734 kk60 L xs S μ cx 0 74 75 76 77 (ii e) x7 (ii d) (ii q) = lL_law_988 kk60 L xs S (m1, μ.2) (cx + 1) 0 74 75 76 77 (ii e) x7 (ii 1) := by
      have f2 : lL_law_778 kk60 L xs S (m1, μ.2) (cx + 1) 0 74 75 76 77 (ii e) x7 (ii d) (ii q) (ii 0) (ii (-102)) (ii (-102)) = lL_law_988 kk60 L xs S (m1, μ.2) (cx + 1) 0 74 75 76 77 (ii e) x7 (ii 1) := by
        simp (disch := omega) only [Option.bind_some, km102, km101, km10, km1, k0, k1, k2, k3, k4, k5, k6, k7, k8, k9, k10, k11, k12, k13, k14, k15, k16, k17, k20, k22, k31, k32, k33, k39, k40, k43, k44, k45, k48, k49, k50, k51, k52, k57, k59, k60, k63, k64, k80, k90, k97, k100, k101, k108, k112, k114, k117, k126, k130, k650, k1000, k100000, k1000000, k15485863, k32452867, k2147483647, ii_add, ii_sub, ii_neg, ii_mul, ii_lt, ii_le, ii_eq, if_true, if_false, if_pos, if_neg, lL_law_778, lL_law_786, lL_law_821]
      have f3 : lL_law_751 kk60 L xs S μ cx 0 74 75 76 77 (ii e) x7 (ii d) (ii q) (ii 0) = lL_law_988 kk60 L xs S (m1, μ.2) (cx + 1) 0 74 75 76 77 (ii e) x7 (ii 1) := by
        simp (disch := omega) only [Option.bind_some, km102, km101, km10, km1, k0, k1, k2, k3, k4, k5, k6, k7, k8, k9, k10, k11, k12, k13, k14, k15, k16, k17, k20, k22, k31, k32, k33, k39, k40, k43, k44, k45, k48, k49, k50, k51, k52, k57, k59, k60, k63, k64, k80, k90, k97, k100, k101, k108, k112, k114, k117, k126, k130, k650, k1000, k100000, k1000000, k15485863, k32452867, k2147483647, ii_add, ii_sub, ii_neg, ii_mul, ii_lt, ii_le, ii_eq, if_true, if_false, if_pos, if_neg, lL_law_751, a1]
        exact f2
      simp (disch := omega) only [Option.bind_some, km102, km101, km10, km1, k0, k1, k2, k3, k4, k5, k6, k7, k8, k9, k10, k11, k12, k13, k14, k15, k16, k17, k20, k22, k31, k32, k33, k39, k40, k43, k44, k45, k48, k49, k50, k51, k52, k57, k59, k60, k63, k64, k80, k90, k97, k100, k101, k108, k112, k114, k117, k126, k130, k650, k1000, k100000, k1000000, k15485863, k32452867, k2147483647, ii_add, ii_sub, ii_neg, ii_mul, ii_lt, ii_le, ii_eq, if_true, if_false, if_pos, if_neg, lL_law_734, ldI_at o77 n77, z6]
      exact f3
    rw [ee]
    exact law_988 hJ hN e0 e1 (by omega) (by omega) (by omega)
theorem kd_17 {k : Int} (hI : LI S μ.1 A) (hN : mN S < 900) (e0 : 0 ≤ e) (e1 : e < 90) (h17 : 17 ≤ k) (h20 : k < 20) : STP kk60 (lL_law_93 kk60 L xs S μ cx 0 74 75 76 77 (ii e) x7 (ii k)) S cx e := by
  obtain ⟨w, w0, w1, hw⟩ := low_at (x7 >>> (5 &&& 31)) (n := 64) (by omega) (by omega)
  obtain ⟨q, q0, q1, hq⟩ := low_at (x7 >>> (11 &&& 31)) (n := 3) (by omega) (by omega)
  obtain ⟨r, r0, r1, hr⟩ := low_at (x7 >>> (13 &&& 31)) (n := 9) (by omega) (by omega)
  have hw : fL_low (x7 >>> (5 &&& 31)) 64 = some (ii w) := hw
  have hq : fL_low (x7 >>> (11 &&& 31)) 3 = some (ii q) := hq
  have hr : fL_low (x7 >>> (13 &&& 31)) 9 = some (ii r) := hr
  have hd4 : dRem (ii w) 4 = some (ii (w % 4)) := dRem_at (n := 4) w0 (by omega) (by omega) (by omega)
  have hd12 : dRem (ii w) 12 = some (ii (w % 12)) := dRem_at (n := 12) w0 (by omega) (by omega) (by omega)
  have hne : ∀ n : Int, 0 ≤ n → n < 17 → ¬ (ii k : Int32) = ii n := fun n n0 n1 => by
    rw [ii_eq (by omega) (by omega) (by omega) (by omega)]
    omega
  unfold lL_law_93
  rw [hw, Option.bind_some, if_pos (show (9 : Int32) ≤ ii k by rw [k9, ii_le (by omega) (by omega) (by omega) (by omega)]; omega), if_neg (show ¬ (ii k : Int32) = 9 from hne 9 (by omega) (by omega)), if_neg (show ¬ (ii k : Int32) = 10 from hne 10 (by omega) (by omega)), if_neg (show ¬ (ii k : Int32) = 11 from hne 11 (by omega) (by omega)), if_neg (show ¬ (ii k : Int32) = 12 from hne 12 (by omega) (by omega)), if_pos (show (16 : Int32) ≤ ii k by rw [k16, ii_le (by omega) (by omega) (by omega) (by omega)]; omega), if_neg (show ¬ (ii k : Int32) = 16 from hne 16 (by omega) (by omega)), if_neg (show ¬ (20 : Int32) ≤ ii k by rw [k20, ii_le (by omega) (by omega) (by omega) (by omega)]; omega), hq, Option.bind_some]
  by_cases hz : q = 0
  · rw [if_pos (show (ii q : Int32) = 0 by rw [hz]; rfl)]
    unfold lL_law_708
    rw [if_pos rfl, hd4, Option.bind_some]
    exact law_734 (d := 0) hI hN e0 e1 (Or.inl ⟨rfl, by omega, by omega⟩)
  · rw [if_neg (show ¬ (ii q : Int32) = 0 by rw [k0, ii_eq (by omega) (by omega) (by omega) (by omega)]; exact hz), hd12, Option.bind_some, show (1 : Int32) + ii (w % 12) = ii (1 + w % 12) by rw [k1, ii_add]]
    unfold lL_law_708
    rw [if_neg (show ¬ (ii (1 + w % 12) : Int32) = 0 by rw [k0, ii_eq (by omega) (by omega) (by omega) (by omega)]; omega), hr, Option.bind_some, show (1 : Int32) + ii r = ii (1 + r) by rw [k1, ii_add]]
    exact law_734 hI hN e0 e1 (Or.inr ⟨by omega, by omega, by omega, by omega⟩)
end LAWI
