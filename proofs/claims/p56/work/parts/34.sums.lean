/-! prices and letters of a sack, by both -/
def lsm (D V : Int → Int) : Nat → Int
  | 0 => 0
  | n + 1 => lsm D V n + (if D n = 0 then 1 else V n)
theorem lsm_b {D V : Int → Int} {k : Int} (hP : PKok k D V) : ∀ n : Nat, n ≤ k → n ≤ lsm D V n ∧ lsm D V n ≤ 40 * n
  | 0, _ => ⟨Int.le_refl _, Int.le_refl _⟩
  | n + 1, h => by
    have := lsm_b hP n (by push_cast at h; omega)
    have h2 := hP n (by omega) (by push_cast at h; omega)
    unfold lsm
    split <;> (push_cast; omega)
theorem csm_at {μ : mMm} {v : Int → Int} (hR : RT μ.1 v) (hW : WF v) {o : Nat} (hK : oSk o) {k : Int} {D V : Int → Int} (hS : SK μ.1 o k D V) (hP : PKok k D V) (hk0 : 0 ≤ k) (hk : k ≤ 40) : fX5_cost oS μ o 7 = some (ii (csm v D k.toNat)) := by
  have e4 := rs_lp hR
  have e5 := rs_rp hR
  have hk2 := hS.1
  have key : ∀ (f n j : Nat), k - j ≤ f → f < n → j ≤ k → lX5_cost_4 oS μ n o 7 (ii (csm v D j)) (ii j) = some (ii (csm v D k.toNat)) := by
    intro f
    induction f with
    | zero =>
      intro n j h1 h2 h3
      obtain ⟨n, rfl⟩ : ∃ k, n = k + 1 := ⟨n - 1, by omega⟩
      have : k.toNat = j := by omega
      rw [this]
      simp (disch := omega) only [Option.bind_some, km1, k0, k1, k2, k3, k4, k5, k6, k7, k8, k9, k10, k11, k15, k16, k20, k32, k33, k39, k40, k43, k44, k45, k48, k49, k50, k51, k52, k57, k59, k60, k63, k64, k80, k97, k100, k101, k108, k112, k114, k117, k126, k130, k650, k100000, k1000000, ii_add, ii_sub, ii_neg, ii_mul, ii_lt, ii_le, ii_eq, if_true, if_false, if_pos, if_neg, gI_0, gI_1, gI_2, gI_4, gI_7, gI_15, gI_59, gI_61, gI_62, gI_66, gI_68, gI_71, gI_72, gR_0_0, gR_0_1, gR_0_3, gR_0_4, gR_0_5, gR_0_6, gR_0_7, gR_0_8, gR_1_0, gR_1_1, gR_1_2, gR_2_0, gR_4_0, gR_4_1, gR_15_0, gR_59_0, gR_61_0, gR_61_1, gR_61_2, gR_62_0, gR_62_1, gR_62_2, gR_66_0, gR_66_1, gR_68_0, gR_68_1, gR_71_0, gR_72_0, ld_3, ld_5, ld_6, ld_60, ld_63, ld_64, ld_65, ld_67, ld_69, ld_70, ld_73, st_3, st_5, st_6, st_60, st_63, st_64, st_65, st_67, st_69, st_70, st_73, aL_3, aL_5, aL_6, aL_60, aL_63, aL_64, aL_65, aL_67, aL_69, aL_70, aL_73, pI_0, pI_1, pI_2, pI_4, pI_7, pI_15, pI_59, pI_61, pI_62, pI_66, pI_68, pI_71, pI_72, ld_16, aL_16, lX5_cost_4, gI_at hK.1, hk2]
    | succ f ih =>
      intro n j h1 h2 h3
      obtain ⟨n, rfl⟩ : ∃ k, n = k + 1 := ⟨n - 1, by omega⟩
      by_cases hj : k ≤ j
      · have : k.toNat = j := by omega
        rw [this]
        simp (disch := omega) only [Option.bind_some, km1, k0, k1, k2, k3, k4, k5, k6, k7, k8, k9, k10, k11, k15, k16, k20, k32, k33, k39, k40, k43, k44, k45, k48, k49, k50, k51, k52, k57, k59, k60, k63, k64, k80, k97, k100, k101, k108, k112, k114, k117, k126, k130, k650, k100000, k1000000, ii_add, ii_sub, ii_neg, ii_mul, ii_lt, ii_le, ii_eq, if_true, if_false, if_pos, if_neg, gI_0, gI_1, gI_2, gI_4, gI_7, gI_15, gI_59, gI_61, gI_62, gI_66, gI_68, gI_71, gI_72, gR_0_0, gR_0_1, gR_0_3, gR_0_4, gR_0_5, gR_0_6, gR_0_7, gR_0_8, gR_1_0, gR_1_1, gR_1_2, gR_2_0, gR_4_0, gR_4_1, gR_15_0, gR_59_0, gR_61_0, gR_61_1, gR_61_2, gR_62_0, gR_62_1, gR_62_2, gR_66_0, gR_66_1, gR_68_0, gR_68_1, gR_71_0, gR_72_0, ld_3, ld_5, ld_6, ld_60, ld_63, ld_64, ld_65, ld_67, ld_69, ld_70, ld_73, st_3, st_5, st_6, st_60, st_63, st_64, st_65, st_67, st_69, st_70, st_73, aL_3, aL_5, aL_6, aL_60, aL_63, aL_64, aL_65, aL_67, aL_69, aL_70, aL_73, pI_0, pI_1, pI_2, pI_4, pI_7, pI_15, pI_59, pI_61, pI_62, pI_66, pI_68, pI_71, pI_72, ld_16, aL_16, lX5_cost_4, gI_at hK.1, hk2]
      · have r1 : μ.1 (o + 1) ((j : Int)).toNat = ii (D j) := (hS.2 j (by omega) (by omega)).1
        have r2 := hP j (by omega) (by omega)
        have g1 : fX5_distance oS μ o (ii j) = some (ii (D j)) := by rw [dist_at hK (by omega) (by omega)]; exact congrArg some r1
        have hI := ih n (j + 1) (by push_cast at h1 ⊢; omega) (by omega) (by omega)
        rw [csm] at hI
        by_cases hd : D j = 0
        · rw [if_pos hd] at hI
          simp (disch := omega) only [Option.bind_some, km1, k0, k1, k2, k3, k4, k5, k6, k7, k8, k9, k10, k11, k15, k16, k20, k32, k33, k39, k40, k43, k44, k45, k48, k49, k50, k51, k52, k57, k59, k60, k63, k64, k80, k97, k100, k101, k108, k112, k114, k117, k126, k130, k650, k100000, k1000000, ii_add, ii_sub, ii_neg, ii_mul, ii_lt, ii_le, ii_eq, if_true, if_false, if_pos, if_neg, gI_0, gI_1, gI_2, gI_4, gI_7, gI_15, gI_59, gI_61, gI_62, gI_66, gI_68, gI_71, gI_72, gR_0_0, gR_0_1, gR_0_3, gR_0_4, gR_0_5, gR_0_6, gR_0_7, gR_0_8, gR_1_0, gR_1_1, gR_1_2, gR_2_0, gR_4_0, gR_4_1, gR_15_0, gR_59_0, gR_61_0, gR_61_1, gR_61_2, gR_62_0, gR_62_1, gR_62_2, gR_66_0, gR_66_1, gR_68_0, gR_68_1, gR_71_0, gR_72_0, ld_3, ld_5, ld_6, ld_60, ld_63, ld_64, ld_65, ld_67, ld_69, ld_70, ld_73, st_3, st_5, st_6, st_60, st_63, st_64, st_65, st_67, st_69, st_70, st_73, aL_3, aL_5, aL_6, aL_60, aL_63, aL_64, aL_65, aL_67, aL_69, aL_70, aL_73, pI_0, pI_1, pI_2, pI_4, pI_7, pI_15, pI_59, pI_61, pI_62, pI_66, pI_68, pI_71, pI_72, ld_16, aL_16, lX5_cost_4, lX5_cost_32, gI_at hK.1, hk2, g1, e4]
          exact hI
        · rw [if_neg hd] at hI
          simp (disch := omega) only [Option.bind_some, km1, k0, k1, k2, k3, k4, k5, k6, k7, k8, k9, k10, k11, k15, k16, k20, k32, k33, k39, k40, k43, k44, k45, k48, k49, k50, k51, k52, k57, k59, k60, k63, k64, k80, k97, k100, k101, k108, k112, k114, k117, k126, k130, k650, k100000, k1000000, ii_add, ii_sub, ii_neg, ii_mul, ii_lt, ii_le, ii_eq, if_true, if_false, if_pos, if_neg, gI_0, gI_1, gI_2, gI_4, gI_7, gI_15, gI_59, gI_61, gI_62, gI_66, gI_68, gI_71, gI_72, gR_0_0, gR_0_1, gR_0_3, gR_0_4, gR_0_5, gR_0_6, gR_0_7, gR_0_8, gR_1_0, gR_1_1, gR_1_2, gR_2_0, gR_4_0, gR_4_1, gR_15_0, gR_59_0, gR_61_0, gR_61_1, gR_61_2, gR_62_0, gR_62_1, gR_62_2, gR_66_0, gR_66_1, gR_68_0, gR_68_1, gR_71_0, gR_72_0, ld_3, ld_5, ld_6, ld_60, ld_63, ld_64, ld_65, ld_67, ld_69, ld_70, ld_73, st_3, st_5, st_6, st_60, st_63, st_64, st_65, st_67, st_69, st_70, st_73, aL_3, aL_5, aL_6, aL_60, aL_63, aL_64, aL_65, aL_67, aL_69, aL_70, aL_73, pI_0, pI_1, pI_2, pI_4, pI_7, pI_15, pI_59, pI_61, pI_62, pI_66, pI_68, pI_71, pI_72, ld_16, aL_16, lX5_cost_4, lX5_cost_32, gI_at hK.1, hk2, g1, e5]
          exact hI
  unfold fX5_cost bX5_cost
  rw [if_pos hK.1]
  exact key 40 FU 0 (by omega) (by decide) (by omega)
theorem lsm_at {μ : mMm} {o : Nat} (hK : oSk o) {k : Int} {D V : Int → Int} (hS : SK μ.1 o k D V) (hP : PKok k D V) (hk0 : 0 ≤ k) (hk : k ≤ 40) : fX5_letters oS μ o = some (ii (lsm D V k.toNat)) := by
  have hk2 := hS.1
  have key : ∀ (f n j : Nat), k - j ≤ f → f < n → j ≤ k → lX5_letters_4 oS μ n o (ii (lsm D V j)) (ii j) = some (ii (lsm D V k.toNat)) := by
    intro f
    induction f with
    | zero =>
      intro n j h1 h2 h3
      obtain ⟨n, rfl⟩ : ∃ k, n = k + 1 := ⟨n - 1, by omega⟩
      have : k.toNat = j := by omega
      rw [this]
      simp (disch := omega) only [Option.bind_some, km1, k0, k1, k2, k3, k4, k5, k6, k7, k8, k9, k10, k11, k15, k16, k20, k32, k33, k39, k40, k43, k44, k45, k48, k49, k50, k51, k52, k57, k59, k60, k63, k64, k80, k97, k100, k101, k108, k112, k114, k117, k126, k130, k650, k100000, k1000000, ii_add, ii_sub, ii_neg, ii_mul, ii_lt, ii_le, ii_eq, if_true, if_false, if_pos, if_neg, gI_0, gI_1, gI_2, gI_4, gI_7, gI_15, gI_59, gI_61, gI_62, gI_66, gI_68, gI_71, gI_72, gR_0_0, gR_0_1, gR_0_3, gR_0_4, gR_0_5, gR_0_6, gR_0_7, gR_0_8, gR_1_0, gR_1_1, gR_1_2, gR_2_0, gR_4_0, gR_4_1, gR_15_0, gR_59_0, gR_61_0, gR_61_1, gR_61_2, gR_62_0, gR_62_1, gR_62_2, gR_66_0, gR_66_1, gR_68_0, gR_68_1, gR_71_0, gR_72_0, ld_3, ld_5, ld_6, ld_60, ld_63, ld_64, ld_65, ld_67, ld_69, ld_70, ld_73, st_3, st_5, st_6, st_60, st_63, st_64, st_65, st_67, st_69, st_70, st_73, aL_3, aL_5, aL_6, aL_60, aL_63, aL_64, aL_65, aL_67, aL_69, aL_70, aL_73, pI_0, pI_1, pI_2, pI_4, pI_7, pI_15, pI_59, pI_61, pI_62, pI_66, pI_68, pI_71, pI_72, ld_16, aL_16, lX5_letters_4, gI_at hK.1, hk2]
    | succ f ih =>
      intro n j h1 h2 h3
      obtain ⟨n, rfl⟩ : ∃ k, n = k + 1 := ⟨n - 1, by omega⟩
      by_cases hj : k ≤ j
      · have : k.toNat = j := by omega
        rw [this]
        simp (disch := omega) only [Option.bind_some, km1, k0, k1, k2, k3, k4, k5, k6, k7, k8, k9, k10, k11, k15, k16, k20, k32, k33, k39, k40, k43, k44, k45, k48, k49, k50, k51, k52, k57, k59, k60, k63, k64, k80, k97, k100, k101, k108, k112, k114, k117, k126, k130, k650, k100000, k1000000, ii_add, ii_sub, ii_neg, ii_mul, ii_lt, ii_le, ii_eq, if_true, if_false, if_pos, if_neg, gI_0, gI_1, gI_2, gI_4, gI_7, gI_15, gI_59, gI_61, gI_62, gI_66, gI_68, gI_71, gI_72, gR_0_0, gR_0_1, gR_0_3, gR_0_4, gR_0_5, gR_0_6, gR_0_7, gR_0_8, gR_1_0, gR_1_1, gR_1_2, gR_2_0, gR_4_0, gR_4_1, gR_15_0, gR_59_0, gR_61_0, gR_61_1, gR_61_2, gR_62_0, gR_62_1, gR_62_2, gR_66_0, gR_66_1, gR_68_0, gR_68_1, gR_71_0, gR_72_0, ld_3, ld_5, ld_6, ld_60, ld_63, ld_64, ld_65, ld_67, ld_69, ld_70, ld_73, st_3, st_5, st_6, st_60, st_63, st_64, st_65, st_67, st_69, st_70, st_73, aL_3, aL_5, aL_6, aL_60, aL_63, aL_64, aL_65, aL_67, aL_69, aL_70, aL_73, pI_0, pI_1, pI_2, pI_4, pI_7, pI_15, pI_59, pI_61, pI_62, pI_66, pI_68, pI_71, pI_72, ld_16, aL_16, lX5_letters_4, gI_at hK.1, hk2]
      · have r1 : μ.1 (o + 1) ((j : Int)).toNat = ii (D j) := (hS.2 j (by omega) (by omega)).1
        have r3 : μ.1 (o + 2) ((j : Int)).toNat = ii (V j) := (hS.2 j (by omega) (by omega)).2
        have r2 := hP j (by omega) (by omega)
        have g1 := len_at hK (i := j) (by omega) (by omega) r1 r3 (by omega) (by omega)
        have hI := ih n (j + 1) (by push_cast at h1 ⊢; omega) (by omega) (by omega)
        rw [lsm] at hI
        simp (disch := omega) only [Option.bind_some, km1, k0, k1, k2, k3, k4, k5, k6, k7, k8, k9, k10, k11, k15, k16, k20, k32, k33, k39, k40, k43, k44, k45, k48, k49, k50, k51, k52, k57, k59, k60, k63, k64, k80, k97, k100, k101, k108, k112, k114, k117, k126, k130, k650, k100000, k1000000, ii_add, ii_sub, ii_neg, ii_mul, ii_lt, ii_le, ii_eq, if_true, if_false, if_pos, if_neg, gI_0, gI_1, gI_2, gI_4, gI_7, gI_15, gI_59, gI_61, gI_62, gI_66, gI_68, gI_71, gI_72, gR_0_0, gR_0_1, gR_0_3, gR_0_4, gR_0_5, gR_0_6, gR_0_7, gR_0_8, gR_1_0, gR_1_1, gR_1_2, gR_2_0, gR_4_0, gR_4_1, gR_15_0, gR_59_0, gR_61_0, gR_61_1, gR_61_2, gR_62_0, gR_62_1, gR_62_2, gR_66_0, gR_66_1, gR_68_0, gR_68_1, gR_71_0, gR_72_0, ld_3, ld_5, ld_6, ld_60, ld_63, ld_64, ld_65, ld_67, ld_69, ld_70, ld_73, st_3, st_5, st_6, st_60, st_63, st_64, st_65, st_67, st_69, st_70, st_73, aL_3, aL_5, aL_6, aL_60, aL_63, aL_64, aL_65, aL_67, aL_69, aL_70, aL_73, pI_0, pI_1, pI_2, pI_4, pI_7, pI_15, pI_59, pI_61, pI_62, pI_66, pI_68, pI_71, pI_72, ld_16, aL_16, lX5_letters_4, gI_at hK.1, hk2, g1]
        exact hI
  unfold fX5_letters bX5_letters
  rw [if_pos hK.1]
  exact key 40 FU 0 (by omega) (by decide) (by omega)
theorem RS_K {m : Nat → Nat → Int32} {v : Int → Int} (h : RS m 1 v) : SK m 4 (v 6) (tkD v) (tkV v) := ⟨h.2.2.1, fun j h0 h1 => h.2.2.2.2.2 j h0 h1⟩
theorem WF_K {v : Int → Int} (hW : WF v) : PKok (v 6) (tkD v) (tkV v) := fun j h0 h1 => wf_k hW h0 h1
def scost (v : Int → Int) : Int := csm v (tkD v) (v 6).toNat
def sletters (v : Int → Int) : Int := lsm (tkD v) (tkV v) (v 6).toNat
theorem scost_b {v : Int → Int} (hW : WF v) : v 6 ≤ scost v ∧ scost v ≤ 800 := by
  have := csm_b (D := tkD v) hW (v 6).toNat
  have g6 := wf_6 hW
  unfold scost
  omega
theorem sletters_b {v : Int → Int} (hW : WF v) : v 6 ≤ sletters v ∧ sletters v ≤ 1600 := by
  have g6 := wf_6 hW
  have := lsm_b (WF_K hW) (v 6).toNat (by omega)
  unfold sletters
  omega
/-! the reference -/