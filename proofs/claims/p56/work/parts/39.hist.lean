/-! the history of both sides -/
def pushH (v : Int → Int) (H : Nat → Int → Int) : Nat → Int → Int
  | 0 => v
  | i + 1 => H i
def HC (m : Nat → Nat → Int32) (c : Int) (H : Nat → Int → Int) : Prop := ∃ nx : Nat, m 15 2 = ii c ∧ m 15 1 = ii (nx : Int) ∧ (0 ≤ c ∧ c ≤ 6) ∧ nx < 6 ∧ ∀ i : Nat, (i : Int) < c → RS m (17 + 7 * ((nx + 11 - i) % 6)) (H i)
theorem HC_fr {m m' : Nat → Nat → Int32} {c : Int} {H : Nat → Int → Int} (h : ∀ b, 15 ≤ b → b < 59 → m' b = m b) (hH : HC m c H) : HC m' c H := by
  obtain ⟨nx, h1, h2, h3, h4, h5⟩ := hH
  refine ⟨nx, by rw [h 15 (by omega) (by omega)]; exact h1, by rw [h 15 (by omega) (by omega)]; exact h2, h3, h4, fun i hi => RS_fr (fun j hj => ?_) (h5 i hi)⟩
  exact h _ (by omega) (by omega)
theorem push_at {μ : mMm} {v : Int → Int} {c : Int} {H : Nat → Int → Int} (hW : WF v) (hR : RS μ.1 1 v) (hH : HC μ.1 c H) : ∃ m', fX1_push oS μ 15 1 = some (m', μ.2) ∧ (∀ b, b < 15 ∨ 59 ≤ b → m' b = μ.1 b) ∧ HC m' (if c < 6 then c + 1 else 6) (pushH v H) := by
  obtain ⟨nx, h1, h2, h3, h4, h5⟩ := hH
  have hr := oSt_r nx h4
  obtain ⟨m1, i1, i2, i3⟩ := stcopy_at (μ := μ) hr oSt_1 (by omega) hW hR
  have e1 : (nx : Int).toNat = nx := Int.toNat_natCast nx
  have e2 := i2 15 (by omega)
  have key : ∀ nx' : Nat, (nx' < 6) → (nx' = (nx + 1) % 6) → ∀ i : Nat, (i : Int) < (if c < 6 then c + 1 else 6) → RS m1 (17 + 7 * ((nx' + 11 - i) % 6)) (pushH v H i) := by
    intro nx' hx hx2 i hi
    cases i with
    | zero =>
      rw [show (nx' + 11 - 0) % 6 = nx by omega]
      exact i3
    | succ i =>
      have hi6 : (i : Int) < c := by
        by_cases h6 : c < 6
        · rw [if_pos h6] at hi
          omega
        · omega
      have hi5 : i < 5 := by
        by_cases h6 : c < 6
        · omega
        · rw [if_neg h6] at hi
          omega
      rw [show (nx' + 11 - (i + 1)) % 6 = (nx + 11 - i) % 6 by omega]
      exact RS_fr (fun j hj => i2 _ (by omega)) (h5 i hi6)
  have fin : ∀ (nx' : Nat) (c' : Int), nx' < 6 → nx' = (nx + 1) % 6 → c' = (if c < 6 then c + 1 else 6) → HC (u2 (u2 m1 15 1 (ii (nx' : Int))) 15 2 (ii c')) (if c < 6 then c + 1 else 6) (pushH v H) := by
    intro nx' c' hx hx2 hc'
    refine ⟨nx', by simp (disch := omega) only [u2_at]; rw [hc'], by simp (disch := omega) only [u2_off, u2_at], ?_, hx, fun i hi => RS_fr (fun j hj => ?_) (key nx' hx hx2 i hi)⟩
    · by_cases h6 : c < 6
      · rw [if_pos h6]
        omega
      · rw [if_neg h6]
        omega
    · simp (disch := omega) only [u2_offr]
  by_cases h6 : c < 6
  · by_cases hn : (nx : Int) < 5
    · refine ⟨u2 (u2 m1 15 1 (ii (((nx + 1 : Nat) : Int)))) 15 2 (ii (c + 1)), ?_, fun b hb => by simp (disch := omega) only [u2_offr]; exact i2 b (by omega), fin (nx + 1) (c + 1) (by omega) (by omega) (by rw [if_pos h6])⟩
      unfold fX1_push bX1_push
      simp (disch := omega) only [Option.bind_some, km1, k0, k1, k2, k3, k4, k5, k6, k7, k8, k9, k10, k11, k15, k16, k20, k32, k33, k39, k40, k43, k44, k45, k48, k49, k50, k51, k52, k57, k59, k60, k63, k64, k80, k97, k100, k101, k108, k112, k114, k117, k126, k130, k650, k100000, k1000000, ii_add, ii_sub, ii_neg, ii_mul, ii_lt, ii_le, ii_eq, if_true, if_false, if_pos, if_neg, gI_0, gI_1, gI_2, gI_4, gI_7, gI_15, gI_59, gI_61, gI_62, gI_66, gI_68, gI_71, gI_72, gR_0_0, gR_0_1, gR_0_3, gR_0_4, gR_0_5, gR_0_6, gR_0_7, gR_0_8, gR_1_0, gR_1_1, gR_1_2, gR_2_0, gR_4_0, gR_4_1, gR_15_0, gR_59_0, gR_61_0, gR_61_1, gR_61_2, gR_62_0, gR_62_1, gR_62_2, gR_66_0, gR_66_1, gR_68_0, gR_68_1, gR_71_0, gR_72_0, ld_3, ld_5, ld_6, ld_60, ld_63, ld_64, ld_65, ld_67, ld_69, ld_70, ld_73, st_3, st_5, st_6, st_60, st_63, st_64, st_65, st_67, st_69, st_70, st_73, aL_3, aL_5, aL_6, aL_60, aL_63, aL_64, aL_65, aL_67, aL_69, aL_70, aL_73, pI_0, pI_1, pI_2, pI_4, pI_7, pI_15, pI_59, pI_61, pI_62, pI_66, pI_68, pI_71, pI_72, ld_16, aL_16, if_pos o15, if_pos o1, h2, e1, i1, lX1_push_44, lX1_push_63, e2, h1, u2_off, Int.natCast_add, Int.cast_ofNat_Int]
    · refine ⟨u2 (u2 m1 15 1 (ii ((0 : Nat) : Int))) 15 2 (ii (c + 1)), ?_, fun b hb => by simp (disch := omega) only [u2_offr]; exact i2 b (by omega), fin 0 (c + 1) (by omega) (by omega) (by rw [if_pos h6])⟩
      unfold fX1_push bX1_push
      simp (disch := omega) only [Option.bind_some, km1, k0, k1, k2, k3, k4, k5, k6, k7, k8, k9, k10, k11, k15, k16, k20, k32, k33, k39, k40, k43, k44, k45, k48, k49, k50, k51, k52, k57, k59, k60, k63, k64, k80, k97, k100, k101, k108, k112, k114, k117, k126, k130, k650, k100000, k1000000, ii_add, ii_sub, ii_neg, ii_mul, ii_lt, ii_le, ii_eq, if_true, if_false, if_pos, if_neg, gI_0, gI_1, gI_2, gI_4, gI_7, gI_15, gI_59, gI_61, gI_62, gI_66, gI_68, gI_71, gI_72, gR_0_0, gR_0_1, gR_0_3, gR_0_4, gR_0_5, gR_0_6, gR_0_7, gR_0_8, gR_1_0, gR_1_1, gR_1_2, gR_2_0, gR_4_0, gR_4_1, gR_15_0, gR_59_0, gR_61_0, gR_61_1, gR_61_2, gR_62_0, gR_62_1, gR_62_2, gR_66_0, gR_66_1, gR_68_0, gR_68_1, gR_71_0, gR_72_0, ld_3, ld_5, ld_6, ld_60, ld_63, ld_64, ld_65, ld_67, ld_69, ld_70, ld_73, st_3, st_5, st_6, st_60, st_63, st_64, st_65, st_67, st_69, st_70, st_73, aL_3, aL_5, aL_6, aL_60, aL_63, aL_64, aL_65, aL_67, aL_69, aL_70, aL_73, pI_0, pI_1, pI_2, pI_4, pI_7, pI_15, pI_59, pI_61, pI_62, pI_66, pI_68, pI_71, pI_72, ld_16, aL_16, if_pos o15, if_pos o1, h2, e1, i1, lX1_push_44, lX1_push_63, e2, h1, u2_off, Int.natCast_add, Int.cast_ofNat_Int]
  · by_cases hn : (nx : Int) < 5
    · refine ⟨u2 (u2 m1 15 1 (ii (((nx + 1 : Nat) : Int)))) 15 2 (ii 6), ?_, fun b hb => by simp (disch := omega) only [u2_offr]; exact i2 b (by omega), fin (nx + 1) 6 (by omega) (by omega) (by rw [if_neg h6])⟩
      unfold fX1_push bX1_push
      simp (disch := omega) only [Option.bind_some, km1, k0, k1, k2, k3, k4, k5, k6, k7, k8, k9, k10, k11, k15, k16, k20, k32, k33, k39, k40, k43, k44, k45, k48, k49, k50, k51, k52, k57, k59, k60, k63, k64, k80, k97, k100, k101, k108, k112, k114, k117, k126, k130, k650, k100000, k1000000, ii_add, ii_sub, ii_neg, ii_mul, ii_lt, ii_le, ii_eq, if_true, if_false, if_pos, if_neg, gI_0, gI_1, gI_2, gI_4, gI_7, gI_15, gI_59, gI_61, gI_62, gI_66, gI_68, gI_71, gI_72, gR_0_0, gR_0_1, gR_0_3, gR_0_4, gR_0_5, gR_0_6, gR_0_7, gR_0_8, gR_1_0, gR_1_1, gR_1_2, gR_2_0, gR_4_0, gR_4_1, gR_15_0, gR_59_0, gR_61_0, gR_61_1, gR_61_2, gR_62_0, gR_62_1, gR_62_2, gR_66_0, gR_66_1, gR_68_0, gR_68_1, gR_71_0, gR_72_0, ld_3, ld_5, ld_6, ld_60, ld_63, ld_64, ld_65, ld_67, ld_69, ld_70, ld_73, st_3, st_5, st_6, st_60, st_63, st_64, st_65, st_67, st_69, st_70, st_73, aL_3, aL_5, aL_6, aL_60, aL_63, aL_64, aL_65, aL_67, aL_69, aL_70, aL_73, pI_0, pI_1, pI_2, pI_4, pI_7, pI_15, pI_59, pI_61, pI_62, pI_66, pI_68, pI_71, pI_72, ld_16, aL_16, if_pos o15, if_pos o1, h2, e1, i1, lX1_push_44, lX1_push_63, e2, h1, u2_off, Int.natCast_add, Int.cast_ofNat_Int]
    · refine ⟨u2 (u2 m1 15 1 (ii ((0 : Nat) : Int))) 15 2 (ii 6), ?_, fun b hb => by simp (disch := omega) only [u2_offr]; exact i2 b (by omega), fin 0 6 (by omega) (by omega) (by rw [if_neg h6])⟩
      unfold fX1_push bX1_push
      simp (disch := omega) only [Option.bind_some, km1, k0, k1, k2, k3, k4, k5, k6, k7, k8, k9, k10, k11, k15, k16, k20, k32, k33, k39, k40, k43, k44, k45, k48, k49, k50, k51, k52, k57, k59, k60, k63, k64, k80, k97, k100, k101, k108, k112, k114, k117, k126, k130, k650, k100000, k1000000, ii_add, ii_sub, ii_neg, ii_mul, ii_lt, ii_le, ii_eq, if_true, if_false, if_pos, if_neg, gI_0, gI_1, gI_2, gI_4, gI_7, gI_15, gI_59, gI_61, gI_62, gI_66, gI_68, gI_71, gI_72, gR_0_0, gR_0_1, gR_0_3, gR_0_4, gR_0_5, gR_0_6, gR_0_7, gR_0_8, gR_1_0, gR_1_1, gR_1_2, gR_2_0, gR_4_0, gR_4_1, gR_15_0, gR_59_0, gR_61_0, gR_61_1, gR_61_2, gR_62_0, gR_62_1, gR_62_2, gR_66_0, gR_66_1, gR_68_0, gR_68_1, gR_71_0, gR_72_0, ld_3, ld_5, ld_6, ld_60, ld_63, ld_64, ld_65, ld_67, ld_69, ld_70, ld_73, st_3, st_5, st_6, st_60, st_63, st_64, st_65, st_67, st_69, st_70, st_73, aL_3, aL_5, aL_6, aL_60, aL_63, aL_64, aL_65, aL_67, aL_69, aL_70, aL_73, pI_0, pI_1, pI_2, pI_4, pI_7, pI_15, pI_59, pI_61, pI_62, pI_66, pI_68, pI_71, pI_72, ld_16, aL_16, if_pos o15, if_pos o1, h2, e1, i1, lX1_push_44, lX1_push_63, e2, h1, u2_off, Int.natCast_add, Int.cast_ofNat_Int]
/-! the reference -/
def RP (m : Nat → Nat → Int32) (c : Int) (H : Nat → Int → Int) : Prop := m 74 2 = ii c ∧ (0 ≤ c ∧ c ≤ 6) ∧ ∀ i : Nat, (i : Int) < c → RM m 76 ((c - 1 - i) * 130) (H i)