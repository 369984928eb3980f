/-! the history of both sides -/
def pushH (v : Int → Int) (H : Nat → Int → Int) : Nat → Int → Int
  | 0 => v
  | i + 1 => H i
def HC (m : Nat → Nat → Int32) (c : Int) (H : Nat → Int → Int) : Prop := ∃ nx : Nat, m 15 2 = ii c ∧ m 15 1 = ii (nx : Int) ∧ (0 ≤ c ∧ c ≤ 6) ∧ nx < 6 ∧ ∀ i : Nat, (i : Int) < c → RS m (17 + 7 * ((nx + 11 - i) % 6)) (H i)
theorem HC_fr {m m' : Nat → Nat → Int32} {c : Int} {H : Nat → Int → Int} (h : ∀ b, 15 ≤ b → b < 59 → m' b = m b) (hH : HC m c H) : HC m' c H := by
  obtain ⟨nx, h1, h2, h3, h4, h5⟩ := hH
  refine ⟨nx, by rw [h 15 (by omega) (by omega)]; exact h1, by rw [h 15 (by omega) (by omega)]; exact h2, h3, h4, fun i hi => RS_fr (fun j hj => ?_) (h5 i hi)⟩
  exact h _ (by omega) (by omega)
theorem push_at {μ : mMm} {v : Int → Int} {c : Int} {H : Nat → Int → Int} (hW : WF v) (hR : RS μ.1 1 v) (hH : HC μ.1 c H) : ∃ m', fX1_push oS μ 15 1 = some (m', μ.2) ∧ (∀ b, b < 15 ∨ 59 ≤ b → m' b = μ.1 b) ∧ HC m' (if c < 6 then c + 1 else 6) (pushH v H) := by
  obtain ⟨nx, h1, h2, h3, h4, h5⟩ := hH
  have hr := oSt_r nx h4
  obtain ⟨m1, i1, i2, i3⟩ := stcopy_at (μ := μ) hr oSt_1 (by omega) hW hR
  have e1 : (nx : Int).toNat = nx := Int.toNat_natCast nx
  have e2 := i2 15 (by omega)
  have key : ∀ nx' : Nat, (nx' < 6) → (nx' = (nx + 1) % 6) → ∀ i : Nat, (i : Int) < (if c < 6 then c + 1 else 6) → RS m1 (17 + 7 * ((nx' + 11 - i) % 6)) (pushH v H i) := by
    intro nx' hx hx2 i hi
    cases i with
    | zero =>
      rw [show (nx' + 11 - 0) % 6 = nx by omega]
      exact i3
    | succ i =>
      have hi6 : (i : Int) < c := by
        by_cases h6 : c < 6
        · rw [if_pos h6] at hi
          omega
        · omega
      have hi5 : i < 5 := by
        by_cases h6 : c < 6
        · omega
        · rw [if_neg h6] at hi
          omega
      rw [show (nx' + 11 - (i + 1)) % 6 = (nx + 11 - i) % 6 by omega]
      exact RS_fr (fun j hj => i2 _ (by omega)) (h5 i hi6)
  have fin : ∀ (nx' : Nat) (c' : Int), nx' < 6 → nx' = (nx + 1) % 6 → c' = (if c < 6 then c + 1 else 6) → HC (u2 (u2 m1 15 1 (ii (nx' : Int))) 15 2 (ii c')) (if c < 6 then c + 1 else 6) (pushH v H) := by
    intro nx' c' hx hx2 hc'
    refine ⟨nx', by simp (disch := omega) only [u2_at]; rw [hc'], by simp (disch := omega) only [u2_off, u2_at], ?_, hx, fun i hi => RS_fr (fun j hj => ?_) (key nx' hx hx2 i hi)⟩
    · by_cases h6 : c < 6
      · rw [if_pos h6]
        omega
      · rw [if_neg h6]
        omega
    · simp (disch := omega) only [u2_offr]
  by_cases h6 : c < 6
  · by_cases hn : (nx : Int) < 5
    · refine ⟨u2 (u2 m1 15 1 (ii (((nx + 1 : Nat) : Int)))) 15 2 (ii (c + 1)), ?_, fun b hb => by simp (disch := omega) only [u2_offr]; exact i2 b (by omega), fin (nx + 1) (c + 1) (by omega) (by omega) (by rw [if_pos h6])⟩
      unfold fX1_push bX1_push
      simp (disch := omega) only [Option.bind_some, km1, k0, k1, k2, k3, k4, k5, k6, k7, k8, k9, k10, k11, k15, k16, k20, k32, k33, k39, k40, k43, k44, k45, k48, k49, k50, k51, k52, k57, k59, k60, k63, k64, k80, k97, k100, k101, k108, k112, k114, k117, k126, k130, k650, k100000, k1000000, ii_add, ii_sub, ii_neg, ii_mul, ii_lt, ii_le, ii_eq, if_true, if_false, if_pos, if_neg, gI_0, gI_1, gI_2, gI_4, gI_7, gI_15, gI_59, gI_61, gI_62, gI_66, gI_68, gI_71, gI_72, gI_74, gR_0_0, gR_0_1, gR_0_3, gR_0_4, gR_0_5, gR_0_6, gR_0_7, gR_0_8, gR_1_0, gR_1_1, gR_1_2, gR_2_0, gR_4_0, gR_4_1, gR_15_0, gR_59_0, gR_61_0, gR_61_1, gR_61_2, gR_62_0, gR_62_1, gR_62_2, gR_66_0, gR_66_1, gR_68_0, gR_68_1, gR_71_0, gR_72_0, gR_74_0, gR_74_1, gR_74_3, gR_74_5, gR_74_7, gR_74_8, gR_74_9, gR_74_15, ld_3, ld_5, ld_6, ld_60, ld_63, ld_64, ld_65, ld_67, ld_69, ld_70, ld_73, ld_75, ld_76, ld_77, ld_78, ld_79, ld_80, ld_82, st_3, st_5, st_6, st_60, st_63, st_64, st_65, st_67, st_69, st_70, st_73, st_75, st_76, st_77, st_78, st_79, st_80, st_82, aL_3, aL_5, aL_6, aL_60, aL_63, aL_64, aL_65, aL_67, aL_69, aL_70, aL_73, aL_75, aL_76, aL_77, aL_78, aL_79, aL_80, aL_82, pI_0, pI_1, pI_2, pI_4, pI_7, pI_15, pI_59, pI_61, pI_62, pI_66, pI_68, pI_71, pI_72, pI_74, ld_81, ld_16, aL_16, if_pos o15, if_pos o1, h2, e1, i1, lX1_push_44, lX1_push_63, e2, h1, u2_off, Int.natCast_add, Int.cast_ofNat_Int]
    · refine ⟨u2 (u2 m1 15 1 (ii ((0 : Nat) : Int))) 15 2 (ii (c + 1)), ?_, fun b hb => by simp (disch := omega) only [u2_offr]; exact i2 b (by omega), fin 0 (c + 1) (by omega) (by omega) (by rw [if_pos h6])⟩
      unfold fX1_push bX1_push
      simp (disch := omega) only [Option.bind_some, km1, k0, k1, k2, k3, k4, k5, k6, k7, k8, k9, k10, k11, k15, k16, k20, k32, k33, k39, k40, k43, k44, k45, k48, k49, k50, k51, k52, k57, k59, k60, k63, k64, k80, k97, k100, k101, k108, k112, k114, k117, k126, k130, k650, k100000, k1000000, ii_add, ii_sub, ii_neg, ii_mul, ii_lt, ii_le, ii_eq, if_true, if_false, if_pos, if_neg, gI_0, gI_1, gI_2, gI_4, gI_7, gI_15, gI_59, gI_61, gI_62, gI_66, gI_68, gI_71, gI_72, gI_74, gR_0_0, gR_0_1, gR_0_3, gR_0_4, gR_0_5, gR_0_6, gR_0_7, gR_0_8, gR_1_0, gR_1_1, gR_1_2, gR_2_0, gR_4_0, gR_4_1, gR_15_0, gR_59_0, gR_61_0, gR_61_1, gR_61_2, gR_62_0, gR_62_1, gR_62_2, gR_66_0, gR_66_1, gR_68_0, gR_68_1, gR_71_0, gR_72_0, gR_74_0, gR_74_1, gR_74_3, gR_74_5, gR_74_7, gR_74_8, gR_74_9, gR_74_15, ld_3, ld_5, ld_6, ld_60, ld_63, ld_64, ld_65, ld_67, ld_69, ld_70, ld_73, ld_75, ld_76, ld_77, ld_78, ld_79, ld_80, ld_82, st_3, st_5, st_6, st_60, st_63, st_64, st_65, st_67, st_69, st_70, st_73, st_75, st_76, st_77, st_78, st_79, st_80, st_82, aL_3, aL_5, aL_6, aL_60, aL_63, aL_64, aL_65, aL_67, aL_69, aL_70, aL_73, aL_75, aL_76, aL_77, aL_78, aL_79, aL_80, aL_82, pI_0, pI_1, pI_2, pI_4, pI_7, pI_15, pI_59, pI_61, pI_62, pI_66, pI_68, pI_71, pI_72, pI_74, ld_81, ld_16, aL_16, if_pos o15, if_pos o1, h2, e1, i1, lX1_push_44, lX1_push_63, e2, h1, u2_off, Int.natCast_add, Int.cast_ofNat_Int]
  · by_cases hn : (nx : Int) < 5
    · refine ⟨u2 (u2 m1 15 1 (ii (((nx + 1 : Nat) : Int)))) 15 2 (ii 6), ?_, fun b hb => by simp (disch := omega) only [u2_offr]; exact i2 b (by omega), fin (nx + 1) 6 (by omega) (by omega) (by rw [if_neg h6])⟩
      unfold fX1_push bX1_push
      simp (disch := omega) only [Option.bind_some, km1, k0, k1, k2, k3, k4, k5, k6, k7, k8, k9, k10, k11, k15, k16, k20, k32, k33, k39, k40, k43, k44, k45, k48, k49, k50, k51, k52, k57, k59, k60, k63, k64, k80, k97, k100, k101, k108, k112, k114, k117, k126, k130, k650, k100000, k1000000, ii_add, ii_sub, ii_neg, ii_mul, ii_lt, ii_le, ii_eq, if_true, if_false, if_pos, if_neg, gI_0, gI_1, gI_2, gI_4, gI_7, gI_15, gI_59, gI_61, gI_62, gI_66, gI_68, gI_71, gI_72, gI_74, gR_0_0, gR_0_1, gR_0_3, gR_0_4, gR_0_5, gR_0_6, gR_0_7, gR_0_8, gR_1_0, gR_1_1, gR_1_2, gR_2_0, gR_4_0, gR_4_1, gR_15_0, gR_59_0, gR_61_0, gR_61_1, gR_61_2, gR_62_0, gR_62_1, gR_62_2, gR_66_0, gR_66_1, gR_68_0, gR_68_1, gR_71_0, gR_72_0, gR_74_0, gR_74_1, gR_74_3, gR_74_5, gR_74_7, gR_74_8, gR_74_9, gR_74_15, ld_3, ld_5, ld_6, ld_60, ld_63, ld_64, ld_65, ld_67, ld_69, ld_70, ld_73, ld_75, ld_76, ld_77, ld_78, ld_79, ld_80, ld_82, st_3, st_5, st_6, st_60, st_63, st_64, st_65, st_67, st_69, st_70, st_73, st_75, st_76, st_77, st_78, st_79, st_80, st_82, aL_3, aL_5, aL_6, aL_60, aL_63, aL_64, aL_65, aL_67, aL_69, aL_70, aL_73, aL_75, aL_76, aL_77, aL_78, aL_79, aL_80, aL_82, pI_0, pI_1, pI_2, pI_4, pI_7, pI_15, pI_59, pI_61, pI_62, pI_66, pI_68, pI_71, pI_72, pI_74, ld_81, ld_16, aL_16, if_pos o15, if_pos o1, h2, e1, i1, lX1_push_44, lX1_push_63, e2, h1, u2_off, Int.natCast_add, Int.cast_ofNat_Int]
    · refine ⟨u2 (u2 m1 15 1 (ii ((0 : Nat) : Int))) 15 2 (ii 6), ?_, fun b hb => by simp (disch := omega) only [u2_offr]; exact i2 b (by omega), fin 0 6 (by omega) (by omega) (by rw [if_neg h6])⟩
      unfold fX1_push bX1_push
      simp (disch := omega) only [Option.bind_some, km1, k0, k1, k2, k3, k4, k5, k6, k7, k8, k9, k10, k11, k15, k16, k20, k32, k33, k39, k40, k43, k44, k45, k48, k49, k50, k51, k52, k57, k59, k60, k63, k64, k80, k97, k100, k101, k108, k112, k114, k117, k126, k130, k650, k100000, k1000000, ii_add, ii_sub, ii_neg, ii_mul, ii_lt, ii_le, ii_eq, if_true, if_false, if_pos, if_neg, gI_0, gI_1, gI_2, gI_4, gI_7, gI_15, gI_59, gI_61, gI_62, gI_66, gI_68, gI_71, gI_72, gI_74, gR_0_0, gR_0_1, gR_0_3, gR_0_4, gR_0_5, gR_0_6, gR_0_7, gR_0_8, gR_1_0, gR_1_1, gR_1_2, gR_2_0, gR_4_0, gR_4_1, gR_15_0, gR_59_0, gR_61_0, gR_61_1, gR_61_2, gR_62_0, gR_62_1, gR_62_2, gR_66_0, gR_66_1, gR_68_0, gR_68_1, gR_71_0, gR_72_0, gR_74_0, gR_74_1, gR_74_3, gR_74_5, gR_74_7, gR_74_8, gR_74_9, gR_74_15, ld_3, ld_5, ld_6, ld_60, ld_63, ld_64, ld_65, ld_67, ld_69, ld_70, ld_73, ld_75, ld_76, ld_77, ld_78, ld_79, ld_80, ld_82, st_3, st_5, st_6, st_60, st_63, st_64, st_65, st_67, st_69, st_70, st_73, st_75, st_76, st_77, st_78, st_79, st_80, st_82, aL_3, aL_5, aL_6, aL_60, aL_63, aL_64, aL_65, aL_67, aL_69, aL_70, aL_73, aL_75, aL_76, aL_77, aL_78, aL_79, aL_80, aL_82, pI_0, pI_1, pI_2, pI_4, pI_7, pI_15, pI_59, pI_61, pI_62, pI_66, pI_68, pI_71, pI_72, pI_74, ld_81, ld_16, aL_16, if_pos o15, if_pos o1, h2, e1, i1, lX1_push_44, lX1_push_63, e2, h1, u2_off, Int.natCast_add, Int.cast_ofNat_Int]
theorem pop_at {μ : mMm} {c : Int} {H : Nat → Int → Int} (hW : WF (H 0)) (hH : HC μ.1 c H) (hc : 0 < c) : ∃ m', fX1_popInto oS μ 15 1 = some (m', μ.2) ∧ (∀ b, b < 1 ∨ 8 ≤ b → b ≠ 15 → m' b = μ.1 b) ∧ HC m' (c - 1) (fun i => H (i + 1)) ∧ RS m' 1 (H 0) := by
  obtain ⟨nx, h1, h2, h3, h4, h5⟩ := hH
  have key : ∀ nx' : Nat, nx' < 6 → nx' = (nx + 5) % 6 → ∃ m', fX7_copyFrom oS (u2 (u2 μ.1 15 1 (ii (nx' : Int))) 15 2 (ii (c - 1)), μ.2) 1 (17 + 7 * nx') = some (m', μ.2) ∧ (∀ b, b < 1 ∨ 8 ≤ b → b ≠ 15 → m' b = μ.1 b) ∧ HC m' (c - 1) (fun i => H (i + 1)) ∧ RS m' 1 (H 0) := by
    intro nx' hx hx2
    have r0 := h5 0 (by omega)
    rw [show (nx + 11 - 0) % 6 = nx' by omega] at r0
    obtain ⟨m1, i1, i2, i3⟩ := stcopy_at (μ := (u2 (u2 μ.1 15 1 (ii (nx' : Int))) 15 2 (ii (c - 1)), μ.2)) oSt_1 (oSt_r nx' hx) (by omega) hW (RS_fr (fun j hj => by simp (disch := omega) only [u2_offr]) r0)
    refine ⟨m1, i1, fun b hb hb2 => (i2 b hb).trans (by simp (disch := omega) only [u2_offr]), ⟨nx', ?_, ?_, by omega, hx, fun i hi => ?_⟩, i3⟩
    · rw [i2 15 (by omega)]
      simp (disch := omega) only [u2_at]
    · rw [i2 15 (by omega)]
      simp (disch := omega) only [u2_off, u2_at]
    · have r := h5 (i + 1) (by omega)
      rw [show (nx + 11 - (i + 1)) % 6 = (nx' + 11 - i) % 6 by omega] at r
      exact RS_fr (fun j hj => (i2 _ (by omega)).trans (by simp (disch := omega) only [u2_offr])) r
  by_cases hn : 0 < (nx : Int)
  · obtain ⟨m1, i1, i2⟩ := key (nx - 1) (by omega) (by omega)
    refine ⟨m1, ?_, i2⟩
    have e1 : ((nx : Int) - 1).toNat = nx - 1 := by omega
    have e3 : ((nx - 1 : Nat) : Int) = (nx : Int) - 1 := by omega
    rw [e3] at i1
    unfold fX1_popInto bX1_popInto
    simp (disch := omega) only [Option.bind_some, km1, k0, k1, k2, k3, k4, k5, k6, k7, k8, k9, k10, k11, k15, k16, k20, k32, k33, k39, k40, k43, k44, k45, k48, k49, k50, k51, k52, k57, k59, k60, k63, k64, k80, k97, k100, k101, k108, k112, k114, k117, k126, k130, k650, k100000, k1000000, ii_add, ii_sub, ii_neg, ii_mul, ii_lt, ii_le, ii_eq, if_true, if_false, if_pos, if_neg, gI_0, gI_1, gI_2, gI_4, gI_7, gI_15, gI_59, gI_61, gI_62, gI_66, gI_68, gI_71, gI_72, gI_74, gR_0_0, gR_0_1, gR_0_3, gR_0_4, gR_0_5, gR_0_6, gR_0_7, gR_0_8, gR_1_0, gR_1_1, gR_1_2, gR_2_0, gR_4_0, gR_4_1, gR_15_0, gR_59_0, gR_61_0, gR_61_1, gR_61_2, gR_62_0, gR_62_1, gR_62_2, gR_66_0, gR_66_1, gR_68_0, gR_68_1, gR_71_0, gR_72_0, gR_74_0, gR_74_1, gR_74_3, gR_74_5, gR_74_7, gR_74_8, gR_74_9, gR_74_15, ld_3, ld_5, ld_6, ld_60, ld_63, ld_64, ld_65, ld_67, ld_69, ld_70, ld_73, ld_75, ld_76, ld_77, ld_78, ld_79, ld_80, ld_82, st_3, st_5, st_6, st_60, st_63, st_64, st_65, st_67, st_69, st_70, st_73, st_75, st_76, st_77, st_78, st_79, st_80, st_82, aL_3, aL_5, aL_6, aL_60, aL_63, aL_64, aL_65, aL_67, aL_69, aL_70, aL_73, aL_75, aL_76, aL_77, aL_78, aL_79, aL_80, aL_82, pI_0, pI_1, pI_2, pI_4, pI_7, pI_15, pI_59, pI_61, pI_62, pI_66, pI_68, pI_71, pI_72, pI_74, ld_81, ld_16, aL_16, if_pos o15, if_pos o1, h2, lX1_popInto_18, h1, u2_off, u2_at, e1]
    rw [i1]
    rfl
  · obtain ⟨m1, i1, i2⟩ := key 5 (by omega) (by omega)
    refine ⟨m1, ?_, i2⟩
    have e1 : (5 : Int).toNat = 5 := rfl
    have e3 : ((5 : Nat) : Int) = 5 := rfl
    rw [e3] at i1
    unfold fX1_popInto bX1_popInto
    simp (disch := omega) only [Option.bind_some, km1, k0, k1, k2, k3, k4, k5, k6, k7, k8, k9, k10, k11, k15, k16, k20, k32, k33, k39, k40, k43, k44, k45, k48, k49, k50, k51, k52, k57, k59, k60, k63, k64, k80, k97, k100, k101, k108, k112, k114, k117, k126, k130, k650, k100000, k1000000, ii_add, ii_sub, ii_neg, ii_mul, ii_lt, ii_le, ii_eq, if_true, if_false, if_pos, if_neg, gI_0, gI_1, gI_2, gI_4, gI_7, gI_15, gI_59, gI_61, gI_62, gI_66, gI_68, gI_71, gI_72, gI_74, gR_0_0, gR_0_1, gR_0_3, gR_0_4, gR_0_5, gR_0_6, gR_0_7, gR_0_8, gR_1_0, gR_1_1, gR_1_2, gR_2_0, gR_4_0, gR_4_1, gR_15_0, gR_59_0, gR_61_0, gR_61_1, gR_61_2, gR_62_0, gR_62_1, gR_62_2, gR_66_0, gR_66_1, gR_68_0, gR_68_1, gR_71_0, gR_72_0, gR_74_0, gR_74_1, gR_74_3, gR_74_5, gR_74_7, gR_74_8, gR_74_9, gR_74_15, ld_3, ld_5, ld_6, ld_60, ld_63, ld_64, ld_65, ld_67, ld_69, ld_70, ld_73, ld_75, ld_76, ld_77, ld_78, ld_79, ld_80, ld_82, st_3, st_5, st_6, st_60, st_63, st_64, st_65, st_67, st_69, st_70, st_73, st_75, st_76, st_77, st_78, st_79, st_80, st_82, aL_3, aL_5, aL_6, aL_60, aL_63, aL_64, aL_65, aL_67, aL_69, aL_70, aL_73, aL_75, aL_76, aL_77, aL_78, aL_79, aL_80, aL_82, pI_0, pI_1, pI_2, pI_4, pI_7, pI_15, pI_59, pI_61, pI_62, pI_66, pI_68, pI_71, pI_72, pI_74, ld_81, ld_16, aL_16, if_pos o15, if_pos o1, h2, lX1_popInto_18, h1, u2_off, u2_at, e1]
    rw [i1]
    rfl
/-! the reference -/
def RP (m : Nat → Nat → Int32) (c : Int) (H : Nat → Int → Int) : Prop := m 74 2 = ii c ∧ (0 ≤ c ∧ c ≤ 6) ∧ ∀ i : Nat, (i : Int) < c → RM m 76 ((c - 1 - i) * 130) (H i)
theorem rec_loop {c : Int} {v : Int → Int} (hc0 : 0 ≤ c) (hc5 : c ≤ 5) : ∀ (f n : Nat) (x : Int) (μ : mMm), 130 - x ≤ f → f < n → 0 ≤ x → x ≤ 130 → μ.1 74 2 = ii c → RZ μ.1 v → (∀ k, 0 ≤ k → k < x → μ.1 76 (c * 130 + k).toNat = ii (v k)) → ∃ m', lX11_record_52 oS n μ 74 (ii x) = some (m', μ.2) ∧ (∀ b, b ≠ 76 → b ≠ 74 → m' b = μ.1 b) ∧ (∀ b, b ≠ 2 → m' 74 b = μ.1 74 b) ∧ m' 74 2 = ii (c + 1) ∧ (∀ i : Int, 0 ≤ i → i < c * 130 → m' 76 i.toNat = μ.1 76 i.toNat) ∧ RM m' 76 (c * 130) v := by
  intro f
  induction f with
  | zero =>
    intro n x μ h1 h2 h3 h4 hc hR hA
    obtain ⟨n, rfl⟩ : ∃ k, n = k + 1 := ⟨n - 1, by omega⟩
    have : x = 130 := by push_cast at h1; omega
    subst this
    refine ⟨u2 μ.1 74 2 (ii (c + 1)), ?_, fun b hb hb1 => by simp (disch := omega) only [u2_offr], fun b hb => by simp (disch := omega) only [u2_off], by simp (disch := omega) only [u2_at], fun i h5 h6 => by simp (disch := omega) only [u2_offr], fun k h5 h6 => by simp (disch := omega) only [u2_offr]; exact hA k h5 h6⟩
    simp (disch := omega) only [Option.bind_some, km1, k0, k1, k2, k3, k4, k5, k6, k7, k8, k9, k10, k11, k15, k16, k20, k32, k33, k39, k40, k43, k44, k45, k48, k49, k50, k51, k52, k57, k59, k60, k63, k64, k80, k97, k100, k101, k108, k112, k114, k117, k126, k130, k650, k100000, k1000000, ii_add, ii_sub, ii_neg, ii_mul, ii_lt, ii_le, ii_eq, if_true, if_false, if_pos, if_neg, gI_0, gI_1, gI_2, gI_4, gI_7, gI_15, gI_59, gI_61, gI_62, gI_66, gI_68, gI_71, gI_72, gI_74, gR_0_0, gR_0_1, gR_0_3, gR_0_4, gR_0_5, gR_0_6, gR_0_7, gR_0_8, gR_1_0, gR_1_1, gR_1_2, gR_2_0, gR_4_0, gR_4_1, gR_15_0, gR_59_0, gR_61_0, gR_61_1, gR_61_2, gR_62_0, gR_62_1, gR_62_2, gR_66_0, gR_66_1, gR_68_0, gR_68_1, gR_71_0, gR_72_0, gR_74_0, gR_74_1, gR_74_3, gR_74_5, gR_74_7, gR_74_8, gR_74_9, gR_74_15, ld_3, ld_5, ld_6, ld_60, ld_63, ld_64, ld_65, ld_67, ld_69, ld_70, ld_73, ld_75, ld_76, ld_77, ld_78, ld_79, ld_80, ld_82, st_3, st_5, st_6, st_60, st_63, st_64, st_65, st_67, st_69, st_70, st_73, st_75, st_76, st_77, st_78, st_79, st_80, st_82, aL_3, aL_5, aL_6, aL_60, aL_63, aL_64, aL_65, aL_67, aL_69, aL_70, aL_73, aL_75, aL_76, aL_77, aL_78, aL_79, aL_80, aL_82, pI_0, pI_1, pI_2, pI_4, pI_7, pI_15, pI_59, pI_61, pI_62, pI_66, pI_68, pI_71, pI_72, pI_74, ld_81, ld_16, aL_16, lX11_record_52, hc]
  | succ f ih =>
    intro n x μ h1 h2 h3 h4 hc hR hA
    obtain ⟨n, rfl⟩ : ∃ k, n = k + 1 := ⟨n - 1, by omega⟩
    by_cases hx : x = 130
    · subst hx
      refine ⟨u2 μ.1 74 2 (ii (c + 1)), ?_, fun b hb hb1 => by simp (disch := omega) only [u2_offr], fun b hb => by simp (disch := omega) only [u2_off], by simp (disch := omega) only [u2_at], fun i h5 h6 => by simp (disch := omega) only [u2_offr], fun k h5 h6 => by simp (disch := omega) only [u2_offr]; exact hA k h5 h6⟩
      simp (disch := omega) only [Option.bind_some, km1, k0, k1, k2, k3, k4, k5, k6, k7, k8, k9, k10, k11, k15, k16, k20, k32, k33, k39, k40, k43, k44, k45, k48, k49, k50, k51, k52, k57, k59, k60, k63, k64, k80, k97, k100, k101, k108, k112, k114, k117, k126, k130, k650, k100000, k1000000, ii_add, ii_sub, ii_neg, ii_mul, ii_lt, ii_le, ii_eq, if_true, if_false, if_pos, if_neg, gI_0, gI_1, gI_2, gI_4, gI_7, gI_15, gI_59, gI_61, gI_62, gI_66, gI_68, gI_71, gI_72, gI_74, gR_0_0, gR_0_1, gR_0_3, gR_0_4, gR_0_5, gR_0_6, gR_0_7, gR_0_8, gR_1_0, gR_1_1, gR_1_2, gR_2_0, gR_4_0, gR_4_1, gR_15_0, gR_59_0, gR_61_0, gR_61_1, gR_61_2, gR_62_0, gR_62_1, gR_62_2, gR_66_0, gR_66_1, gR_68_0, gR_68_1, gR_71_0, gR_72_0, gR_74_0, gR_74_1, gR_74_3, gR_74_5, gR_74_7, gR_74_8, gR_74_9, gR_74_15, ld_3, ld_5, ld_6, ld_60, ld_63, ld_64, ld_65, ld_67, ld_69, ld_70, ld_73, ld_75, ld_76, ld_77, ld_78, ld_79, ld_80, ld_82, st_3, st_5, st_6, st_60, st_63, st_64, st_65, st_67, st_69, st_70, st_73, st_75, st_76, st_77, st_78, st_79, st_80, st_82, aL_3, aL_5, aL_6, aL_60, aL_63, aL_64, aL_65, aL_67, aL_69, aL_70, aL_73, aL_75, aL_76, aL_77, aL_78, aL_79, aL_80, aL_82, pI_0, pI_1, pI_2, pI_4, pI_7, pI_15, pI_59, pI_61, pI_62, pI_66, pI_68, pI_71, pI_72, pI_74, ld_81, ld_16, aL_16, lX11_record_52, hc]
    · have hZ := hR
      unfold RZ at hZ
      obtain ⟨m', j1, j2, j3, j4, j5, j6⟩ := ih n (x + 1) (u2 μ.1 76 (c * 130 + x).toNat (ii (v x)), μ.2) (by push_cast at h1; omega) (by omega) (by omega) (by omega) (by simp (disch := omega) only [u2_off]; exact hc) (RZ_fr (by simp (disch := omega) only [u2_offr]) hR) (fun k h5 h6 => by
        by_cases hk : k = x
        · subst hk
          simp (disch := omega) only [u2_at]
        · simp (disch := omega) only [u2_off]
          exact hA k h5 (by omega))
      refine ⟨m', ?_, fun b hb hb1 => (j2 b hb hb1).trans (by simp (disch := omega) only [u2_offr]), fun b hb => (j3 b hb).trans (by simp (disch := omega) only [u2_off]), j4, fun i h5 h6 => (j5 i h5 h6).trans (by simp (disch := omega) only [u2_off]), j6⟩
      rw [← j1]
      simp (disch := omega) only [Option.bind_some, km1, k0, k1, k2, k3, k4, k5, k6, k7, k8, k9, k10, k11, k15, k16, k20, k32, k33, k39, k40, k43, k44, k45, k48, k49, k50, k51, k52, k57, k59, k60, k63, k64, k80, k97, k100, k101, k108, k112, k114, k117, k126, k130, k650, k100000, k1000000, ii_add, ii_sub, ii_neg, ii_mul, ii_lt, ii_le, ii_eq, if_true, if_false, if_pos, if_neg, gI_0, gI_1, gI_2, gI_4, gI_7, gI_15, gI_59, gI_61, gI_62, gI_66, gI_68, gI_71, gI_72, gI_74, gR_0_0, gR_0_1, gR_0_3, gR_0_4, gR_0_5, gR_0_6, gR_0_7, gR_0_8, gR_1_0, gR_1_1, gR_1_2, gR_2_0, gR_4_0, gR_4_1, gR_15_0, gR_59_0, gR_61_0, gR_61_1, gR_61_2, gR_62_0, gR_62_1, gR_62_2, gR_66_0, gR_66_1, gR_68_0, gR_68_1, gR_71_0, gR_72_0, gR_74_0, gR_74_1, gR_74_3, gR_74_5, gR_74_7, gR_74_8, gR_74_9, gR_74_15, ld_3, ld_5, ld_6, ld_60, ld_63, ld_64, ld_65, ld_67, ld_69, ld_70, ld_73, ld_75, ld_76, ld_77, ld_78, ld_79, ld_80, ld_82, st_3, st_5, st_6, st_60, st_63, st_64, st_65, st_67, st_69, st_70, st_73, st_75, st_76, st_77, st_78, st_79, st_80, st_82, aL_3, aL_5, aL_6, aL_60, aL_63, aL_64, aL_65, aL_67, aL_69, aL_70, aL_73, aL_75, aL_76, aL_77, aL_78, aL_79, aL_80, aL_82, pI_0, pI_1, pI_2, pI_4, pI_7, pI_15, pI_59, pI_61, pI_62, pI_66, pI_68, pI_71, pI_72, pI_74, ld_81, ld_16, aL_16, lX11_record_52, hc, hZ]
theorem rshift_loop : ∀ (f n : Nat) (x : Int) (μ : mMm), 650 - x ≤ f → f < n → 0 ≤ x → x ≤ 650 → μ.1 74 2 = ii 6 → ∃ m', lX11_record_11 oS n μ 74 (ii x) = lX11_record_50 oS (m', μ.2) 74 ∧ (∀ b, b ≠ 76 → b ≠ 74 → m' b = μ.1 b) ∧ (∀ b, b ≠ 2 → m' 74 b = μ.1 74 b) ∧ m' 74 2 = ii 5 ∧ (∀ i : Int, 0 ≤ i → i < 650 → m' 76 i.toNat = if i < x then μ.1 76 i.toNat else μ.1 76 (i + 130).toNat) := by
  intro f
  induction f with
  | zero =>
    intro n x μ h1 h2 h3 h4 hc
    obtain ⟨n, rfl⟩ : ∃ k, n = k + 1 := ⟨n - 1, by omega⟩
    have : x = 650 := by push_cast at h1; omega
    subst this
    refine ⟨u2 μ.1 74 2 (ii 5), ?_, fun b hb hb1 => by simp (disch := omega) only [u2_offr], fun b hb => by simp (disch := omega) only [u2_off], by simp (disch := omega) only [u2_at], fun i h5 h6 => by rw [if_pos h6]; simp (disch := omega) only [u2_offr]⟩
    simp (disch := omega) only [Option.bind_some, km1, k0, k1, k2, k3, k4, k5, k6, k7, k8, k9, k10, k11, k15, k16, k20, k32, k33, k39, k40, k43, k44, k45, k48, k49, k50, k51, k52, k57, k59, k60, k63, k64, k80, k97, k100, k101, k108, k112, k114, k117, k126, k130, k650, k100000, k1000000, ii_add, ii_sub, ii_neg, ii_mul, ii_lt, ii_le, ii_eq, if_true, if_false, if_pos, if_neg, gI_0, gI_1, gI_2, gI_4, gI_7, gI_15, gI_59, gI_61, gI_62, gI_66, gI_68, gI_71, gI_72, gI_74, gR_0_0, gR_0_1, gR_0_3, gR_0_4, gR_0_5, gR_0_6, gR_0_7, gR_0_8, gR_1_0, gR_1_1, gR_1_2, gR_2_0, gR_4_0, gR_4_1, gR_15_0, gR_59_0, gR_61_0, gR_61_1, gR_61_2, gR_62_0, gR_62_1, gR_62_2, gR_66_0, gR_66_1, gR_68_0, gR_68_1, gR_71_0, gR_72_0, gR_74_0, gR_74_1, gR_74_3, gR_74_5, gR_74_7, gR_74_8, gR_74_9, gR_74_15, ld_3, ld_5, ld_6, ld_60, ld_63, ld_64, ld_65, ld_67, ld_69, ld_70, ld_73, ld_75, ld_76, ld_77, ld_78, ld_79, ld_80, ld_82, st_3, st_5, st_6, st_60, st_63, st_64, st_65, st_67, st_69, st_70, st_73, st_75, st_76, st_77, st_78, st_79, st_80, st_82, aL_3, aL_5, aL_6, aL_60, aL_63, aL_64, aL_65, aL_67, aL_69, aL_70, aL_73, aL_75, aL_76, aL_77, aL_78, aL_79, aL_80, aL_82, pI_0, pI_1, pI_2, pI_4, pI_7, pI_15, pI_59, pI_61, pI_62, pI_66, pI_68, pI_71, pI_72, pI_74, ld_81, ld_16, aL_16, lX11_record_11, hc]
    rfl
  | succ f ih =>
    intro n x μ h1 h2 h3 h4 hc
    obtain ⟨n, rfl⟩ : ∃ k, n = k + 1 := ⟨n - 1, by omega⟩
    by_cases hx : x = 650
    · subst hx
      refine ⟨u2 μ.1 74 2 (ii 5), ?_, fun b hb hb1 => by simp (disch := omega) only [u2_offr], fun b hb => by simp (disch := omega) only [u2_off], by simp (disch := omega) only [u2_at], fun i h5 h6 => by rw [if_pos h6]; simp (disch := omega) only [u2_offr]⟩
      simp (disch := omega) only [Option.bind_some, km1, k0, k1, k2, k3, k4, k5, k6, k7, k8, k9, k10, k11, k15, k16, k20, k32, k33, k39, k40, k43, k44, k45, k48, k49, k50, k51, k52, k57, k59, k60, k63, k64, k80, k97, k100, k101, k108, k112, k114, k117, k126, k130, k650, k100000, k1000000, ii_add, ii_sub, ii_neg, ii_mul, ii_lt, ii_le, ii_eq, if_true, if_false, if_pos, if_neg, gI_0, gI_1, gI_2, gI_4, gI_7, gI_15, gI_59, gI_61, gI_62, gI_66, gI_68, gI_71, gI_72, gI_74, gR_0_0, gR_0_1, gR_0_3, gR_0_4, gR_0_5, gR_0_6, gR_0_7, gR_0_8, gR_1_0, gR_1_1, gR_1_2, gR_2_0, gR_4_0, gR_4_1, gR_15_0, gR_59_0, gR_61_0, gR_61_1, gR_61_2, gR_62_0, gR_62_1, gR_62_2, gR_66_0, gR_66_1, gR_68_0, gR_68_1, gR_71_0, gR_72_0, gR_74_0, gR_74_1, gR_74_3, gR_74_5, gR_74_7, gR_74_8, gR_74_9, gR_74_15, ld_3, ld_5, ld_6, ld_60, ld_63, ld_64, ld_65, ld_67, ld_69, ld_70, ld_73, ld_75, ld_76, ld_77, ld_78, ld_79, ld_80, ld_82, st_3, st_5, st_6, st_60, st_63, st_64, st_65, st_67, st_69, st_70, st_73, st_75, st_76, st_77, st_78, st_79, st_80, st_82, aL_3, aL_5, aL_6, aL_60, aL_63, aL_64, aL_65, aL_67, aL_69, aL_70, aL_73, aL_75, aL_76, aL_77, aL_78, aL_79, aL_80, aL_82, pI_0, pI_1, pI_2, pI_4, pI_7, pI_15, pI_59, pI_61, pI_62, pI_66, pI_68, pI_71, pI_72, pI_74, ld_81, ld_16, aL_16, lX11_record_11, hc]
      rfl
    · obtain ⟨m', j1, j2, j3, j4, j5⟩ := ih n (x + 1) (u2 μ.1 76 x.toNat (μ.1 76 (x + 130).toNat), μ.2) (by push_cast at h1; omega) (by omega) (by omega) (by omega) (by simp (disch := omega) only [u2_off]; exact hc)
      refine ⟨m', ?_, fun b hb hb1 => (j2 b hb hb1).trans (by simp (disch := omega) only [u2_offr]), fun b hb => (j3 b hb).trans (by simp (disch := omega) only [u2_off]), j4, fun i h5 h6 => ?_⟩
      · rw [← j1]
        simp (disch := omega) only [Option.bind_some, km1, k0, k1, k2, k3, k4, k5, k6, k7, k8, k9, k10, k11, k15, k16, k20, k32, k33, k39, k40, k43, k44, k45, k48, k49, k50, k51, k52, k57, k59, k60, k63, k64, k80, k97, k100, k101, k108, k112, k114, k117, k126, k130, k650, k100000, k1000000, ii_add, ii_sub, ii_neg, ii_mul, ii_lt, ii_le, ii_eq, if_true, if_false, if_pos, if_neg, gI_0, gI_1, gI_2, gI_4, gI_7, gI_15, gI_59, gI_61, gI_62, gI_66, gI_68, gI_71, gI_72, gI_74, gR_0_0, gR_0_1, gR_0_3, gR_0_4, gR_0_5, gR_0_6, gR_0_7, gR_0_8, gR_1_0, gR_1_1, gR_1_2, gR_2_0, gR_4_0, gR_4_1, gR_15_0, gR_59_0, gR_61_0, gR_61_1, gR_61_2, gR_62_0, gR_62_1, gR_62_2, gR_66_0, gR_66_1, gR_68_0, gR_68_1, gR_71_0, gR_72_0, gR_74_0, gR_74_1, gR_74_3, gR_74_5, gR_74_7, gR_74_8, gR_74_9, gR_74_15, ld_3, ld_5, ld_6, ld_60, ld_63, ld_64, ld_65, ld_67, ld_69, ld_70, ld_73, ld_75, ld_76, ld_77, ld_78, ld_79, ld_80, ld_82, st_3, st_5, st_6, st_60, st_63, st_64, st_65, st_67, st_69, st_70, st_73, st_75, st_76, st_77, st_78, st_79, st_80, st_82, aL_3, aL_5, aL_6, aL_60, aL_63, aL_64, aL_65, aL_67, aL_69, aL_70, aL_73, aL_75, aL_76, aL_77, aL_78, aL_79, aL_80, aL_82, pI_0, pI_1, pI_2, pI_4, pI_7, pI_15, pI_59, pI_61, pI_62, pI_66, pI_68, pI_71, pI_72, pI_74, ld_81, ld_16, aL_16, lX11_record_11]
      · rw [j5 i h5 h6]
        by_cases hix : i < x
        · rw [if_pos (by omega), if_pos hix]
          simp (disch := omega) only [u2_off]
        · rw [if_neg hix]
          by_cases hix2 : i < x + 1
          · have : i = x := by omega
            subst this
            rw [if_pos hix2]
            simp (disch := omega) only [u2_at]
          · rw [if_neg hix2]
            simp (disch := omega) only [u2_off]
theorem record_at {μ : mMm} {v : Int → Int} {c : Int} {H : Nat → Int → Int} (hR : RZ μ.1 v) (hP : RP μ.1 c H) : ∃ m', fX11_record oS μ 74 = some (m', μ.2) ∧ (∀ b, b ≠ 76 → b ≠ 74 → m' b = μ.1 b) ∧ (∀ b, b ≠ 2 → m' 74 b = μ.1 74 b) ∧ RP m' (if c < 6 then c + 1 else 6) (pushH v H) := by
  obtain ⟨h1, h2, h3⟩ := hP
  by_cases h6 : c < 6
  · obtain ⟨m', j1, j2, j3, j4, j5, j6⟩ := rec_loop (c := c) (v := v) h2.1 (by omega) 130 FU 0 μ (by omega) (by decide) (by omega) (by omega) h1 hR (fun k h5 h6 => by omega)
    refine ⟨m', ?_, j2, j3, ?_⟩
    · unfold fX11_record bX11_record lX11_record_50
      simp (disch := omega) only [Option.bind_some, km1, k0, k1, k2, k3, k4, k5, k6, k7, k8, k9, k10, k11, k15, k16, k20, k32, k33, k39, k40, k43, k44, k45, k48, k49, k50, k51, k52, k57, k59, k60, k63, k64, k80, k97, k100, k101, k108, k112, k114, k117, k126, k130, k650, k100000, k1000000, ii_add, ii_sub, ii_neg, ii_mul, ii_lt, ii_le, ii_eq, if_true, if_false, if_pos, if_neg, gI_0, gI_1, gI_2, gI_4, gI_7, gI_15, gI_59, gI_61, gI_62, gI_66, gI_68, gI_71, gI_72, gI_74, gR_0_0, gR_0_1, gR_0_3, gR_0_4, gR_0_5, gR_0_6, gR_0_7, gR_0_8, gR_1_0, gR_1_1, gR_1_2, gR_2_0, gR_4_0, gR_4_1, gR_15_0, gR_59_0, gR_61_0, gR_61_1, gR_61_2, gR_62_0, gR_62_1, gR_62_2, gR_66_0, gR_66_1, gR_68_0, gR_68_1, gR_71_0, gR_72_0, gR_74_0, gR_74_1, gR_74_3, gR_74_5, gR_74_7, gR_74_8, gR_74_9, gR_74_15, ld_3, ld_5, ld_6, ld_60, ld_63, ld_64, ld_65, ld_67, ld_69, ld_70, ld_73, ld_75, ld_76, ld_77, ld_78, ld_79, ld_80, ld_82, st_3, st_5, st_6, st_60, st_63, st_64, st_65, st_67, st_69, st_70, st_73, st_75, st_76, st_77, st_78, st_79, st_80, st_82, aL_3, aL_5, aL_6, aL_60, aL_63, aL_64, aL_65, aL_67, aL_69, aL_70, aL_73, aL_75, aL_76, aL_77, aL_78, aL_79, aL_80, aL_82, pI_0, pI_1, pI_2, pI_4, pI_7, pI_15, pI_59, pI_61, pI_62, pI_66, pI_68, pI_71, pI_72, pI_74, ld_81, ld_16, aL_16, if_pos o74, h1]
      exact j1
    · rw [if_pos h6]
      refine ⟨j4, by omega, fun i hi => ?_⟩
      cases i with
      | zero =>
        rw [show (c + 1 - 1 - ((0 : Nat) : Int)) * 130 = c * 130 by omega]
        exact j6
      | succ i =>
        have r := h3 i (by omega)
        rw [show (c + 1 - 1 - ((i + 1 : Nat) : Int)) * 130 = (c - 1 - (i : Int)) * 130 by omega]
        intro k h7 h8
        exact (j5 _ (by omega) (by omega)).trans (r k h7 h8)
  · have hc6 : c = 6 := by omega
    subst hc6
    obtain ⟨m1, i1, i2, i3, i4, i5⟩ := rshift_loop 650 FU 0 μ (by omega) (by decide) (by omega) (by omega) h1
    obtain ⟨m', j1, j2, j3, j4, j5, j6⟩ := rec_loop (c := 5) (v := v) (by omega) (by omega) 130 FU 0 (m1, μ.2) (by omega) (by decide) (by omega) (by omega) i4 (RZ_fr (i2 75 (by omega) (by omega)) hR) (fun k h5 h6 => by omega)
    refine ⟨m', ?_, fun b hb hb1 => (j2 b hb hb1).trans (i2 b hb hb1), fun b hb => (j3 b hb).trans (i3 b hb), ?_⟩
    · unfold fX11_record bX11_record
      simp (disch := omega) only [Option.bind_some, km1, k0, k1, k2, k3, k4, k5, k6, k7, k8, k9, k10, k11, k15, k16, k20, k32, k33, k39, k40, k43, k44, k45, k48, k49, k50, k51, k52, k57, k59, k60, k63, k64, k80, k97, k100, k101, k108, k112, k114, k117, k126, k130, k650, k100000, k1000000, ii_add, ii_sub, ii_neg, ii_mul, ii_lt, ii_le, ii_eq, if_true, if_false, if_pos, if_neg, gI_0, gI_1, gI_2, gI_4, gI_7, gI_15, gI_59, gI_61, gI_62, gI_66, gI_68, gI_71, gI_72, gI_74, gR_0_0, gR_0_1, gR_0_3, gR_0_4, gR_0_5, gR_0_6, gR_0_7, gR_0_8, gR_1_0, gR_1_1, gR_1_2, gR_2_0, gR_4_0, gR_4_1, gR_15_0, gR_59_0, gR_61_0, gR_61_1, gR_61_2, gR_62_0, gR_62_1, gR_62_2, gR_66_0, gR_66_1, gR_68_0, gR_68_1, gR_71_0, gR_72_0, gR_74_0, gR_74_1, gR_74_3, gR_74_5, gR_74_7, gR_74_8, gR_74_9, gR_74_15, ld_3, ld_5, ld_6, ld_60, ld_63, ld_64, ld_65, ld_67, ld_69, ld_70, ld_73, ld_75, ld_76, ld_77, ld_78, ld_79, ld_80, ld_82, st_3, st_5, st_6, st_60, st_63, st_64, st_65, st_67, st_69, st_70, st_73, st_75, st_76, st_77, st_78, st_79, st_80, st_82, aL_3, aL_5, aL_6, aL_60, aL_63, aL_64, aL_65, aL_67, aL_69, aL_70, aL_73, aL_75, aL_76, aL_77, aL_78, aL_79, aL_80, aL_82, pI_0, pI_1, pI_2, pI_4, pI_7, pI_15, pI_59, pI_61, pI_62, pI_66, pI_68, pI_71, pI_72, pI_74, ld_81, ld_16, aL_16, if_pos o74, h1]
      rw [i1]
      exact j1
    · rw [if_neg h6]
      refine ⟨j4, by omega, fun i hi => ?_⟩
      cases i with
      | zero => exact j6
      | succ i =>
        have r := h3 i (by omega)
        intro k h7 h8
        have s := i5 ((6 - 1 - ((i + 1 : Nat) : Int)) * 130 + k) (by omega) (by omega)
        rw [if_neg (by omega)] at s
        refine (j5 _ (by omega) (by omega)).trans (s.trans ?_)
        rw [show (6 - 1 - ((i + 1 : Nat) : Int)) * 130 + k + 130 = (6 - 1 - (i : Int)) * 130 + k by omega]
        exact r k h7 h8
