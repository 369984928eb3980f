/-! the class works -/
variable {μ : mMm} {A : AS}
/-- how the works go, from part t on: the state, the parts done, why it stopped -/
def wkGo (b : Int) (Y : Int → Int) : Nat → Nat → (Int → Int) → (Int → Int) × Int × Int
  | 0, t, v => (v, (t : Int), 0)
  | f + 1, t, v => if whyP v (Y (stP b Y t)) (ptS b Y (stP b Y t)).2.2.2 = 0 then wkGo b Y f (t + 1) (doP Y v (Y (stP b Y t)) (ptS b Y (stP b Y t)).2.2.1 (ptS b Y (stP b Y t)).2.2.2) else (v, (t : Int), whyP v (Y (stP b Y t)) (ptS b Y (stP b Y t)).2.2.2)
def wkE (r : (Int → Int) × Int × Int) : Int → Int := upI (upI (upI r.1 7 (if r.2.2 = 0 then 0 else 1)) 8 (if r.2.2 = 0 then 0 else r.2.1)) 9 r.2.2
/-- the works that stand in the buffer: R + 1 parts -/
def GD (b : Int) (Y : Int → Int) (R : Nat) : Prop := R ≤ 30 ∧ (∀ t, t < R + 1 → (ptS b Y (stP b Y t)).1 = -1) ∧ (ptS b Y (stP b Y R)).2.1 = b ∧ ∀ t, t < R → (ptS b Y (stP b Y t)).2.1 < b ∧ Y (ptS b Y (stP b Y t)).2.1 = 59
theorem GD_of {b : Int} {Y : Int → Int} {m : Nat → Nat → Int32} {R : Nat} (hO : RDok b Y m (R + 1)) (h1 : (ptS b Y (stP b Y R)).2.1 = b) (h2 : ∀ t, t < R → (ptS b Y (stP b Y t)).2.1 < b ∧ sg b Y (ptS b Y (stP b Y t)).2.1 = 59) : GD b Y R := by
  refine ⟨by have := hO.2.1; omega, hO.2.2.2, h1, fun t ht => ⟨(h2 t ht).1, ?_⟩⟩
  have := (h2 t ht).2
  rw [sg_lt (h2 t ht).1] at this
  exact this
theorem GD_st {b : Int} {Y : Int → Int} {R : Nat} (hG : GD b Y R) : ∀ t : Nat, t ≤ R → 2 * (t : Int) ≤ stP b Y t ∧ stP b Y t + 1 ≤ (ptS b Y (stP b Y t)).2.1 ∧ (ptS b Y (stP b Y t)).2.1 ≤ b := by
  intro t
  induction t with
  | zero =>
    intro h
    have p := (ptS_b (b := b) (Y := Y) (i := stP b Y 0) (Int.le_refl 0)).1 (hG.2.1 0 (by omega))
    exact ⟨Int.le_refl 0, p⟩
  | succ t ih =>
    intro h
    have i1 := ih (by omega)
    have e : stP b Y (t + 1) = (ptS b Y (stP b Y t)).2.1 + 1 := rfl
    have p := (ptS_b (b := b) (Y := Y) (i := stP b Y (t + 1)) (by omega)).1 (hG.2.1 (t + 1) (by omega))
    refine ⟨?_, p⟩
    push_cast
    omega
theorem DF.tr {m m1 m2 : Nat → Nat → Int32} (h : DF m m1) (k : DF m1 m2) : DF m m2 := fun a h1 h2 h3 => (k a h1 h2 h3).trans (h a h1 h2 h3)
theorem WK_D {m m' : Nat → Nat → Int32} {b : Int} {Y : Int → Int} (h : DF m m') (hK : WK m b Y) : WK m' b Y := by
  refine ⟨(congrFun (h 59 (by omega) (by omega) (by omega)) 1).trans hK.1, fun j h0 h1 => ?_⟩
  rw [h 60 (by omega) (by omega) (by omega)]
  exact hK.2 j h0 h1
theorem cwork_loop {b : Int} {Y : Int → Int} {R : Nat} (hG : GD b Y R) (hY : YB b Y) : ∀ (f n t : Nat) (v : Int → Int) (μ : mMm), R + 1 - t = f → f + 1 < n → t ≤ R + 1 → WF v → RS μ.1 1 v → WK μ.1 b Y → ∃ m', lX10_work_40 oS n μ 0 (ii (t : Int)) (ii 0) (ii (stP b Y t)) (ii (t : Int)) = lX10_work_92 oS (m', μ.2) 0 (ii (wkGo b Y f t v).2.1) (ii (wkGo b Y f t v).2.2) ∧ DF μ.1 m' ∧ RS m' 1 (wkGo b Y f t v).1 ∧ WF (wkGo b Y f t v).1 ∧ (0 ≤ (wkGo b Y f t v).2.2 ∧ (wkGo b Y f t v).2.2 ≤ 4) ∧ 0 ≤ (wkGo b Y f t v).2.1 ∧ (wkGo b Y f t v).2.1 ≤ 31 := by
  have g := hY.1
  have gR := hG.1
  intro f
  induction f with
  | zero =>
    intro n t v μ h1 h2 h3 hW hR hK
    obtain ⟨n, rfl⟩ : ∃ k, n = k + 1 := ⟨n - 1, by omega⟩
    have ht : t = R + 1 := by omega
    have es : stP b Y t = b + 1 := by
      rw [ht]
      show (ptS b Y (stP b Y R)).2.1 + 1 = b + 1
      rw [hG.2.2.1]
    have e := hK.1
    refine ⟨μ.1, ?_, fun _ _ _ _ => rfl, hR, hW, by show (0 : Int) ≤ 0 ∧ (0 : Int) ≤ 4; omega, by show (0 : Int) ≤ (t : Int); omega, by show (t : Int) ≤ 31; omega⟩
    unfold wkGo
    rw [es, lX10_work_40]
    generalize lX10_work_40 oS n = K
    simp (disch := omega) only [Option.bind_some, km1, k0, k1, k2, k3, k4, k5, k6, k7, k8, k9, k10, k11, k15, k16, k20, k32, k33, k39, k40, k43, k44, k45, k48, k49, k50, k51, k52, k57, k59, k60, k63, k64, k80, k97, k100, k101, k108, k112, k114, k117, k126, k130, k650, k100000, k1000000, ii_add, ii_sub, ii_neg, ii_mul, ii_lt, ii_le, ii_eq, if_true, if_false, if_pos, if_neg, gI_0, gI_1, gI_2, gI_4, gI_7, gI_15, gI_59, gI_61, gI_62, gI_66, gI_68, gI_71, gI_72, gI_74, gR_0_0, gR_0_1, gR_0_3, gR_0_4, gR_0_5, gR_0_6, gR_0_7, gR_0_8, gR_1_0, gR_1_1, gR_1_2, gR_2_0, gR_4_0, gR_4_1, gR_15_0, gR_59_0, gR_61_0, gR_61_1, gR_61_2, gR_62_0, gR_62_1, gR_62_2, gR_66_0, gR_66_1, gR_68_0, gR_68_1, gR_71_0, gR_72_0, gR_74_0, gR_74_1, gR_74_3, gR_74_5, gR_74_7, gR_74_8, gR_74_9, gR_74_15, ld_3, ld_5, ld_6, ld_60, ld_63, ld_64, ld_65, ld_67, ld_69, ld_70, ld_73, ld_75, ld_76, ld_77, ld_78, ld_79, ld_80, ld_82, st_3, st_5, st_6, st_60, st_63, st_64, st_65, st_67, st_69, st_70, st_73, st_75, st_76, st_77, st_78, st_79, st_80, st_82, aL_3, aL_5, aL_6, aL_60, aL_63, aL_64, aL_65, aL_67, aL_69, aL_70, aL_73, aL_75, aL_76, aL_77, aL_78, aL_79, aL_80, aL_82, pI_0, pI_1, pI_2, pI_4, pI_7, pI_15, pI_59, pI_61, pI_62, pI_66, pI_68, pI_71, pI_72, pI_74, ld_81, ld_16, aL_16, e]
  | succ f ih =>
    intro n t v μ h1 h2 h3 hW hR hK
    obtain ⟨n, rfl⟩ : ∃ k, n = k + 1 + 1 := ⟨n - 2, by omega⟩
    have st := GD_st hG t (by omega)
    have e := hK.1
    have hp := hG.2.1 t (by omega)
    have he : (ptS b Y (stP b Y t)).2.1 < b → Y (ptS b Y (stP b Y t)).2.1 = 59 := fun hh => by
      by_cases htR : t = R
      · rw [htR, hG.2.2.1] at hh
        omega
      · exact (hG.2.2.2 t (by omega)).2
    have hk := pt_kind hp (show 0 ≤ stP b Y t by omega)
    have wb := whyP_b hW hk
    have wW := WF_doP hW hk
    obtain ⟨m', j1, j2, j3, j4⟩ := cdo_at (μ := μ) hW hR hK hY (show 0 ≤ stP b Y t by omega) hp he
    have hK1 := WK_D j2 hK
    have e1 := hK1.1
    unfold wkGo
    by_cases c : whyP v (Y (stP b Y t)) (ptS b Y (stP b Y t)).2.2.2 = 0
    · rw [if_pos c]
      rw [c] at j1
      have hE := eop_at (μ := (m', μ.2)) hK1 hY hp (show 0 ≤ stP b Y t by omega) he
      obtain ⟨m2, i1, i2, i3, i4, i5, i6⟩ := ih (n + 1) (t + 1) (doP Y v (Y (stP b Y t)) (ptS b Y (stP b Y t)).2.2.1 (ptS b Y (stP b Y t)).2.2.2) (m', μ.2) (by omega) (by omega) (by omega) (wW c (by omega)) (j3 c) hK1
      have es : stP b Y (t + 1) = (ptS b Y (stP b Y t)).2.1 + 1 := rfl
      rw [es, show ((t + 1 : Nat) : Int) = (t : Int) + 1 by omega] at i1
      refine ⟨m2, ?_, j2.tr i2, i3, i4, i5, i6⟩
      rw [lX10_work_40]
      generalize lX10_work_40 oS (n + 1) = K at i1 ⊢
      simp (disch := omega) only [Option.bind_some, km1, k0, k1, k2, k3, k4, k5, k6, k7, k8, k9, k10, k11, k15, k16, k20, k32, k33, k39, k40, k43, k44, k45, k48, k49, k50, k51, k52, k57, k59, k60, k63, k64, k80, k97, k100, k101, k108, k112, k114, k117, k126, k130, k650, k100000, k1000000, ii_add, ii_sub, ii_neg, ii_mul, ii_lt, ii_le, ii_eq, if_true, if_false, if_pos, if_neg, gI_0, gI_1, gI_2, gI_4, gI_7, gI_15, gI_59, gI_61, gI_62, gI_66, gI_68, gI_71, gI_72, gI_74, gR_0_0, gR_0_1, gR_0_3, gR_0_4, gR_0_5, gR_0_6, gR_0_7, gR_0_8, gR_1_0, gR_1_1, gR_1_2, gR_2_0, gR_4_0, gR_4_1, gR_15_0, gR_59_0, gR_61_0, gR_61_1, gR_61_2, gR_62_0, gR_62_1, gR_62_2, gR_66_0, gR_66_1, gR_68_0, gR_68_1, gR_71_0, gR_72_0, gR_74_0, gR_74_1, gR_74_3, gR_74_5, gR_74_7, gR_74_8, gR_74_9, gR_74_15, ld_3, ld_5, ld_6, ld_60, ld_63, ld_64, ld_65, ld_67, ld_69, ld_70, ld_73, ld_75, ld_76, ld_77, ld_78, ld_79, ld_80, ld_82, st_3, st_5, st_6, st_60, st_63, st_64, st_65, st_67, st_69, st_70, st_73, st_75, st_76, st_77, st_78, st_79, st_80, st_82, aL_3, aL_5, aL_6, aL_60, aL_63, aL_64, aL_65, aL_67, aL_69, aL_70, aL_73, aL_75, aL_76, aL_77, aL_78, aL_79, aL_80, aL_82, pI_0, pI_1, pI_2, pI_4, pI_7, pI_15, pI_59, pI_61, pI_62, pI_66, pI_68, pI_71, pI_72, pI_74, ld_81, ld_16, aL_16, e, j1, hE, lX10_work_86, i1]
    · rw [if_neg c]
      generalize whyP v (Y (stP b Y t)) (ptS b Y (stP b Y t)).2.2.2 = w at c wb j1 j4 ⊢
      refine ⟨m', ?_, j2, j4 c, hW, wb, by show (0 : Int) ≤ (t : Int); omega, by show (t : Int) ≤ 31; omega⟩
      have x : lX10_work_40 oS (n + 1) (m', μ.2) 0 (ii (t : Int)) (ii w) (ii (stP b Y t)) (ii ((t : Int) + 1)) = lX10_work_92 oS (m', μ.2) 0 (ii (t : Int)) (ii w) := by
        rw [lX10_work_40]
        generalize lX10_work_40 oS n = K
        simp (disch := omega) only [Option.bind_some, km1, k0, k1, k2, k3, k4, k5, k6, k7, k8, k9, k10, k11, k15, k16, k20, k32, k33, k39, k40, k43, k44, k45, k48, k49, k50, k51, k52, k57, k59, k60, k63, k64, k80, k97, k100, k101, k108, k112, k114, k117, k126, k130, k650, k100000, k1000000, ii_add, ii_sub, ii_neg, ii_mul, ii_lt, ii_le, ii_eq, if_true, if_false, if_pos, if_neg, gI_0, gI_1, gI_2, gI_4, gI_7, gI_15, gI_59, gI_61, gI_62, gI_66, gI_68, gI_71, gI_72, gI_74, gR_0_0, gR_0_1, gR_0_3, gR_0_4, gR_0_5, gR_0_6, gR_0_7, gR_0_8, gR_1_0, gR_1_1, gR_1_2, gR_2_0, gR_4_0, gR_4_1, gR_15_0, gR_59_0, gR_61_0, gR_61_1, gR_61_2, gR_62_0, gR_62_1, gR_62_2, gR_66_0, gR_66_1, gR_68_0, gR_68_1, gR_71_0, gR_72_0, gR_74_0, gR_74_1, gR_74_3, gR_74_5, gR_74_7, gR_74_8, gR_74_9, gR_74_15, ld_3, ld_5, ld_6, ld_60, ld_63, ld_64, ld_65, ld_67, ld_69, ld_70, ld_73, ld_75, ld_76, ld_77, ld_78, ld_79, ld_80, ld_82, st_3, st_5, st_6, st_60, st_63, st_64, st_65, st_67, st_69, st_70, st_73, st_75, st_76, st_77, st_78, st_79, st_80, st_82, aL_3, aL_5, aL_6, aL_60, aL_63, aL_64, aL_65, aL_67, aL_69, aL_70, aL_73, aL_75, aL_76, aL_77, aL_78, aL_79, aL_80, aL_82, pI_0, pI_1, pI_2, pI_4, pI_7, pI_15, pI_59, pI_61, pI_62, pI_66, pI_68, pI_71, pI_72, pI_74, ld_81, ld_16, aL_16, e1]
      rw [lX10_work_40]
      generalize lX10_work_40 oS (n + 1) = K at x ⊢
      simp (disch := omega) only [Option.bind_some, km1, k0, k1, k2, k3, k4, k5, k6, k7, k8, k9, k10, k11, k15, k16, k20, k32, k33, k39, k40, k43, k44, k45, k48, k49, k50, k51, k52, k57, k59, k60, k63, k64, k80, k97, k100, k101, k108, k112, k114, k117, k126, k130, k650, k100000, k1000000, ii_add, ii_sub, ii_neg, ii_mul, ii_lt, ii_le, ii_eq, if_true, if_false, if_pos, if_neg, gI_0, gI_1, gI_2, gI_4, gI_7, gI_15, gI_59, gI_61, gI_62, gI_66, gI_68, gI_71, gI_72, gI_74, gR_0_0, gR_0_1, gR_0_3, gR_0_4, gR_0_5, gR_0_6, gR_0_7, gR_0_8, gR_1_0, gR_1_1, gR_1_2, gR_2_0, gR_4_0, gR_4_1, gR_15_0, gR_59_0, gR_61_0, gR_61_1, gR_61_2, gR_62_0, gR_62_1, gR_62_2, gR_66_0, gR_66_1, gR_68_0, gR_68_1, gR_71_0, gR_72_0, gR_74_0, gR_74_1, gR_74_3, gR_74_5, gR_74_7, gR_74_8, gR_74_9, gR_74_15, ld_3, ld_5, ld_6, ld_60, ld_63, ld_64, ld_65, ld_67, ld_69, ld_70, ld_73, ld_75, ld_76, ld_77, ld_78, ld_79, ld_80, ld_82, st_3, st_5, st_6, st_60, st_63, st_64, st_65, st_67, st_69, st_70, st_73, st_75, st_76, st_77, st_78, st_79, st_80, st_82, aL_3, aL_5, aL_6, aL_60, aL_63, aL_64, aL_65, aL_67, aL_69, aL_70, aL_73, aL_75, aL_76, aL_77, aL_78, aL_79, aL_80, aL_82, pI_0, pI_1, pI_2, pI_4, pI_7, pI_15, pI_59, pI_61, pI_62, pI_66, pI_68, pI_71, pI_72, pI_74, ld_81, ld_16, aL_16, e, j1, lX10_work_86, x]
theorem wkE_n {r : (Int → Int) × Int × Int} {k : Int} (h7 : k ≠ 7) (h8 : k ≠ 8) (h9 : k ≠ 9) : wkE r k = r.1 k := by
  unfold wkE
  rw [upI_n h9, upI_n h8, upI_n h7]
theorem wkE_7 {r : (Int → Int) × Int × Int} : wkE r 7 = if r.2.2 = 0 then 0 else 1 := by
  unfold wkE
  rw [upI_n (by omega), upI_n (by omega), upI_at rfl]
theorem wkE_8 {r : (Int → Int) × Int × Int} : wkE r 8 = if r.2.2 = 0 then 0 else r.2.1 := by
  unfold wkE
  rw [upI_n (by omega), upI_at rfl]
theorem wkE_9 {r : (Int → Int) × Int × Int} : wkE r 9 = r.2.2 := by
  unfold wkE
  rw [upI_at rfl]
theorem WF_wkE {r : (Int → Int) × Int × Int} (hW : WF r.1) (h2 : 0 ≤ r.2.2 ∧ r.2.2 ≤ 4) (h1 : 0 ≤ r.2.1 ∧ r.2.1 ≤ 31) : WF (wkE r) := by
  have e : ∀ k, k ≠ 7 → k ≠ 8 → k ≠ 9 → wkE r k = r.1 k := fun k => wkE_n
  unfold WF
  rw [e 0 (by omega) (by omega) (by omega), e 1 (by omega) (by omega) (by omega), e 2 (by omega) (by omega) (by omega), e 3 (by omega) (by omega) (by omega), e 4 (by omega) (by omega) (by omega), e 5 (by omega) (by omega) (by omega), e 6 (by omega) (by omega) (by omega), wkE_7, wkE_8, wkE_9]
  refine ⟨wf_0 hW, wf_1 hW, wf_2 hW, wf_3 hW, wf_4 hW, wf_5 hW, wf_6 hW, ⟨h2.1, h2.2, rfl, ?_⟩, fun k h3 h4 => ?_, fun t h3 h4 => ?_⟩
  · by_cases c : r.2.2 = 0
    · rw [if_pos c]
      omega
    · rw [if_neg c]
      omega
  · unfold tx
    rw [e (10 + k) (by omega) (by omega) (by omega)]
    exact wf_t hW h3 h4
  · unfold tkOk tkD tkV
    rw [e (50 + 2 * t) (by omega) (by omega) (by omega), e (51 + 2 * t) (by omega) (by omega) (by omega)]
    exact wf_k hW h3 h4
theorem RS_wkE {m m' : Nat → Nat → Int32} {r : (Int → Int) × Int × Int} (hR : RS m 1 r.1) (hf : ∀ a, a ≠ 1 → a ≠ 59 → m' a = m a) (h3 : m' 1 3 = ii (if r.2.2 = 0 then 0 else r.2.1)) (h4 : m' 1 4 = ii r.2.2) : RS m' 1 (wkE r) := by
  have e : ∀ k, k ≠ 7 → k ≠ 8 → k ≠ 9 → wkE r k = r.1 k := fun k => wkE_n
  obtain ⟨c0, ⟨c1, c2, c3, c4, c5⟩, c6, _, cl, ct⟩ := hR
  have f2 := hf 2 (by omega) (by omega)
  have f3 := hf 3 (by omega) (by omega)
  have f4 := hf 4 (by omega) (by omega)
  have f5 := hf 5 (by omega) (by omega)
  have f6 := hf 6 (by omega) (by omega)
  have f7 := hf 7 (by omega) (by omega)
  unfold RS
  rw [e 0 (by omega) (by omega) (by omega), e 1 (by omega) (by omega) (by omega), e 2 (by omega) (by omega) (by omega), e 3 (by omega) (by omega) (by omega), e 4 (by omega) (by omega) (by omega), e 5 (by omega) (by omega) (by omega), e 6 (by omega) (by omega) (by omega), wkE_8, wkE_9]
  refine ⟨(congrFun f2 1).trans c0, ⟨(congrFun f7 0).trans c1, (congrFun f7 1).trans c2, (congrFun f7 2).trans c3, (congrFun f7 3).trans c4, (congrFun f7 4).trans c5⟩, (congrFun f4 2).trans c6, ⟨h3, h4⟩, fun k h5 h6 => ?_, fun t h5 h6 => ?_⟩
  · unfold tx
    rw [e (10 + k) (by omega) (by omega) (by omega)]
    exact (congrFun f3 k.toNat).trans (cl k h5 h6)
  · unfold tkD tkV
    rw [e (50 + 2 * t) (by omega) (by omega) (by omega), e (51 + 2 * t) (by omega) (by omega) (by omega)]
    exact ⟨(congrFun f5 t.toNat).trans (ct t h5 h6).1, (congrFun f6 t.toNat).trans (ct t h5 h6).2⟩
/-- what works do -/
def wkR (A : AS) (R : Nat) : (Int → Int) × Int × Int := wkGo A.b A.Y (R + 1) 0 A.v
def wkA (A : AS) (R : Nat) : AS := (chg A (wkE (wkR A R))).sb 0 A.Y
theorem cWork_0 (hA : AW A) (hC : CI μ.1 A) (hr : rdA A ≠ -1) : CS (fX10_work oS μ 0) μ (.inr 0) A := by
  have r := cComplete hA hC
  rw [if_neg hr] at r
  refine CS_no hC ?_
  unfold fX10_work bX10_work
  simp (disch := omega) only [Option.bind_some, km1, k0, k1, k2, k3, k4, k5, k6, k7, k8, k9, k10, k11, k15, k16, k20, k32, k33, k39, k40, k43, k44, k45, k48, k49, k50, k51, k52, k57, k59, k60, k63, k64, k80, k97, k100, k101, k108, k112, k114, k117, k126, k130, k650, k100000, k1000000, ii_add, ii_sub, ii_neg, ii_mul, ii_lt, ii_le, ii_eq, if_true, if_false, if_pos, if_neg, gI_0, gI_1, gI_2, gI_4, gI_7, gI_15, gI_59, gI_61, gI_62, gI_66, gI_68, gI_71, gI_72, gI_74, gR_0_0, gR_0_1, gR_0_3, gR_0_4, gR_0_5, gR_0_6, gR_0_7, gR_0_8, gR_1_0, gR_1_1, gR_1_2, gR_2_0, gR_4_0, gR_4_1, gR_15_0, gR_59_0, gR_61_0, gR_61_1, gR_61_2, gR_62_0, gR_62_1, gR_62_2, gR_66_0, gR_66_1, gR_68_0, gR_68_1, gR_71_0, gR_72_0, gR_74_0, gR_74_1, gR_74_3, gR_74_5, gR_74_7, gR_74_8, gR_74_9, gR_74_15, ld_3, ld_5, ld_6, ld_60, ld_63, ld_64, ld_65, ld_67, ld_69, ld_70, ld_73, ld_75, ld_76, ld_77, ld_78, ld_79, ld_80, ld_82, st_3, st_5, st_6, st_60, st_63, st_64, st_65, st_67, st_69, st_70, st_73, st_75, st_76, st_77, st_78, st_79, st_80, st_82, aL_3, aL_5, aL_6, aL_60, aL_63, aL_64, aL_65, aL_67, aL_69, aL_70, aL_73, aL_75, aL_76, aL_77, aL_78, aL_79, aL_80, aL_82, pI_0, pI_1, pI_2, pI_4, pI_7, pI_15, pI_59, pI_61, pI_62, pI_66, pI_68, pI_71, pI_72, pI_74, ld_81, ld_16, aL_16, if_pos o0, r]
theorem AW_wkA {R : Nat} (hA : AW A) (hW : WF (wkE (wkR A R))) : AW (wkA A R) := by
  have h := AW_chg hA hW
  exact ⟨h.1, h.2.1, h.2.2.1, h.2.2.2.1, ⟨Int.le_refl 0, by show (0 : Int) ≤ 60; omega⟩, fun j h0 h1 => by have h1 : j < 0 := h1; omega⟩
theorem cWork {R : Nat} (hA : AW A) (hC : CI μ.1 A) (hr : rdA A = -1) (hG : GD A.b A.Y R) : WF (wkE (wkR A R)) ∧ CS (fX10_work oS μ 0) μ (.inl (ii (wkR A R).2.1)) (wkA A R) := by
  have hY := AW_YB hA
  have r := cComplete hA hC
  rw [if_pos hr] at r
  obtain ⟨m1, i1, i2, i3⟩ := cpush hA hC
  obtain ⟨m2, j1, j2, j3, j4, j5, j6⟩ := cwork_loop hG hY (R + 1) FU 0 A.v (m1, μ.2) (by omega) (by have := hFU; have := hG.1; omega) (by omega) hA.1 i3.1 i3.2.2.2.2
  have hW : WF (wkE (wkR A R)) := WF_wkE j4 j5 j6
  refine ⟨hW, ?_⟩
  unfold wkA
  have eR : wkGo A.b A.Y (R + 1) 0 A.v = wkR A R := rfl
  rw [eR] at j1 j3 j4 j5 j6
  generalize wkR A R = rr at j1 j3 j4 j5 j6 hW ⊢
  have hf : ∀ a, a ≠ 1 → (u2 (u2 m2 1 4 (ii rr.2.2)) 1 3 (ii (if rr.2.2 = 0 then 0 else rr.2.1))) a = m2 a := fun a h1 => by simp (disch := omega) only [u2_offr]
  have hC3 : CI (u2 (u2 m2 1 4 (ii rr.2.2)) 1 3 (ii (if rr.2.2 = 0 then 0 else rr.2.1))) (chg A (wkE rr)) := CI_set (fun b h7 h8 => (hf b (by omega)).trans (j2 b (by omega) (by omega) (by omega))) (RS_wkE j3 (fun a h1 _ => hf a h1) (u2_at rfl rfl) (by simp (disch := omega) only [u2_off, u2_at])) i3
  refine ⟨u2 (u2 (u2 m2 1 4 (ii rr.2.2)) 1 3 (ii (if rr.2.2 = 0 then 0 else rr.2.1))) 59 1 (ii 0), ?_, fun a ha => ?_, CI_sb hC3 (fun a ha => by simp (disch := omega) only [u2_offr]) (u2_at rfl rfl) (fun j h7 h8 => by omega)⟩
  · unfold fX10_work bX10_work
    have s0 : stP A.b A.Y 0 = 0 := rfl
    rw [s0] at j1
    have j1 : lX10_work_40 oS FU (m1, μ.2) 0 (ii 0) (ii 0) (ii 0) (ii 0) = lX10_work_92 oS (m2, μ.2) 0 (ii rr.2.1) (ii rr.2.2) := j1
    generalize lX10_work_40 oS FU = K at j1 ⊢
    by_cases c : rr.2.2 = 0
    · rw [if_pos c]
      simp (disch := omega) only [Option.bind_some, km1, k0, k1, k2, k3, k4, k5, k6, k7, k8, k9, k10, k11, k15, k16, k20, k32, k33, k39, k40, k43, k44, k45, k48, k49, k50, k51, k52, k57, k59, k60, k63, k64, k80, k97, k100, k101, k108, k112, k114, k117, k126, k130, k650, k100000, k1000000, ii_add, ii_sub, ii_neg, ii_mul, ii_lt, ii_le, ii_eq, if_true, if_false, if_pos, if_neg, gI_0, gI_1, gI_2, gI_4, gI_7, gI_15, gI_59, gI_61, gI_62, gI_66, gI_68, gI_71, gI_72, gI_74, gR_0_0, gR_0_1, gR_0_3, gR_0_4, gR_0_5, gR_0_6, gR_0_7, gR_0_8, gR_1_0, gR_1_1, gR_1_2, gR_2_0, gR_4_0, gR_4_1, gR_15_0, gR_59_0, gR_61_0, gR_61_1, gR_61_2, gR_62_0, gR_62_1, gR_62_2, gR_66_0, gR_66_1, gR_68_0, gR_68_1, gR_71_0, gR_72_0, gR_74_0, gR_74_1, gR_74_3, gR_74_5, gR_74_7, gR_74_8, gR_74_9, gR_74_15, ld_3, ld_5, ld_6, ld_60, ld_63, ld_64, ld_65, ld_67, ld_69, ld_70, ld_73, ld_75, ld_76, ld_77, ld_78, ld_79, ld_80, ld_82, st_3, st_5, st_6, st_60, st_63, st_64, st_65, st_67, st_69, st_70, st_73, st_75, st_76, st_77, st_78, st_79, st_80, st_82, aL_3, aL_5, aL_6, aL_60, aL_63, aL_64, aL_65, aL_67, aL_69, aL_70, aL_73, aL_75, aL_76, aL_77, aL_78, aL_79, aL_80, aL_82, pI_0, pI_1, pI_2, pI_4, pI_7, pI_15, pI_59, pI_61, pI_62, pI_66, pI_68, pI_71, pI_72, pI_74, ld_81, ld_16, aL_16, if_pos o0, r, i1, j1, lX10_work_92, lX10_work_113, fX9_clear, bX9_clear, if_pos o59]
    · rw [if_neg c]
      simp (disch := omega) only [Option.bind_some, km1, k0, k1, k2, k3, k4, k5, k6, k7, k8, k9, k10, k11, k15, k16, k20, k32, k33, k39, k40, k43, k44, k45, k48, k49, k50, k51, k52, k57, k59, k60, k63, k64, k80, k97, k100, k101, k108, k112, k114, k117, k126, k130, k650, k100000, k1000000, ii_add, ii_sub, ii_neg, ii_mul, ii_lt, ii_le, ii_eq, if_true, if_false, if_pos, if_neg, gI_0, gI_1, gI_2, gI_4, gI_7, gI_15, gI_59, gI_61, gI_62, gI_66, gI_68, gI_71, gI_72, gI_74, gR_0_0, gR_0_1, gR_0_3, gR_0_4, gR_0_5, gR_0_6, gR_0_7, gR_0_8, gR_1_0, gR_1_1, gR_1_2, gR_2_0, gR_4_0, gR_4_1, gR_15_0, gR_59_0, gR_61_0, gR_61_1, gR_61_2, gR_62_0, gR_62_1, gR_62_2, gR_66_0, gR_66_1, gR_68_0, gR_68_1, gR_71_0, gR_72_0, gR_74_0, gR_74_1, gR_74_3, gR_74_5, gR_74_7, gR_74_8, gR_74_9, gR_74_15, ld_3, ld_5, ld_6, ld_60, ld_63, ld_64, ld_65, ld_67, ld_69, ld_70, ld_73, ld_75, ld_76, ld_77, ld_78, ld_79, ld_80, ld_82, st_3, st_5, st_6, st_60, st_63, st_64, st_65, st_67, st_69, st_70, st_73, st_75, st_76, st_77, st_78, st_79, st_80, st_82, aL_3, aL_5, aL_6, aL_60, aL_63, aL_64, aL_65, aL_67, aL_69, aL_70, aL_73, aL_75, aL_76, aL_77, aL_78, aL_79, aL_80, aL_82, pI_0, pI_1, pI_2, pI_4, pI_7, pI_15, pI_59, pI_61, pI_62, pI_66, pI_68, pI_71, pI_72, pI_74, ld_81, ld_16, aL_16, if_pos o0, r, i1, j1, lX10_work_92, lX10_work_113, fX9_clear, bX9_clear, if_pos o59]
  · simp (disch := omega) only [u2_offr]
    rw [j2 a (by omega) (by omega) (by omega)]
    exact i2 a (by omega)
