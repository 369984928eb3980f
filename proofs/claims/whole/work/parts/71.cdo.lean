/-! what a part does -/
variable {b : Int} {Y : Int → Int}
def whyP (v : Int → Int) (c y : Int) : Int := if c = 117 then (unp v).2.2.2 else if c = 43 then (if 40 < v 0 + y then 3 else 0) else if c = 108 ∨ c = 114 then (if 40 ≤ v 6 then 4 else 0) else 0
def skp (v : Int → Int) (d x : Int) : Int → Int := upI (upI (upI v (50 + 2 * v 6) d) (50 + 2 * v 6 + 1) x) 6 (v 6 + 1)
def putL (Y : Int → Int) : Nat → Int → (Int → Int) → (Int → Int)
  | 0, _, v => v
  | n + 1, k, v => putL Y n (k + 1) (upI (upI v (10 + v 0) (Y k - 97)) 0 (v 0 + 1))
def doP (Y v : Int → Int) (c x y : Int) : Int → Int := if c = 43 then putL Y y.toNat x v else if c = 45 then clr (upI v 0 0) 10 40 else if c = 112 then pkv v x else if c = 117 then setTx v (unp v).1 (unp v).2.1 else if c = 101 then clr (upI v 6 0) 50 80 else if c = 108 then skp v 0 x else skp v x y
theorem whyP_117 {v : Int → Int} {c y : Int} (h : c = 117) : whyP v c y = (unp v).2.2.2 := if_pos h
theorem whyP_43 {v : Int → Int} {c y : Int} (h : c = 43) : whyP v c y = if 40 < v 0 + y then 3 else 0 := (if_neg (by omega)).trans (if_pos h)
theorem whyP_t {v : Int → Int} {c y : Int} (h : c = 108 ∨ c = 114) : whyP v c y = if 40 ≤ v 6 then 4 else 0 := (if_neg (by omega)).trans ((if_neg (by omega)).trans (if_pos h))
theorem whyP_n {v : Int → Int} {c y : Int} (h : c = 45 ∨ c = 112 ∨ c = 101) : whyP v c y = 0 := (if_neg (by omega)).trans ((if_neg (by omega)).trans (if_neg (by omega)))
theorem doP_43 {v : Int → Int} {c x y : Int} (h : c = 43) : doP Y v c x y = putL Y y.toNat x v := if_pos h
theorem doP_45 {v : Int → Int} {c x y : Int} (h : c = 45) : doP Y v c x y = clr (upI v 0 0) 10 40 := (if_neg (by omega)).trans (if_pos h)
theorem doP_112 {v : Int → Int} {c x y : Int} (h : c = 112) : doP Y v c x y = pkv v x := (if_neg (by omega)).trans ((if_neg (by omega)).trans (if_pos h))
theorem doP_117 {v : Int → Int} {c x y : Int} (h : c = 117) : doP Y v c x y = setTx v (unp v).1 (unp v).2.1 := (if_neg (by omega)).trans ((if_neg (by omega)).trans ((if_neg (by omega)).trans (if_pos h)))
theorem doP_101 {v : Int → Int} {c x y : Int} (h : c = 101) : doP Y v c x y = clr (upI v 6 0) 50 80 := (if_neg (by omega)).trans ((if_neg (by omega)).trans ((if_neg (by omega)).trans ((if_neg (by omega)).trans (if_pos h))))
theorem doP_108 {v : Int → Int} {c x y : Int} (h : c = 108) : doP Y v c x y = skp v 0 x := (if_neg (by omega)).trans ((if_neg (by omega)).trans ((if_neg (by omega)).trans ((if_neg (by omega)).trans ((if_neg (by omega)).trans (if_pos h)))))
theorem doP_114 {v : Int → Int} {c x y : Int} (h : c = 114) : doP Y v c x y = skp v x y := (if_neg (by omega)).trans ((if_neg (by omega)).trans ((if_neg (by omega)).trans ((if_neg (by omega)).trans ((if_neg (by omega)).trans (if_neg (by omega))))))
/-- what is known of a good part -/
def PK (b : Int) (Y : Int → Int) (i e x y : Int) : Prop := (Y i = 43 ∧ x = i + 1 ∧ y = e - (i + 1) ∧ ∀ k, i + 1 ≤ k → k < e → 97 ≤ Y k ∧ Y k ≤ 100) ∨ (Y i = 112 ∧ i + 1 < b ∧ x = Y (i + 1) - 48 ∧ 0 ≤ x ∧ x ≤ 2) ∨ (Y i = 108 ∧ i + 1 < b ∧ x = Y (i + 1) - 97 ∧ 0 ≤ x ∧ x ≤ 3) ∨ (Y i = 114 ∧ (nm b Y 39 (i + 1)).1 = -1 ∧ (nm b Y 40 ((nm b Y 39 (i + 1)).2.1 + 1)).1 = -1 ∧ x = (nm b Y 39 (i + 1)).2.2 ∧ y = (nm b Y 40 ((nm b Y 39 (i + 1)).2.1 + 1)).2.2 ∧ (1 ≤ x ∧ x ≤ 39) ∧ 1 ≤ y ∧ y ≤ 40) ∨ Y i = 45 ∨ Y i = 117 ∨ Y i = 101
theorem pt_kind {i : Int} (h : (ptS b Y i).1 = -1) (h0 : 0 ≤ i) : PK b Y i (ptS b Y i).2.1 (ptS b Y i).2.2.1 (ptS b Y i).2.2.2 := by
  unfold ptS at h ⊢
  by_cases c43 : sg b Y i = 43
  · obtain ⟨g1, e1⟩ := sg_Y (b := b) (Y := Y) (i := i) (by omega)
    rw [if_pos c43] at h ⊢
    by_cases c : 97 ≤ sg b Y (i + 1) ∧ sg b Y (i + 1) ≤ 100
    · obtain ⟨g2, e2⟩ := sg_Y (b := b) (Y := Y) (i := i + 1) (by omega)
      rw [if_pos c]
      refine Or.inl ⟨by omega, rfl, rfl, fun k k0 k1 => ?_⟩
      by_cases hk : k = i + 1
      · rw [hk]
        omega
      · exact lr_let (b := b) (Y := Y) (b - (i + 2)).toNat (i + 2) (by omega) k (by omega) k1
    · rw [if_neg c] at h
      have h : i + 1 = -1 := h
      omega
  · rw [if_neg c43] at h ⊢
    by_cases c112 : sg b Y i = 112
    · obtain ⟨g1, e1⟩ := sg_Y (b := b) (Y := Y) (i := i) (by omega)
      rw [if_pos c112] at h ⊢
      by_cases c : 48 ≤ sg b Y (i + 1) ∧ sg b Y (i + 1) ≤ 50
      · obtain ⟨g2, e2⟩ := sg_Y (b := b) (Y := Y) (i := i + 1) (by omega)
        refine Or.inr (Or.inl ⟨by omega, g2, ?_, ?_, ?_⟩)
        · show sg b Y (i + 1) - 48 = _
          rw [e2]
        · show 0 ≤ sg b Y (i + 1) - 48
          omega
        · show sg b Y (i + 1) - 48 ≤ 2
          omega
      · have h : (if 48 ≤ sg b Y (i + 1) ∧ sg b Y (i + 1) ≤ 50 then -1 else i + 1) = -1 := h
        rw [if_neg c] at h
        omega
    · rw [if_neg c112] at h ⊢
      by_cases c108 : sg b Y i = 108
      · obtain ⟨g1, e1⟩ := sg_Y (b := b) (Y := Y) (i := i) (by omega)
        rw [if_pos c108] at h ⊢
        by_cases c : 97 ≤ sg b Y (i + 1) ∧ sg b Y (i + 1) ≤ 100
        · obtain ⟨g2, e2⟩ := sg_Y (b := b) (Y := Y) (i := i + 1) (by omega)
          refine Or.inr (Or.inr (Or.inl ⟨by omega, g2, ?_, ?_, ?_⟩))
          · show sg b Y (i + 1) - 97 = _
            rw [e2]
          · show 0 ≤ sg b Y (i + 1) - 97
            omega
          · show sg b Y (i + 1) - 97 ≤ 3
            omega
        · have h : (if 97 ≤ sg b Y (i + 1) ∧ sg b Y (i + 1) ≤ 100 then -1 else i + 1) = -1 := h
          rw [if_neg c] at h
          omega
      · rw [if_neg c108] at h ⊢
        by_cases c114 : sg b Y i = 114
        · obtain ⟨g1, e1⟩ := sg_Y (b := b) (Y := Y) (i := i) (by omega)
          rw [if_pos c114] at h ⊢
          unfold prd at h ⊢
          by_cases d1 : (nm b Y 39 (i + 1)).1 = -1
          · have n1 := nm_dig (b := b) (Y := Y) (lim := 39) (j := i + 1) d1 (by omega) (by omega)
            rw [if_pos d1] at h ⊢
            by_cases d2 : sg b Y (nm b Y 39 (i + 1)).2.1 = 44
            · rw [if_pos d2] at h ⊢
              have n2 := nm_dig (b := b) (Y := Y) (lim := 40) (j := (nm b Y 39 (i + 1)).2.1 + 1) h (by omega) (by omega)
              exact Or.inr (Or.inr (Or.inr (Or.inl ⟨by omega, d1, h, rfl, rfl, n1.2.2.2.2, n2.2.2.2.2⟩)))
            · rw [if_neg d2] at h
              have h : (nm b Y 39 (i + 1)).2.1 = -1 := h
              omega
          · rw [if_neg d1] at h
            exact absurd h d1
        · rw [if_neg c114] at h ⊢
          have h : (if okS (sg b Y i) = 1 then -1 else i) = -1 := h
          by_cases ok : okS (sg b Y i) = 1
          · have oo : sg b Y i = 45 ∨ sg b Y i = 117 ∨ sg b Y i = 101 := by
              unfold okS at ok
              by_cases hh : sg b Y i = 43 ∨ sg b Y i = 45 ∨ sg b Y i = 112 ∨ sg b Y i = 117 ∨ sg b Y i = 101 ∨ sg b Y i = 108 ∨ sg b Y i = 114
              · omega
              · rw [if_neg hh] at ok
                omega
            obtain ⟨g1, e1⟩ := sg_Y (b := b) (Y := Y) (i := i) (by omega)
            exact Or.inr (Or.inr (Or.inr (Or.inr (by omega))))
          · rw [if_neg ok] at h
            omega
theorem putL_WF : ∀ (f : Nat) (k : Int) (v : Int → Int), WF v → v 0 + f ≤ 40 → (∀ j, k ≤ j → j < k + f → 97 ≤ Y j ∧ Y j ≤ 100) → WF (putL Y f k v) := by
  intro f
  induction f with
  | zero =>
    intro k v h _ _
    exact h
  | succ f ih =>
    intro k v h h1 h2
    push_cast at h1 h2
    have y := h2 k (by omega) (by omega)
    refine ih (k + 1) _ (WF_put h (by omega) (by omega) (by omega)) ?_ (fun j h3 h4 => h2 j (by omega) (by omega))
    rw [upI_at rfl]
    omega
theorem WF_doP {i e x y : Int} {v : Int → Int} (hW : WF v) (hP : PK b Y i e x y) (h0 : whyP v (Y i) y = 0) (hie : i + 1 ≤ e) : WF (doP Y v (Y i) x y) := by
  rcases hP with ⟨c, h1, h2, h3⟩ | ⟨c, h1, h2, h3, h4⟩ | ⟨c, h1, h2, h3, h4⟩ | ⟨c, h1, h2, h3, h4, h5, h6⟩ | c | c | c
  · rw [doP_43 c]
    rw [whyP_43 c] at h0
    by_cases hh : 40 < v 0 + y
    · rw [if_pos hh] at h0
      omega
    · exact putL_WF y.toNat x v hW (by omega) (fun j h4 h5 => h3 j (by omega) (by omega))
  · rw [doP_112 c]
    exact WF_pkv hW x
  · rw [doP_108 c]
    rw [whyP_t (Or.inl c)] at h0
    by_cases hh : 40 ≤ v 6
    · rw [if_pos hh] at h0
      omega
    · exact WF_sput hW (by omega) ⟨by omega, by omega, fun _ => ⟨h3, h4⟩, fun h => absurd rfl h⟩
  · rw [doP_114 c]
    rw [whyP_t (Or.inr c)] at h0
    by_cases hh : 40 ≤ v 6
    · rw [if_pos hh] at h0
      omega
    · exact WF_sput hW (by omega) ⟨by omega, by omega, fun _ => by omega, fun _ => h6⟩
  · rw [doP_45 c]
    exact WF_lcl hW
  · rw [doP_117 c]
    obtain ⟨b1, b2, b3, b4⟩ := unp_b hW
    exact WF_setTx hW b1.1 b1.2 b2
  · rw [doP_101 c]
    exact WF_scl hW
theorem whyP_b {i e x y : Int} {v : Int → Int} (hW : WF v) (hP : PK b Y i e x y) : 0 ≤ whyP v (Y i) y ∧ whyP v (Y i) y ≤ 4 := by
  rcases hP with ⟨c, _⟩ | ⟨c, _⟩ | ⟨c, _⟩ | ⟨c, _⟩ | c | c | c
  · rw [whyP_43 c]
    by_cases hh : 40 < v 0 + y
    · rw [if_pos hh]
      omega
    · rw [if_neg hh]
      omega
  · rw [whyP_n (by omega)]
    omega
  · rw [whyP_t (Or.inl c)]
    by_cases hh : 40 ≤ v 6
    · rw [if_pos hh]
      omega
    · rw [if_neg hh]
      omega
  · rw [whyP_t (Or.inr c)]
    by_cases hh : 40 ≤ v 6
    · rw [if_pos hh]
      omega
    · rw [if_neg hh]
      omega
  · rw [whyP_n (by omega)]
    omega
  · rw [whyP_117 c]
    have := (unp_b hW).2.2.2
    omega
  · rw [whyP_n (by omega)]
    omega
/-! the class does a part -/
variable {μ : mMm} {v : Int → Int}
theorem plet_loop (hK : WK μ.1 b Y) (hY : YB b Y) {e : Int} (he : e ≤ b) : ∀ (f n : Nat) (k : Int) (v : Int → Int) (μ : mMm), e - k = f → f < n → 0 ≤ k → WK μ.1 b Y → RS μ.1 1 v → WF v → v 0 + f ≤ 40 → (∀ j, k ≤ j → j < e → 97 ≤ Y j ∧ Y j ≤ 100) → ∃ m', lX10_putLetters_23 oS n μ 0 (ii e) (ii k) = some (ii 0, (m', μ.2)) ∧ (∀ a, a ≠ 2 → a ≠ 3 → m' a = μ.1 a) ∧ RS m' 1 (putL Y f k v) := by
  have g := hY.1
  intro f
  induction f with
  | zero =>
    intro n k v μ h1 h2 h3 hK hR hW h4 h5
    obtain ⟨n, rfl⟩ : ∃ k, n = k + 1 := ⟨n - 1, by omega⟩
    refine ⟨μ.1, ?_, fun _ _ _ => rfl, hR⟩
    rw [lX10_putLetters_23]
    generalize lX10_putLetters_23 oS n = K
    simp (disch := omega) only [Option.bind_some, km1, k0, k1, k2, k3, k4, k5, k6, k7, k8, k9, k10, k11, k15, k16, k20, k32, k33, k39, k40, k43, k44, k45, k48, k49, k50, k51, k52, k57, k59, k60, k63, k64, k80, k97, k100, k101, k108, k112, k114, k117, k126, k130, k650, k100000, k1000000, ii_add, ii_sub, ii_neg, ii_mul, ii_lt, ii_le, ii_eq, if_true, if_false, if_pos, if_neg, gI_0, gI_1, gI_2, gI_4, gI_7, gI_15, gI_59, gI_61, gI_62, gI_66, gI_68, gI_71, gI_72, gI_74, gR_0_0, gR_0_1, gR_0_3, gR_0_4, gR_0_5, gR_0_6, gR_0_7, gR_0_8, gR_1_0, gR_1_1, gR_1_2, gR_2_0, gR_4_0, gR_4_1, gR_15_0, gR_59_0, gR_61_0, gR_61_1, gR_61_2, gR_62_0, gR_62_1, gR_62_2, gR_66_0, gR_66_1, gR_68_0, gR_68_1, gR_71_0, gR_72_0, gR_74_0, gR_74_1, gR_74_3, gR_74_5, gR_74_7, gR_74_8, gR_74_9, gR_74_15, ld_3, ld_5, ld_6, ld_60, ld_63, ld_64, ld_65, ld_67, ld_69, ld_70, ld_73, ld_75, ld_76, ld_77, ld_78, ld_79, ld_80, ld_82, st_3, st_5, st_6, st_60, st_63, st_64, st_65, st_67, st_69, st_70, st_73, st_75, st_76, st_77, st_78, st_79, st_80, st_82, aL_3, aL_5, aL_6, aL_60, aL_63, aL_64, aL_65, aL_67, aL_69, aL_70, aL_73, aL_75, aL_76, aL_77, aL_78, aL_79, aL_80, aL_82, pI_0, pI_1, pI_2, pI_4, pI_7, pI_15, pI_59, pI_61, pI_62, pI_66, pI_68, pI_71, pI_72, pI_74, ld_81, ld_16, aL_16]
  | succ f ih =>
    intro n k v μ h1 h2 h3 hK hR hW h4 h5
    obtain ⟨n, rfl⟩ : ∃ k, n = k + 1 := ⟨n - 1, by omega⟩
    push_cast at h1 h4
    have y := h5 k (by omega) (by omega)
    have r1 := code_at hK hY h3 (show k < b by omega)
    have hc := rs_c (RS_T hR)
    have r2 : fX2_put oS μ 2 (ii (Y k - 97)) = some (u2 (u2 μ.1 3 (v 0).toNat (ii (Y k - 97))) 2 1 (ii (v 0 + 1)), μ.2) := put_at oLt_2 hc (wf_0 hW).1 (by omega)
    obtain ⟨m', i1, i2, i3⟩ := ih n (k + 1) (upI (upI v (10 + v 0) (Y k - 97)) 0 (v 0 + 1)) (u2 (u2 μ.1 3 (v 0).toNat (ii (Y k - 97))) 2 1 (ii (v 0 + 1)), μ.2) (by omega) (by omega) (by omega) ⟨by simp (disch := omega) only [u2_off]; exact hK.1, fun j h6 h7 => by simp (disch := omega) only [u2_off]; exact hK.2 j h6 h7⟩ (RS_put hR hW (by omega)) (WF_put hW (by omega) (by omega) (by omega)) (by rw [upI_at rfl]; omega) (fun j h6 h7 => h5 j (by omega) h7)
    refine ⟨m', ?_, fun a h6 h7 => (i2 a h6 h7).trans (by simp (disch := omega) only [u2_offr]), i3⟩
    rw [lX10_putLetters_23]
    generalize lX10_putLetters_23 oS n = K at i1 ⊢
    simp (disch := omega) only [Option.bind_some, km1, k0, k1, k2, k3, k4, k5, k6, k7, k8, k9, k10, k11, k15, k16, k20, k32, k33, k39, k40, k43, k44, k45, k48, k49, k50, k51, k52, k57, k59, k60, k63, k64, k80, k97, k100, k101, k108, k112, k114, k117, k126, k130, k650, k100000, k1000000, ii_add, ii_sub, ii_neg, ii_mul, ii_lt, ii_le, ii_eq, if_true, if_false, if_pos, if_neg, gI_0, gI_1, gI_2, gI_4, gI_7, gI_15, gI_59, gI_61, gI_62, gI_66, gI_68, gI_71, gI_72, gI_74, gR_0_0, gR_0_1, gR_0_3, gR_0_4, gR_0_5, gR_0_6, gR_0_7, gR_0_8, gR_1_0, gR_1_1, gR_1_2, gR_2_0, gR_4_0, gR_4_1, gR_15_0, gR_59_0, gR_61_0, gR_61_1, gR_61_2, gR_62_0, gR_62_1, gR_62_2, gR_66_0, gR_66_1, gR_68_0, gR_68_1, gR_71_0, gR_72_0, gR_74_0, gR_74_1, gR_74_3, gR_74_5, gR_74_7, gR_74_8, gR_74_9, gR_74_15, ld_3, ld_5, ld_6, ld_60, ld_63, ld_64, ld_65, ld_67, ld_69, ld_70, ld_73, ld_75, ld_76, ld_77, ld_78, ld_79, ld_80, ld_82, st_3, st_5, st_6, st_60, st_63, st_64, st_65, st_67, st_69, st_70, st_73, st_75, st_76, st_77, st_78, st_79, st_80, st_82, aL_3, aL_5, aL_6, aL_60, aL_63, aL_64, aL_65, aL_67, aL_69, aL_70, aL_73, aL_75, aL_76, aL_77, aL_78, aL_79, aL_80, aL_82, pI_0, pI_1, pI_2, pI_4, pI_7, pI_15, pI_59, pI_61, pI_62, pI_66, pI_68, pI_71, pI_72, pI_74, ld_81, ld_16, aL_16, r1, r2, i1]
theorem ptok_at {d x : Int} (hW : WF v) (hR : RS μ.1 1 v) : ∃ m', fX10_putToken oS μ 0 (ii d) (ii x) = some (ii (if 40 ≤ v 6 then 4 else 0), (m', μ.2)) ∧ (∀ a, a ≠ 4 → a ≠ 5 → a ≠ 6 → m' a = μ.1 a) ∧ (v 6 < 40 → RS m' 1 (skp v d x)) ∧ (40 ≤ v 6 → m' = μ.1) := by
  have r := full_at (μ := μ) (o := 4) oSk_4 (rs_k hR) (wf_6 hW).1 (wf_6 hW).2
  by_cases h : v 6 < 40
  · rw [if_pos h] at r
    have r2 : fX5_put oS μ 4 (ii d) (ii x) = some (u2 (u2 (u2 μ.1 5 (v 6).toNat (ii d)) 6 (v 6).toNat (ii x)) 4 2 (ii (v 6 + 1)), μ.2) := sput_at oSk_4 (rs_k hR) (wf_6 hW).1 h
    refine ⟨_, ?_, fun a h1 h2 h3 => ?_, fun _ => RS_sput hR hW, fun hh => by omega⟩
    · unfold fX10_putToken bX10_putToken
      rw [if_neg (show ¬ 40 ≤ v 6 by omega)]
      simp (disch := omega) only [Option.bind_some, km1, k0, k1, k2, k3, k4, k5, k6, k7, k8, k9, k10, k11, k15, k16, k20, k32, k33, k39, k40, k43, k44, k45, k48, k49, k50, k51, k52, k57, k59, k60, k63, k64, k80, k97, k100, k101, k108, k112, k114, k117, k126, k130, k650, k100000, k1000000, ii_add, ii_sub, ii_neg, ii_mul, ii_lt, ii_le, ii_eq, if_true, if_false, if_pos, if_neg, gI_0, gI_1, gI_2, gI_4, gI_7, gI_15, gI_59, gI_61, gI_62, gI_66, gI_68, gI_71, gI_72, gI_74, gR_0_0, gR_0_1, gR_0_3, gR_0_4, gR_0_5, gR_0_6, gR_0_7, gR_0_8, gR_1_0, gR_1_1, gR_1_2, gR_2_0, gR_4_0, gR_4_1, gR_15_0, gR_59_0, gR_61_0, gR_61_1, gR_61_2, gR_62_0, gR_62_1, gR_62_2, gR_66_0, gR_66_1, gR_68_0, gR_68_1, gR_71_0, gR_72_0, gR_74_0, gR_74_1, gR_74_3, gR_74_5, gR_74_7, gR_74_8, gR_74_9, gR_74_15, ld_3, ld_5, ld_6, ld_60, ld_63, ld_64, ld_65, ld_67, ld_69, ld_70, ld_73, ld_75, ld_76, ld_77, ld_78, ld_79, ld_80, ld_82, st_3, st_5, st_6, st_60, st_63, st_64, st_65, st_67, st_69, st_70, st_73, st_75, st_76, st_77, st_78, st_79, st_80, st_82, aL_3, aL_5, aL_6, aL_60, aL_63, aL_64, aL_65, aL_67, aL_69, aL_70, aL_73, aL_75, aL_76, aL_77, aL_78, aL_79, aL_80, aL_82, pI_0, pI_1, pI_2, pI_4, pI_7, pI_15, pI_59, pI_61, pI_62, pI_66, pI_68, pI_71, pI_72, pI_74, ld_81, ld_16, aL_16, if_pos o0, r, r2]
    · simp (disch := omega) only [u2_offr]
  · rw [if_neg h] at r
    refine ⟨μ.1, ?_, fun _ _ _ _ => rfl, fun hh => absurd hh h, fun _ => rfl⟩
    unfold fX10_putToken bX10_putToken
    rw [if_pos (show 40 ≤ v 6 by omega)]
    simp (disch := omega) only [Option.bind_some, km1, k0, k1, k2, k3, k4, k5, k6, k7, k8, k9, k10, k11, k15, k16, k20, k32, k33, k39, k40, k43, k44, k45, k48, k49, k50, k51, k52, k57, k59, k60, k63, k64, k80, k97, k100, k101, k108, k112, k114, k117, k126, k130, k650, k100000, k1000000, ii_add, ii_sub, ii_neg, ii_mul, ii_lt, ii_le, ii_eq, if_true, if_false, if_pos, if_neg, gI_0, gI_1, gI_2, gI_4, gI_7, gI_15, gI_59, gI_61, gI_62, gI_66, gI_68, gI_71, gI_72, gI_74, gR_0_0, gR_0_1, gR_0_3, gR_0_4, gR_0_5, gR_0_6, gR_0_7, gR_0_8, gR_1_0, gR_1_1, gR_1_2, gR_2_0, gR_4_0, gR_4_1, gR_15_0, gR_59_0, gR_61_0, gR_61_1, gR_61_2, gR_62_0, gR_62_1, gR_62_2, gR_66_0, gR_66_1, gR_68_0, gR_68_1, gR_71_0, gR_72_0, gR_74_0, gR_74_1, gR_74_3, gR_74_5, gR_74_7, gR_74_8, gR_74_9, gR_74_15, ld_3, ld_5, ld_6, ld_60, ld_63, ld_64, ld_65, ld_67, ld_69, ld_70, ld_73, ld_75, ld_76, ld_77, ld_78, ld_79, ld_80, ld_82, st_3, st_5, st_6, st_60, st_63, st_64, st_65, st_67, st_69, st_70, st_73, st_75, st_76, st_77, st_78, st_79, st_80, st_82, aL_3, aL_5, aL_6, aL_60, aL_63, aL_64, aL_65, aL_67, aL_69, aL_70, aL_73, aL_75, aL_76, aL_77, aL_78, aL_79, aL_80, aL_82, pI_0, pI_1, pI_2, pI_4, pI_7, pI_15, pI_59, pI_61, pI_62, pI_66, pI_68, pI_71, pI_72, pI_74, ld_81, ld_16, aL_16, if_pos o0, r]
def DF (m m' : Nat → Nat → Int32) : Prop := ∀ a, (a < 2 ∨ 7 ≤ a) → a ≠ 67 → (a < 71 ∨ 73 < a) → m' a = m a
theorem cdo_43 {i e : Int} (hW : WF v) (hR : RS μ.1 1 v) (hK : WK μ.1 b Y) (hY : YB b Y) (h0 : 0 ≤ i) (hi : i < b) (hie : i + 1 ≤ e) (he : e ≤ b) (hE : fX9_endOfPart oS μ 59 (ii i) = some (ii e)) (c : Y i = 43) (hL : ∀ k, i + 1 ≤ k → k < e → 97 ≤ Y k ∧ Y k ≤ 100) : ∃ m', fX10_doPart oS μ 0 (ii i) = some (ii (if 40 < v 0 + (e - (i + 1)) then 3 else 0), (m', μ.2)) ∧ DF μ.1 m' ∧ (v 0 + (e - (i + 1)) ≤ 40 → RS m' 1 (putL Y (e - (i + 1)).toNat (i + 1) v)) ∧ (40 < v 0 + (e - (i + 1)) → m' = μ.1) := by
  have g := hY.1
  have g0 := wf_0 hW
  have r1 := code_at hK hY h0 hi
  have hc := rs_c (RS_T hR)
  by_cases h : 40 < v 0 + (e - (i + 1))
  · refine ⟨μ.1, ?_, fun _ _ _ _ => rfl, fun hh => by omega, fun _ => rfl⟩
    have r2 : fX10_putLetters oS μ 0 (ii (i + 1)) (ii e) = some (ii 3, μ) := by
      unfold fX10_putLetters bX10_putLetters
      simp (disch := omega) only [Option.bind_some, km1, k0, k1, k2, k3, k4, k5, k6, k7, k8, k9, k10, k11, k15, k16, k20, k32, k33, k39, k40, k43, k44, k45, k48, k49, k50, k51, k52, k57, k59, k60, k63, k64, k80, k97, k100, k101, k108, k112, k114, k117, k126, k130, k650, k100000, k1000000, ii_add, ii_sub, ii_neg, ii_mul, ii_lt, ii_le, ii_eq, if_true, if_false, if_pos, if_neg, gI_0, gI_1, gI_2, gI_4, gI_7, gI_15, gI_59, gI_61, gI_62, gI_66, gI_68, gI_71, gI_72, gI_74, gR_0_0, gR_0_1, gR_0_3, gR_0_4, gR_0_5, gR_0_6, gR_0_7, gR_0_8, gR_1_0, gR_1_1, gR_1_2, gR_2_0, gR_4_0, gR_4_1, gR_15_0, gR_59_0, gR_61_0, gR_61_1, gR_61_2, gR_62_0, gR_62_1, gR_62_2, gR_66_0, gR_66_1, gR_68_0, gR_68_1, gR_71_0, gR_72_0, gR_74_0, gR_74_1, gR_74_3, gR_74_5, gR_74_7, gR_74_8, gR_74_9, gR_74_15, ld_3, ld_5, ld_6, ld_60, ld_63, ld_64, ld_65, ld_67, ld_69, ld_70, ld_73, ld_75, ld_76, ld_77, ld_78, ld_79, ld_80, ld_82, st_3, st_5, st_6, st_60, st_63, st_64, st_65, st_67, st_69, st_70, st_73, st_75, st_76, st_77, st_78, st_79, st_80, st_82, aL_3, aL_5, aL_6, aL_60, aL_63, aL_64, aL_65, aL_67, aL_69, aL_70, aL_73, aL_75, aL_76, aL_77, aL_78, aL_79, aL_80, aL_82, pI_0, pI_1, pI_2, pI_4, pI_7, pI_15, pI_59, pI_61, pI_62, pI_66, pI_68, pI_71, pI_72, pI_74, ld_81, ld_16, aL_16, if_pos o0, hc]
    rw [if_pos h]
    unfold fX10_doPart bX10_doPart
    simp (disch := omega) only [Option.bind_some, km1, k0, k1, k2, k3, k4, k5, k6, k7, k8, k9, k10, k11, k15, k16, k20, k32, k33, k39, k40, k43, k44, k45, k48, k49, k50, k51, k52, k57, k59, k60, k63, k64, k80, k97, k100, k101, k108, k112, k114, k117, k126, k130, k650, k100000, k1000000, ii_add, ii_sub, ii_neg, ii_mul, ii_lt, ii_le, ii_eq, if_true, if_false, if_pos, if_neg, gI_0, gI_1, gI_2, gI_4, gI_7, gI_15, gI_59, gI_61, gI_62, gI_66, gI_68, gI_71, gI_72, gI_74, gR_0_0, gR_0_1, gR_0_3, gR_0_4, gR_0_5, gR_0_6, gR_0_7, gR_0_8, gR_1_0, gR_1_1, gR_1_2, gR_2_0, gR_4_0, gR_4_1, gR_15_0, gR_59_0, gR_61_0, gR_61_1, gR_61_2, gR_62_0, gR_62_1, gR_62_2, gR_66_0, gR_66_1, gR_68_0, gR_68_1, gR_71_0, gR_72_0, gR_74_0, gR_74_1, gR_74_3, gR_74_5, gR_74_7, gR_74_8, gR_74_9, gR_74_15, ld_3, ld_5, ld_6, ld_60, ld_63, ld_64, ld_65, ld_67, ld_69, ld_70, ld_73, ld_75, ld_76, ld_77, ld_78, ld_79, ld_80, ld_82, st_3, st_5, st_6, st_60, st_63, st_64, st_65, st_67, st_69, st_70, st_73, st_75, st_76, st_77, st_78, st_79, st_80, st_82, aL_3, aL_5, aL_6, aL_60, aL_63, aL_64, aL_65, aL_67, aL_69, aL_70, aL_73, aL_75, aL_76, aL_77, aL_78, aL_79, aL_80, aL_82, pI_0, pI_1, pI_2, pI_4, pI_7, pI_15, pI_59, pI_61, pI_62, pI_66, pI_68, pI_71, pI_72, pI_74, ld_81, ld_16, aL_16, if_pos o0, r1, hE, r2, ii_toInt]
  · obtain ⟨m', i1, i2, i3⟩ := plet_loop (μ := μ) hK hY he (e - (i + 1)).toNat FU (i + 1) v μ (by omega) (by have := hFU; omega) (by omega) hK hR hW (by omega) hL
    refine ⟨m', ?_, fun a h1 h2 h3 => i2 a (by omega) (by omega), fun _ => i3, fun hh => absurd hh h⟩
    have r2 : fX10_putLetters oS μ 0 (ii (i + 1)) (ii e) = some (ii 0, (m', μ.2)) := by
      unfold fX10_putLetters bX10_putLetters
      generalize lX10_putLetters_23 oS FU = K at i1 ⊢
      simp (disch := omega) only [Option.bind_some, km1, k0, k1, k2, k3, k4, k5, k6, k7, k8, k9, k10, k11, k15, k16, k20, k32, k33, k39, k40, k43, k44, k45, k48, k49, k50, k51, k52, k57, k59, k60, k63, k64, k80, k97, k100, k101, k108, k112, k114, k117, k126, k130, k650, k100000, k1000000, ii_add, ii_sub, ii_neg, ii_mul, ii_lt, ii_le, ii_eq, if_true, if_false, if_pos, if_neg, gI_0, gI_1, gI_2, gI_4, gI_7, gI_15, gI_59, gI_61, gI_62, gI_66, gI_68, gI_71, gI_72, gI_74, gR_0_0, gR_0_1, gR_0_3, gR_0_4, gR_0_5, gR_0_6, gR_0_7, gR_0_8, gR_1_0, gR_1_1, gR_1_2, gR_2_0, gR_4_0, gR_4_1, gR_15_0, gR_59_0, gR_61_0, gR_61_1, gR_61_2, gR_62_0, gR_62_1, gR_62_2, gR_66_0, gR_66_1, gR_68_0, gR_68_1, gR_71_0, gR_72_0, gR_74_0, gR_74_1, gR_74_3, gR_74_5, gR_74_7, gR_74_8, gR_74_9, gR_74_15, ld_3, ld_5, ld_6, ld_60, ld_63, ld_64, ld_65, ld_67, ld_69, ld_70, ld_73, ld_75, ld_76, ld_77, ld_78, ld_79, ld_80, ld_82, st_3, st_5, st_6, st_60, st_63, st_64, st_65, st_67, st_69, st_70, st_73, st_75, st_76, st_77, st_78, st_79, st_80, st_82, aL_3, aL_5, aL_6, aL_60, aL_63, aL_64, aL_65, aL_67, aL_69, aL_70, aL_73, aL_75, aL_76, aL_77, aL_78, aL_79, aL_80, aL_82, pI_0, pI_1, pI_2, pI_4, pI_7, pI_15, pI_59, pI_61, pI_62, pI_66, pI_68, pI_71, pI_72, pI_74, ld_81, ld_16, aL_16, if_pos o0, hc, i1]
    rw [if_neg h]
    unfold fX10_doPart bX10_doPart
    simp (disch := omega) only [Option.bind_some, km1, k0, k1, k2, k3, k4, k5, k6, k7, k8, k9, k10, k11, k15, k16, k20, k32, k33, k39, k40, k43, k44, k45, k48, k49, k50, k51, k52, k57, k59, k60, k63, k64, k80, k97, k100, k101, k108, k112, k114, k117, k126, k130, k650, k100000, k1000000, ii_add, ii_sub, ii_neg, ii_mul, ii_lt, ii_le, ii_eq, if_true, if_false, if_pos, if_neg, gI_0, gI_1, gI_2, gI_4, gI_7, gI_15, gI_59, gI_61, gI_62, gI_66, gI_68, gI_71, gI_72, gI_74, gR_0_0, gR_0_1, gR_0_3, gR_0_4, gR_0_5, gR_0_6, gR_0_7, gR_0_8, gR_1_0, gR_1_1, gR_1_2, gR_2_0, gR_4_0, gR_4_1, gR_15_0, gR_59_0, gR_61_0, gR_61_1, gR_61_2, gR_62_0, gR_62_1, gR_62_2, gR_66_0, gR_66_1, gR_68_0, gR_68_1, gR_71_0, gR_72_0, gR_74_0, gR_74_1, gR_74_3, gR_74_5, gR_74_7, gR_74_8, gR_74_9, gR_74_15, ld_3, ld_5, ld_6, ld_60, ld_63, ld_64, ld_65, ld_67, ld_69, ld_70, ld_73, ld_75, ld_76, ld_77, ld_78, ld_79, ld_80, ld_82, st_3, st_5, st_6, st_60, st_63, st_64, st_65, st_67, st_69, st_70, st_73, st_75, st_76, st_77, st_78, st_79, st_80, st_82, aL_3, aL_5, aL_6, aL_60, aL_63, aL_64, aL_65, aL_67, aL_69, aL_70, aL_73, aL_75, aL_76, aL_77, aL_78, aL_79, aL_80, aL_82, pI_0, pI_1, pI_2, pI_4, pI_7, pI_15, pI_59, pI_61, pI_62, pI_66, pI_68, pI_71, pI_72, pI_74, ld_81, ld_16, aL_16, if_pos o0, r1, hE, r2, ii_toInt]
theorem cdo_45 {i : Int} (hW : WF v) (hR : RS μ.1 1 v) (hK : WK μ.1 b Y) (hY : YB b Y) (h0 : 0 ≤ i) (hi : i < b) (c : Y i = 45) : ∃ m', fX10_doPart oS μ 0 (ii i) = some (ii 0, (m', μ.2)) ∧ DF μ.1 m' ∧ RS m' 1 (clr (upI v 0 0) 10 40) := by
  have r1 := code_at hK hY h0 hi
  have r2 : fX2_clear oS μ 2 = some (u2 μ.1 2 1 (ii 0), μ.2) := lclear_at oLt_2
  refine ⟨u2 μ.1 2 1 (ii 0), ?_, fun a h1 h2 h3 => by simp (disch := omega) only [u2_offr], RS_lcl hR hW⟩
  unfold fX10_doPart bX10_doPart
  simp (disch := omega) only [Option.bind_some, km1, k0, k1, k2, k3, k4, k5, k6, k7, k8, k9, k10, k11, k15, k16, k20, k32, k33, k39, k40, k43, k44, k45, k48, k49, k50, k51, k52, k57, k59, k60, k63, k64, k80, k97, k100, k101, k108, k112, k114, k117, k126, k130, k650, k100000, k1000000, ii_add, ii_sub, ii_neg, ii_mul, ii_lt, ii_le, ii_eq, if_true, if_false, if_pos, if_neg, gI_0, gI_1, gI_2, gI_4, gI_7, gI_15, gI_59, gI_61, gI_62, gI_66, gI_68, gI_71, gI_72, gI_74, gR_0_0, gR_0_1, gR_0_3, gR_0_4, gR_0_5, gR_0_6, gR_0_7, gR_0_8, gR_1_0, gR_1_1, gR_1_2, gR_2_0, gR_4_0, gR_4_1, gR_15_0, gR_59_0, gR_61_0, gR_61_1, gR_61_2, gR_62_0, gR_62_1, gR_62_2, gR_66_0, gR_66_1, gR_68_0, gR_68_1, gR_71_0, gR_72_0, gR_74_0, gR_74_1, gR_74_3, gR_74_5, gR_74_7, gR_74_8, gR_74_9, gR_74_15, ld_3, ld_5, ld_6, ld_60, ld_63, ld_64, ld_65, ld_67, ld_69, ld_70, ld_73, ld_75, ld_76, ld_77, ld_78, ld_79, ld_80, ld_82, st_3, st_5, st_6, st_60, st_63, st_64, st_65, st_67, st_69, st_70, st_73, st_75, st_76, st_77, st_78, st_79, st_80, st_82, aL_3, aL_5, aL_6, aL_60, aL_63, aL_64, aL_65, aL_67, aL_69, aL_70, aL_73, aL_75, aL_76, aL_77, aL_78, aL_79, aL_80, aL_82, pI_0, pI_1, pI_2, pI_4, pI_7, pI_15, pI_59, pI_61, pI_62, pI_66, pI_68, pI_71, pI_72, pI_74, ld_81, ld_16, aL_16, if_pos o0, r1, r2, ii_toInt]
theorem cdo_101 {i : Int} (hW : WF v) (hR : RS μ.1 1 v) (hK : WK μ.1 b Y) (hY : YB b Y) (h0 : 0 ≤ i) (hi : i < b) (c : Y i = 101) : ∃ m', fX10_doPart oS μ 0 (ii i) = some (ii 0, (m', μ.2)) ∧ DF μ.1 m' ∧ RS m' 1 (clr (upI v 6 0) 50 80) := by
  have r1 := code_at hK hY h0 hi
  have r2 : fX5_clear oS μ 4 = some (u2 μ.1 4 2 (ii 0), μ.2) := sclear_at oSk_4
  refine ⟨u2 μ.1 4 2 (ii 0), ?_, fun a h1 h2 h3 => by simp (disch := omega) only [u2_offr], RS_scl hR hW⟩
  unfold fX10_doPart bX10_doPart
  simp (disch := omega) only [Option.bind_some, km1, k0, k1, k2, k3, k4, k5, k6, k7, k8, k9, k10, k11, k15, k16, k20, k32, k33, k39, k40, k43, k44, k45, k48, k49, k50, k51, k52, k57, k59, k60, k63, k64, k80, k97, k100, k101, k108, k112, k114, k117, k126, k130, k650, k100000, k1000000, ii_add, ii_sub, ii_neg, ii_mul, ii_lt, ii_le, ii_eq, if_true, if_false, if_pos, if_neg, gI_0, gI_1, gI_2, gI_4, gI_7, gI_15, gI_59, gI_61, gI_62, gI_66, gI_68, gI_71, gI_72, gI_74, gR_0_0, gR_0_1, gR_0_3, gR_0_4, gR_0_5, gR_0_6, gR_0_7, gR_0_8, gR_1_0, gR_1_1, gR_1_2, gR_2_0, gR_4_0, gR_4_1, gR_15_0, gR_59_0, gR_61_0, gR_61_1, gR_61_2, gR_62_0, gR_62_1, gR_62_2, gR_66_0, gR_66_1, gR_68_0, gR_68_1, gR_71_0, gR_72_0, gR_74_0, gR_74_1, gR_74_3, gR_74_5, gR_74_7, gR_74_8, gR_74_9, gR_74_15, ld_3, ld_5, ld_6, ld_60, ld_63, ld_64, ld_65, ld_67, ld_69, ld_70, ld_73, ld_75, ld_76, ld_77, ld_78, ld_79, ld_80, ld_82, st_3, st_5, st_6, st_60, st_63, st_64, st_65, st_67, st_69, st_70, st_73, st_75, st_76, st_77, st_78, st_79, st_80, st_82, aL_3, aL_5, aL_6, aL_60, aL_63, aL_64, aL_65, aL_67, aL_69, aL_70, aL_73, aL_75, aL_76, aL_77, aL_78, aL_79, aL_80, aL_82, pI_0, pI_1, pI_2, pI_4, pI_7, pI_15, pI_59, pI_61, pI_62, pI_66, pI_68, pI_71, pI_72, pI_74, ld_81, ld_16, aL_16, if_pos o0, r1, r2, ii_toInt]
theorem cdo_112 {i : Int} (hW : WF v) (hR : RS μ.1 1 v) (hK : WK μ.1 b Y) (hY : YB b Y) (h0 : 0 ≤ i) (hi : i + 1 < b) (c : Y i = 112) (w0 : 0 ≤ Y (i + 1) - 48) (w1 : Y (i + 1) - 48 ≤ 2) : ∃ m', fX10_doPart oS μ 0 (ii i) = some (ii 0, (m', μ.2)) ∧ DF μ.1 m' ∧ RS m' 1 (pkv v (Y (i + 1) - 48)) := by
  have g := hY.1
  have r1 := code_at hK hY h0 (show i < b by omega)
  have r2 := code_at hK hY (show 0 ≤ i + 1 by omega) hi
  obtain ⟨m', j1, j2, j3⟩ := packBy_at (μ := μ) (RS_T hR) hW oSk_4 (Or.inl rfl) w0 w1
  refine ⟨m', ?_, fun a h1 h2 h3 => j2 a (by omega) (by omega) (by omega) h2, RS_pkv hR hW (fun b hb => j2 b (by omega) (by omega) (by omega) (by omega)) j3⟩
  unfold fX10_doPart bX10_doPart
  simp (disch := omega) only [Option.bind_some, km1, k0, k1, k2, k3, k4, k5, k6, k7, k8, k9, k10, k11, k15, k16, k20, k32, k33, k39, k40, k43, k44, k45, k48, k49, k50, k51, k52, k57, k59, k60, k63, k64, k80, k97, k100, k101, k108, k112, k114, k117, k126, k130, k650, k100000, k1000000, ii_add, ii_sub, ii_neg, ii_mul, ii_lt, ii_le, ii_eq, if_true, if_false, if_pos, if_neg, gI_0, gI_1, gI_2, gI_4, gI_7, gI_15, gI_59, gI_61, gI_62, gI_66, gI_68, gI_71, gI_72, gI_74, gR_0_0, gR_0_1, gR_0_3, gR_0_4, gR_0_5, gR_0_6, gR_0_7, gR_0_8, gR_1_0, gR_1_1, gR_1_2, gR_2_0, gR_4_0, gR_4_1, gR_15_0, gR_59_0, gR_61_0, gR_61_1, gR_61_2, gR_62_0, gR_62_1, gR_62_2, gR_66_0, gR_66_1, gR_68_0, gR_68_1, gR_71_0, gR_72_0, gR_74_0, gR_74_1, gR_74_3, gR_74_5, gR_74_7, gR_74_8, gR_74_9, gR_74_15, ld_3, ld_5, ld_6, ld_60, ld_63, ld_64, ld_65, ld_67, ld_69, ld_70, ld_73, ld_75, ld_76, ld_77, ld_78, ld_79, ld_80, ld_82, st_3, st_5, st_6, st_60, st_63, st_64, st_65, st_67, st_69, st_70, st_73, st_75, st_76, st_77, st_78, st_79, st_80, st_82, aL_3, aL_5, aL_6, aL_60, aL_63, aL_64, aL_65, aL_67, aL_69, aL_70, aL_73, aL_75, aL_76, aL_77, aL_78, aL_79, aL_80, aL_82, pI_0, pI_1, pI_2, pI_4, pI_7, pI_15, pI_59, pI_61, pI_62, pI_66, pI_68, pI_71, pI_72, pI_74, ld_81, ld_16, aL_16, if_pos o0, r1, r2, j1, ii_toInt]
theorem cdo_108 {i : Int} (hW : WF v) (hR : RS μ.1 1 v) (hK : WK μ.1 b Y) (hY : YB b Y) (h0 : 0 ≤ i) (hi : i + 1 < b) (c : Y i = 108) : ∃ m', fX10_doPart oS μ 0 (ii i) = some (ii (if 40 ≤ v 6 then 4 else 0), (m', μ.2)) ∧ DF μ.1 m' ∧ (v 6 < 40 → RS m' 1 (skp v 0 (Y (i + 1) - 97))) ∧ (40 ≤ v 6 → m' = μ.1) := by
  have g := hY.1
  have r1 := code_at hK hY h0 (show i < b by omega)
  have r2 := code_at hK hY (show 0 ≤ i + 1 by omega) hi
  obtain ⟨m', j1, j2, j3⟩ := ptok_at (μ := μ) (d := 0) (x := Y (i + 1) - 97) hW hR
  refine ⟨m', ?_, fun a h1 h2 h3 => j2 a (by omega) (by omega) (by omega), j3⟩
  unfold fX10_doPart bX10_doPart
  generalize (if 40 ≤ v 6 then (4 : Int) else 0) = z at j1 ⊢
  simp (disch := omega) only [Option.bind_some, km1, k0, k1, k2, k3, k4, k5, k6, k7, k8, k9, k10, k11, k15, k16, k20, k32, k33, k39, k40, k43, k44, k45, k48, k49, k50, k51, k52, k57, k59, k60, k63, k64, k80, k97, k100, k101, k108, k112, k114, k117, k126, k130, k650, k100000, k1000000, ii_add, ii_sub, ii_neg, ii_mul, ii_lt, ii_le, ii_eq, if_true, if_false, if_pos, if_neg, gI_0, gI_1, gI_2, gI_4, gI_7, gI_15, gI_59, gI_61, gI_62, gI_66, gI_68, gI_71, gI_72, gI_74, gR_0_0, gR_0_1, gR_0_3, gR_0_4, gR_0_5, gR_0_6, gR_0_7, gR_0_8, gR_1_0, gR_1_1, gR_1_2, gR_2_0, gR_4_0, gR_4_1, gR_15_0, gR_59_0, gR_61_0, gR_61_1, gR_61_2, gR_62_0, gR_62_1, gR_62_2, gR_66_0, gR_66_1, gR_68_0, gR_68_1, gR_71_0, gR_72_0, gR_74_0, gR_74_1, gR_74_3, gR_74_5, gR_74_7, gR_74_8, gR_74_9, gR_74_15, ld_3, ld_5, ld_6, ld_60, ld_63, ld_64, ld_65, ld_67, ld_69, ld_70, ld_73, ld_75, ld_76, ld_77, ld_78, ld_79, ld_80, ld_82, st_3, st_5, st_6, st_60, st_63, st_64, st_65, st_67, st_69, st_70, st_73, st_75, st_76, st_77, st_78, st_79, st_80, st_82, aL_3, aL_5, aL_6, aL_60, aL_63, aL_64, aL_65, aL_67, aL_69, aL_70, aL_73, aL_75, aL_76, aL_77, aL_78, aL_79, aL_80, aL_82, pI_0, pI_1, pI_2, pI_4, pI_7, pI_15, pI_59, pI_61, pI_62, pI_66, pI_68, pI_71, pI_72, pI_74, ld_81, ld_16, aL_16, if_pos o0, r1, r2, j1, ii_toInt]
theorem cdo_114 {i : Int} (hW : WF v) (hR : RS μ.1 1 v) (hK : WK μ.1 b Y) (hY : YB b Y) (h0 : 0 ≤ i) (hi : i < b) (c : Y i = 114) (n1 : (nm b Y 39 (i + 1)).1 = -1) (n2 : (nm b Y 40 ((nm b Y 39 (i + 1)).2.1 + 1)).1 = -1) : ∃ m', fX10_doPart oS μ 0 (ii i) = some (ii (if 40 ≤ v 6 then 4 else 0), (m', μ.2)) ∧ DF μ.1 m' ∧ (v 6 < 40 → RS m' 1 (skp v (nm b Y 39 (i + 1)).2.2 (nm b Y 40 ((nm b Y 39 (i + 1)).2.1 + 1)).2.2)) ∧ (40 ≤ v 6 → m' = μ.1) := by
  have g := hY.1
  have r1 := code_at hK hY h0 hi
  have e1 := nm_dig n1 (by omega) (by omega)
  have e2 := nm_dig n2 (by omega) (by omega)
  obtain ⟨a1, a2⟩ := num_at (μ := μ) hK hY n1 (by omega) (by omega)
  obtain ⟨a3, a4⟩ := num_at (μ := μ) hK hY n2 (by omega) (by omega)
  obtain ⟨m', j1, j2, j3⟩ := ptok_at (μ := μ) (d := (nm b Y 39 (i + 1)).2.2) (x := (nm b Y 40 ((nm b Y 39 (i + 1)).2.1 + 1)).2.2) hW hR
  refine ⟨m', ?_, fun a h1 h2 h3 => j2 a (by omega) (by omega) (by omega), j3⟩
  unfold fX10_doPart bX10_doPart
  generalize (if 40 ≤ v 6 then (4 : Int) else 0) = z at j1 ⊢
  simp (disch := omega) only [Option.bind_some, km1, k0, k1, k2, k3, k4, k5, k6, k7, k8, k9, k10, k11, k15, k16, k20, k32, k33, k39, k40, k43, k44, k45, k48, k49, k50, k51, k52, k57, k59, k60, k63, k64, k80, k97, k100, k101, k108, k112, k114, k117, k126, k130, k650, k100000, k1000000, ii_add, ii_sub, ii_neg, ii_mul, ii_lt, ii_le, ii_eq, if_true, if_false, if_pos, if_neg, gI_0, gI_1, gI_2, gI_4, gI_7, gI_15, gI_59, gI_61, gI_62, gI_66, gI_68, gI_71, gI_72, gI_74, gR_0_0, gR_0_1, gR_0_3, gR_0_4, gR_0_5, gR_0_6, gR_0_7, gR_0_8, gR_1_0, gR_1_1, gR_1_2, gR_2_0, gR_4_0, gR_4_1, gR_15_0, gR_59_0, gR_61_0, gR_61_1, gR_61_2, gR_62_0, gR_62_1, gR_62_2, gR_66_0, gR_66_1, gR_68_0, gR_68_1, gR_71_0, gR_72_0, gR_74_0, gR_74_1, gR_74_3, gR_74_5, gR_74_7, gR_74_8, gR_74_9, gR_74_15, ld_3, ld_5, ld_6, ld_60, ld_63, ld_64, ld_65, ld_67, ld_69, ld_70, ld_73, ld_75, ld_76, ld_77, ld_78, ld_79, ld_80, ld_82, st_3, st_5, st_6, st_60, st_63, st_64, st_65, st_67, st_69, st_70, st_73, st_75, st_76, st_77, st_78, st_79, st_80, st_82, aL_3, aL_5, aL_6, aL_60, aL_63, aL_64, aL_65, aL_67, aL_69, aL_70, aL_73, aL_75, aL_76, aL_77, aL_78, aL_79, aL_80, aL_82, pI_0, pI_1, pI_2, pI_4, pI_7, pI_15, pI_59, pI_61, pI_62, pI_66, pI_68, pI_71, pI_72, pI_74, ld_81, ld_16, aL_16, if_pos o0, r1, a1, a2, a4, j1, ii_toInt]
theorem cdo_117 {i : Int} (hW : WF v) (hR : RS μ.1 1 v) (hK : WK μ.1 b Y) (hY : YB b Y) (h0 : 0 ≤ i) (hi : i < b) (c : Y i = 117) : ∃ m', fX10_doPart oS μ 0 (ii i) = some (ii (unp v).2.2.2, (m', μ.2)) ∧ DF μ.1 m' ∧ ((unp v).2.2.2 = 0 → RS m' 1 (setTx v (unp v).1 (unp v).2.1)) ∧ ((unp v).2.2.2 ≠ 0 → RS m' 1 v) := by
  have r1 := code_at hK hY h0 hi
  obtain ⟨m', j1, j2, j3⟩ := run_at (μ := μ) hR hW
  obtain ⟨b1, b2, b3, b4⟩ := unp_b hW
  have hy := j3.2.2.2
  have hR1 : RS m' 1 v := RS_fr (fun j hj => j2 _ (by omega) (by omega) (by omega)) hR
  by_cases h : (unp v).2.2.2 = 0
  · obtain ⟨m2, l1, l2, l3, l4⟩ := lcopy_at (μ := (m', μ.2)) oLt_2 oLt_72 (by omega)
    have hn : m2 2 1 = ii (unp v).1 := l3.trans j3.1
    have hy2 : m2 71 2 = ii (unp v).2.2.2 := (congrFun (l2 71 (by omega) (by omega)) 2).trans hy
    have r2 : fX10_unpackIfPossible oS μ 0 = some (ii (unp v).2.2.2, (m2, μ.2)) := by
      unfold fX10_unpackIfPossible bX10_unpackIfPossible
      simp (disch := omega) only [Option.bind_some, km1, k0, k1, k2, k3, k4, k5, k6, k7, k8, k9, k10, k11, k15, k16, k20, k32, k33, k39, k40, k43, k44, k45, k48, k49, k50, k51, k52, k57, k59, k60, k63, k64, k80, k97, k100, k101, k108, k112, k114, k117, k126, k130, k650, k100000, k1000000, ii_add, ii_sub, ii_neg, ii_mul, ii_lt, ii_le, ii_eq, if_true, if_false, if_pos, if_neg, gI_0, gI_1, gI_2, gI_4, gI_7, gI_15, gI_59, gI_61, gI_62, gI_66, gI_68, gI_71, gI_72, gI_74, gR_0_0, gR_0_1, gR_0_3, gR_0_4, gR_0_5, gR_0_6, gR_0_7, gR_0_8, gR_1_0, gR_1_1, gR_1_2, gR_2_0, gR_4_0, gR_4_1, gR_15_0, gR_59_0, gR_61_0, gR_61_1, gR_61_2, gR_62_0, gR_62_1, gR_62_2, gR_66_0, gR_66_1, gR_68_0, gR_68_1, gR_71_0, gR_72_0, gR_74_0, gR_74_1, gR_74_3, gR_74_5, gR_74_7, gR_74_8, gR_74_9, gR_74_15, ld_3, ld_5, ld_6, ld_60, ld_63, ld_64, ld_65, ld_67, ld_69, ld_70, ld_73, ld_75, ld_76, ld_77, ld_78, ld_79, ld_80, ld_82, st_3, st_5, st_6, st_60, st_63, st_64, st_65, st_67, st_69, st_70, st_73, st_75, st_76, st_77, st_78, st_79, st_80, st_82, aL_3, aL_5, aL_6, aL_60, aL_63, aL_64, aL_65, aL_67, aL_69, aL_70, aL_73, aL_75, aL_76, aL_77, aL_78, aL_79, aL_80, aL_82, pI_0, pI_1, pI_2, pI_4, pI_7, pI_15, pI_59, pI_61, pI_62, pI_66, pI_68, pI_71, pI_72, pI_74, ld_81, ld_16, aL_16, if_pos o0, j1, hy, l1, lX10_unpackIfPossible_41, hy2]
    refine ⟨m2, ?_, fun a h1 h2 h3 => (l2 a (by omega) (by omega)).trans (j2 a (by omega) (by omega) (by omega)), fun _ => RS_setTx hR1 b1.2 (fun b hb => l2 b (by omega) (by omega)) hn (fun i h7 h8 => (l4 i h7 (by omega)).trans (j3.2.1 i h7 h8)), fun hh => absurd h hh⟩
    unfold fX10_doPart bX10_doPart
    simp (disch := omega) only [Option.bind_some, km1, k0, k1, k2, k3, k4, k5, k6, k7, k8, k9, k10, k11, k15, k16, k20, k32, k33, k39, k40, k43, k44, k45, k48, k49, k50, k51, k52, k57, k59, k60, k63, k64, k80, k97, k100, k101, k108, k112, k114, k117, k126, k130, k650, k100000, k1000000, ii_add, ii_sub, ii_neg, ii_mul, ii_lt, ii_le, ii_eq, if_true, if_false, if_pos, if_neg, gI_0, gI_1, gI_2, gI_4, gI_7, gI_15, gI_59, gI_61, gI_62, gI_66, gI_68, gI_71, gI_72, gI_74, gR_0_0, gR_0_1, gR_0_3, gR_0_4, gR_0_5, gR_0_6, gR_0_7, gR_0_8, gR_1_0, gR_1_1, gR_1_2, gR_2_0, gR_4_0, gR_4_1, gR_15_0, gR_59_0, gR_61_0, gR_61_1, gR_61_2, gR_62_0, gR_62_1, gR_62_2, gR_66_0, gR_66_1, gR_68_0, gR_68_1, gR_71_0, gR_72_0, gR_74_0, gR_74_1, gR_74_3, gR_74_5, gR_74_7, gR_74_8, gR_74_9, gR_74_15, ld_3, ld_5, ld_6, ld_60, ld_63, ld_64, ld_65, ld_67, ld_69, ld_70, ld_73, ld_75, ld_76, ld_77, ld_78, ld_79, ld_80, ld_82, st_3, st_5, st_6, st_60, st_63, st_64, st_65, st_67, st_69, st_70, st_73, st_75, st_76, st_77, st_78, st_79, st_80, st_82, aL_3, aL_5, aL_6, aL_60, aL_63, aL_64, aL_65, aL_67, aL_69, aL_70, aL_73, aL_75, aL_76, aL_77, aL_78, aL_79, aL_80, aL_82, pI_0, pI_1, pI_2, pI_4, pI_7, pI_15, pI_59, pI_61, pI_62, pI_66, pI_68, pI_71, pI_72, pI_74, ld_81, ld_16, aL_16, if_pos o0, r1, r2, ii_toInt]
  · have r2 : fX10_unpackIfPossible oS μ 0 = some (ii (unp v).2.2.2, (m', μ.2)) := by
      unfold fX10_unpackIfPossible bX10_unpackIfPossible
      simp (disch := omega) only [Option.bind_some, km1, k0, k1, k2, k3, k4, k5, k6, k7, k8, k9, k10, k11, k15, k16, k20, k32, k33, k39, k40, k43, k44, k45, k48, k49, k50, k51, k52, k57, k59, k60, k63, k64, k80, k97, k100, k101, k108, k112, k114, k117, k126, k130, k650, k100000, k1000000, ii_add, ii_sub, ii_neg, ii_mul, ii_lt, ii_le, ii_eq, if_true, if_false, if_pos, if_neg, gI_0, gI_1, gI_2, gI_4, gI_7, gI_15, gI_59, gI_61, gI_62, gI_66, gI_68, gI_71, gI_72, gI_74, gR_0_0, gR_0_1, gR_0_3, gR_0_4, gR_0_5, gR_0_6, gR_0_7, gR_0_8, gR_1_0, gR_1_1, gR_1_2, gR_2_0, gR_4_0, gR_4_1, gR_15_0, gR_59_0, gR_61_0, gR_61_1, gR_61_2, gR_62_0, gR_62_1, gR_62_2, gR_66_0, gR_66_1, gR_68_0, gR_68_1, gR_71_0, gR_72_0, gR_74_0, gR_74_1, gR_74_3, gR_74_5, gR_74_7, gR_74_8, gR_74_9, gR_74_15, ld_3, ld_5, ld_6, ld_60, ld_63, ld_64, ld_65, ld_67, ld_69, ld_70, ld_73, ld_75, ld_76, ld_77, ld_78, ld_79, ld_80, ld_82, st_3, st_5, st_6, st_60, st_63, st_64, st_65, st_67, st_69, st_70, st_73, st_75, st_76, st_77, st_78, st_79, st_80, st_82, aL_3, aL_5, aL_6, aL_60, aL_63, aL_64, aL_65, aL_67, aL_69, aL_70, aL_73, aL_75, aL_76, aL_77, aL_78, aL_79, aL_80, aL_82, pI_0, pI_1, pI_2, pI_4, pI_7, pI_15, pI_59, pI_61, pI_62, pI_66, pI_68, pI_71, pI_72, pI_74, ld_81, ld_16, aL_16, if_pos o0, j1, hy, lX10_unpackIfPossible_41]
    refine ⟨m', ?_, fun a h1 h2 h3 => j2 a (by omega) (by omega) (by omega), fun hh => absurd hh h, fun _ => hR1⟩
    unfold fX10_doPart bX10_doPart
    simp (disch := omega) only [Option.bind_some, km1, k0, k1, k2, k3, k4, k5, k6, k7, k8, k9, k10, k11, k15, k16, k20, k32, k33, k39, k40, k43, k44, k45, k48, k49, k50, k51, k52, k57, k59, k60, k63, k64, k80, k97, k100, k101, k108, k112, k114, k117, k126, k130, k650, k100000, k1000000, ii_add, ii_sub, ii_neg, ii_mul, ii_lt, ii_le, ii_eq, if_true, if_false, if_pos, if_neg, gI_0, gI_1, gI_2, gI_4, gI_7, gI_15, gI_59, gI_61, gI_62, gI_66, gI_68, gI_71, gI_72, gI_74, gR_0_0, gR_0_1, gR_0_3, gR_0_4, gR_0_5, gR_0_6, gR_0_7, gR_0_8, gR_1_0, gR_1_1, gR_1_2, gR_2_0, gR_4_0, gR_4_1, gR_15_0, gR_59_0, gR_61_0, gR_61_1, gR_61_2, gR_62_0, gR_62_1, gR_62_2, gR_66_0, gR_66_1, gR_68_0, gR_68_1, gR_71_0, gR_72_0, gR_74_0, gR_74_1, gR_74_3, gR_74_5, gR_74_7, gR_74_8, gR_74_9, gR_74_15, ld_3, ld_5, ld_6, ld_60, ld_63, ld_64, ld_65, ld_67, ld_69, ld_70, ld_73, ld_75, ld_76, ld_77, ld_78, ld_79, ld_80, ld_82, st_3, st_5, st_6, st_60, st_63, st_64, st_65, st_67, st_69, st_70, st_73, st_75, st_76, st_77, st_78, st_79, st_80, st_82, aL_3, aL_5, aL_6, aL_60, aL_63, aL_64, aL_65, aL_67, aL_69, aL_70, aL_73, aL_75, aL_76, aL_77, aL_78, aL_79, aL_80, aL_82, pI_0, pI_1, pI_2, pI_4, pI_7, pI_15, pI_59, pI_61, pI_62, pI_66, pI_68, pI_71, pI_72, pI_74, ld_81, ld_16, aL_16, if_pos o0, r1, r2, ii_toInt]
theorem cdo_at {i : Int} (hW : WF v) (hR : RS μ.1 1 v) (hK : WK μ.1 b Y) (hY : YB b Y) (h0 : 0 ≤ i) (hp : (ptS b Y i).1 = -1) (he : (ptS b Y i).2.1 < b → Y (ptS b Y i).2.1 = 59) : ∃ m', fX10_doPart oS μ 0 (ii i) = some (ii (whyP v (Y i) (ptS b Y i).2.2.2), (m', μ.2)) ∧ DF μ.1 m' ∧ (whyP v (Y i) (ptS b Y i).2.2.2 = 0 → RS m' 1 (doP Y v (Y i) (ptS b Y i).2.2.1 (ptS b Y i).2.2.2)) ∧ (whyP v (Y i) (ptS b Y i).2.2.2 ≠ 0 → RS m' 1 v) := by
  have hE := eop_at hK hY hp h0 he
  have pb := (ptS_b (b := b) (Y := Y) h0).1 hp
  have hP := pt_kind hp h0
  generalize ptS b Y i = p at hE pb hP ⊢
  obtain ⟨w, e, x, y⟩ := p
  dsimp only at hE pb hP ⊢
  rcases hP with ⟨c, h1, h2, h3⟩ | ⟨c, h1, h2, h3, h4⟩ | ⟨c, h1, h2, h3, h4⟩ | ⟨c, h1, h2, h3, h4, h5, h6⟩ | c | c | c
  · obtain ⟨m', i1, i2, i3, i4⟩ := cdo_43 hW hR hK hY h0 (by omega) pb.1 pb.2 hE c h3
    subst h1
    subst h2
    rw [whyP_43 c, doP_43 c]
    refine ⟨m', i1, i2, fun hh => ?_, fun hh => ?_⟩
    · by_cases h : 40 < v 0 + (e - (i + 1))
      · rw [if_pos h] at hh
        omega
      · exact i3 (by omega)
    · by_cases h : 40 < v 0 + (e - (i + 1))
      · rw [i4 h]
        exact hR
      · rw [if_neg h] at hh
        exact absurd rfl hh
  · subst h2
    obtain ⟨m', i1, i2, i3⟩ := cdo_112 hW hR hK hY h0 h1 c h3 h4
    rw [whyP_n (by omega), doP_112 c]
    exact ⟨m', i1, i2, fun _ => i3, fun hh => absurd rfl hh⟩
  · subst h2
    obtain ⟨m', i1, i2, i3, i4⟩ := cdo_108 hW hR hK hY h0 h1 c
    rw [whyP_t (Or.inl c), doP_108 c]
    refine ⟨m', i1, i2, fun hh => ?_, fun hh => ?_⟩
    · by_cases h : 40 ≤ v 6
      · rw [if_pos h] at hh
        omega
      · exact i3 (by omega)
    · by_cases h : 40 ≤ v 6
      · rw [i4 h]
        exact hR
      · rw [if_neg h] at hh
        exact absurd rfl hh
  · subst h3
    subst h4
    obtain ⟨m', i1, i2, i3, i4⟩ := cdo_114 hW hR hK hY h0 (by omega) c h1 h2
    rw [whyP_t (Or.inr c), doP_114 c]
    refine ⟨m', i1, i2, fun hh => ?_, fun hh => ?_⟩
    · by_cases h : 40 ≤ v 6
      · rw [if_pos h] at hh
        omega
      · exact i3 (by omega)
    · by_cases h : 40 ≤ v 6
      · rw [i4 h]
        exact hR
      · rw [if_neg h] at hh
        exact absurd rfl hh
  · obtain ⟨m', i1, i2, i3⟩ := cdo_45 hW hR hK hY h0 (by omega) c
    rw [whyP_n (by omega), doP_45 c]
    exact ⟨m', i1, i2, fun _ => i3, fun hh => absurd rfl hh⟩
  · obtain ⟨m', i1, i2, i3, i4⟩ := cdo_117 hW hR hK hY h0 (by omega) c
    rw [whyP_117 c, doP_117 c]
    exact ⟨m', i1, i2, i3, i4⟩
  · obtain ⟨m', i1, i2, i3⟩ := cdo_101 hW hR hK hY h0 (by omega) c
    rw [whyP_n (by omega), doP_101 c]
    exact ⟨m', i1, i2, fun _ => i3, fun hh => absurd rfl hh⟩
