/-! the digest, as the reference tells it -/
variable {m : Nat → Nat → Int32} {l : Nat → Nat → Int64} {A : AS} {h : Int64}
theorem uL_at : u2 l 74 19 h 74 19 = h := u2_same
theorem uL_up {y : Int64} : u2 (u2 l 74 19 h) 74 19 y = u2 l 74 19 y := by
  funext a b
  by_cases hc : a = 74 ∧ b = 19
  · rw [hc.1, hc.2, u2_same, u2_same]
  · rw [u2_other (by omega), u2_other (by omega), u2_other (by omega)]
theorem adds_at {x : Int64} : fX11_adds oS (m, u2 l 74 19 h) 74 x = some (m, u2 l 74 19 (mx h x)) := by
  unfold fX11_adds bX11_adds
  rw [if_pos o74, gL_at o74, Option.bind_some, pL_at o74, Option.bind_some]
  show some (m, u2 (u2 l 74 19 h) 74 19 (31 * u2 l 74 19 h 74 19 + x)) = _
  rw [uL_up, uL_at]
  exact congrArg some (Eq.trans (Eq.refl _) (Eq.refl _))
theorem zl (hI : RI m A) {l' : Nat → Nat → Int64} (a : Int) (h0 : 0 ≤ a) (h1 : a < 130) : ldI oS (m, l') 75 (ii a) = some (ii (A.v a)) := (ld_75 h0 h1).trans (congrArg some (hI.1 a h0 h1))
theorem fl {x : Int} {b : Nat} {l' : Nat → Nat → Int64} (h : m 74 b = ii x) : gI oS (m, l') 74 11 b = some (ii x) := gI_74.trans (congrArg some h)
theorem zl0 (hI : RI m A) {l' : Nat → Nat → Int64} : ldI oS (m, l') 75 (0 : Int32) = some (ii (A.v 0)) := zl hI 0 (by omega) (by omega)
theorem zl1 (hI : RI m A) {l' : Nat → Nat → Int64} : ldI oS (m, l') 75 (1 : Int32) = some (ii (A.v 1)) := zl hI 1 (by omega) (by omega)
theorem zl2 (hI : RI m A) {l' : Nat → Nat → Int64} : ldI oS (m, l') 75 (2 : Int32) = some (ii (A.v 2)) := zl hI 2 (by omega) (by omega)
theorem zl3 (hI : RI m A) {l' : Nat → Nat → Int64} : ldI oS (m, l') 75 (3 : Int32) = some (ii (A.v 3)) := zl hI 3 (by omega) (by omega)
theorem zl6 (hI : RI m A) {l' : Nat → Nat → Int64} : ldI oS (m, l') 75 (6 : Int32) = some (ii (A.v 6)) := zl hI 6 (by omega) (by omega)
theorem lo_0 : lo 0 = 0 := by decide
theorem lo_1 : lo 1 = 1 := by decide
theorem r489_loop (hA : AW A) (hI : RI m A) : ∀ (f n : Nat) (k : Int) (h : Int64), A.b - k = f → f < n → 0 ≤ k → lX11_digest_489 oS n (m, u2 l 74 19 h) 74 (ii k) = some (hT A.Y f k h, (m, u2 l 74 19 (hT A.Y f k h))) := by
  have hB := RI_BF hI
  have g := (AW_YB hA).1
  have hc := hB.1
  intro f
  induction f with
  | zero =>
    intro n k h h1 h2 h3
    obtain ⟨n, rfl⟩ : ∃ k, n = k + 1 := ⟨n - 1, by omega⟩
    push_cast at h1
    unfold hT
    rw [lX11_digest_489]
    generalize lX11_digest_489 oS n = K
    simp (disch := omega) only [Option.bind_some, km1, k0, k1, k2, k3, k4, k5, k6, k7, k8, k9, k10, k11, k15, k16, k20, k32, k33, k39, k40, k43, k44, k45, k48, k49, k50, k51, k52, k57, k59, k60, k63, k64, k80, k97, k100, k101, k108, k112, k114, k117, k126, k130, k650, k100000, k1000000, ii_add, ii_sub, ii_neg, ii_mul, ii_lt, ii_le, ii_eq, if_true, if_false, if_pos, if_neg, gI_0, gI_1, gI_2, gI_4, gI_7, gI_15, gI_59, gI_61, gI_62, gI_66, gI_68, gI_71, gI_72, gI_74, gR_0_0, gR_0_1, gR_0_3, gR_0_4, gR_0_5, gR_0_6, gR_0_7, gR_0_8, gR_1_0, gR_1_1, gR_1_2, gR_2_0, gR_4_0, gR_4_1, gR_15_0, gR_59_0, gR_61_0, gR_61_1, gR_61_2, gR_62_0, gR_62_1, gR_62_2, gR_66_0, gR_66_1, gR_68_0, gR_68_1, gR_71_0, gR_72_0, gR_74_0, gR_74_1, gR_74_3, gR_74_5, gR_74_7, gR_74_8, gR_74_9, gR_74_15, ld_3, ld_5, ld_6, ld_60, ld_63, ld_64, ld_65, ld_67, ld_69, ld_70, ld_73, ld_75, ld_76, ld_77, ld_78, ld_79, ld_80, ld_82, st_3, st_5, st_6, st_60, st_63, st_64, st_65, st_67, st_69, st_70, st_73, st_75, st_76, st_77, st_78, st_79, st_80, st_82, aL_3, aL_5, aL_6, aL_60, aL_63, aL_64, aL_65, aL_67, aL_69, aL_70, aL_73, aL_75, aL_76, aL_77, aL_78, aL_79, aL_80, aL_82, pI_0, pI_1, pI_2, pI_4, pI_7, pI_15, pI_59, pI_61, pI_62, pI_66, pI_68, pI_71, pI_72, pI_74, ld_81, ld_16, aL_16, hc, gL_at o74, uL_at]
  | succ f ih =>
    intro n k h h1 h2 h3
    obtain ⟨n, rfl⟩ : ∃ k, n = k + 1 := ⟨n - 1, by omega⟩
    push_cast at h1
    have r := hB.2 k h3 (by omega)
    have i1 := ih n (k + 1) (mx h (lo (A.Y k))) (by omega) (by omega) (by omega)
    unfold hT
    rw [lX11_digest_489]
    generalize lX11_digest_489 oS n = K at i1 ⊢
    simp (disch := omega) only [Option.bind_some, km1, k0, k1, k2, k3, k4, k5, k6, k7, k8, k9, k10, k11, k15, k16, k20, k32, k33, k39, k40, k43, k44, k45, k48, k49, k50, k51, k52, k57, k59, k60, k63, k64, k80, k97, k100, k101, k108, k112, k114, k117, k126, k130, k650, k100000, k1000000, ii_add, ii_sub, ii_neg, ii_mul, ii_lt, ii_le, ii_eq, if_true, if_false, if_pos, if_neg, gI_0, gI_1, gI_2, gI_4, gI_7, gI_15, gI_59, gI_61, gI_62, gI_66, gI_68, gI_71, gI_72, gI_74, gR_0_0, gR_0_1, gR_0_3, gR_0_4, gR_0_5, gR_0_6, gR_0_7, gR_0_8, gR_1_0, gR_1_1, gR_1_2, gR_2_0, gR_4_0, gR_4_1, gR_15_0, gR_59_0, gR_61_0, gR_61_1, gR_61_2, gR_62_0, gR_62_1, gR_62_2, gR_66_0, gR_66_1, gR_68_0, gR_68_1, gR_71_0, gR_72_0, gR_74_0, gR_74_1, gR_74_3, gR_74_5, gR_74_7, gR_74_8, gR_74_9, gR_74_15, ld_3, ld_5, ld_6, ld_60, ld_63, ld_64, ld_65, ld_67, ld_69, ld_70, ld_73, ld_75, ld_76, ld_77, ld_78, ld_79, ld_80, ld_82, st_3, st_5, st_6, st_60, st_63, st_64, st_65, st_67, st_69, st_70, st_73, st_75, st_76, st_77, st_78, st_79, st_80, st_82, aL_3, aL_5, aL_6, aL_60, aL_63, aL_64, aL_65, aL_67, aL_69, aL_70, aL_73, aL_75, aL_76, aL_77, aL_78, aL_79, aL_80, aL_82, pI_0, pI_1, pI_2, pI_4, pI_7, pI_15, pI_59, pI_61, pI_62, pI_66, pI_68, pI_71, pI_72, pI_74, ld_81, ld_16, aL_16, hc, r, lo_eq, adds_at, i1]
theorem r467 (hA : AW A) (hI : RI m A) : lX11_digest_467 oS (m, u2 l 74 19 h) 74 = some (tg8 A h, (m, u2 l 74 19 (tg8 A h))) := by
  have hB := RI_BF hI
  have g := (AW_YB hA).1
  have hc := hB.1
  have r1 := rShare (μ := (m, u2 l 74 19 h)) hA hI
  obtain ⟨c, e, hD, _⟩ := shr_DV hA.1
  have r2 := dbl_at hD
  have r3 := r489_loop (l := l) hA hI A.b.toNat FU 0 (mx (mx h (shr A.v).toInt64) (lo A.b)) (by omega) (by have := hFU; omega) (by omega)
  unfold lX11_digest_467
  rw [r1, Option.bind_some, r2, Option.bind_some, adds_at, Option.bind_some, fl hc, Option.bind_some, lo_eq, adds_at, Option.bind_some]
  exact r3
theorem zl7 (hI : RI m A) {l' : Nat → Nat → Int64} : ldI oS (m, l') 75 (7 : Int32) = some (ii (A.v 7)) := zl hI 7 (by omega) (by omega)
theorem zl8 (hI : RI m A) {l' : Nat → Nat → Int64} : ldI oS (m, l') 75 (8 : Int32) = some (ii (A.v 8)) := zl hI 8 (by omega) (by omega)
theorem zl9 (hI : RI m A) {l' : Nat → Nat → Int64} : ldI oS (m, l') 75 (9 : Int32) = some (ii (A.v 9)) := zl hI 9 (by omega) (by omega)
theorem r420 (hA : AW A) (hI : RI m A) : lX11_digest_420 oS (m, u2 l 74 19 h) 74 = some (tg7 A h, (m, u2 l 74 19 (tg7 A h))) := by
  have g := wf_9 hA.1
  have r := fun x => r467 (l := l) (h := x) hA hI
  unfold lX11_digest_420
  by_cases hz : A.v 9 = 0
  · have hx : tg7 A h = tg8 A (mx h 0) := congrArg (tg8 A) (if_pos hz)
    rw [if_pos hz] at g
    have hs : ¬ ii (A.v 7) = 1 := by
      rw [g.2.2.1]
      decide
    have hl : lo (A.v 7) = 0 := by
      rw [g.2.2.1]
      exact lo_0
    rw [gR_74_0, Option.bind_some, zl7 hI, Option.bind_some, lo_eq, hl, adds_at, Option.bind_some, Option.bind_some, zl7 hI, Option.bind_some, if_neg hs, hx]
    exact r _
  · have hx : tg7 A h = tg8 A (mx (mx (mx h 1) (lo (A.v 8))) (lo (A.v 9))) := congrArg (tg8 A) (if_neg hz)
    rw [if_neg hz] at g
    have hs : ii (A.v 7) = 1 := by
      rw [g.2.2.1]
      rfl
    have hl : lo (A.v 7) = 1 := by
      rw [g.2.2.1]
      exact lo_1
    rw [gR_74_0, Option.bind_some, zl7 hI, Option.bind_some, lo_eq, hl, adds_at, Option.bind_some, Option.bind_some, zl7 hI, Option.bind_some, if_pos hs, Option.bind_some, zl8 hI, Option.bind_some, lo_eq, adds_at, Option.bind_some, Option.bind_some, zl9 hI, Option.bind_some, lo_eq, adds_at, Option.bind_some, hx]
    exact r _
theorem r369_loop (hA : AW A) (hI : RI m A) : ∀ (f n : Nat) (x : Int) (h : Int64), 16 - x = f → f < n → 0 ≤ x → lX11_digest_369 oS n (m, u2 l 74 19 h) 74 (ii x) = some (tg7 A (hF A.v (hP A.v f x h)), (m, u2 l 74 19 (tg7 A (hF A.v (hP A.v f x h))))) := by
  have g0 := wf_0 hA.1
  have hZ := hI.1
  unfold RZ at hZ
  have r := fun x => r420 (l := l) (h := x) hA hI
  intro f
  induction f with
  | zero =>
    intro n x h h1 h2 h3
    obtain ⟨n, rfl⟩ : ∃ k, n = k + 1 := ⟨n - 1, by omega⟩
    push_cast at h1
    have rf := freq_at (μ := (m, u2 l 74 19 h)) hI.1 hA.1
    unfold hP hF
    rw [lX11_digest_369]
    generalize lX11_digest_369 oS n = K
    by_cases hz : A.v 0 < 2
    · rw [if_pos hz]
      simp (disch := omega) only [Option.bind_some, km1, k0, k1, k2, k3, k4, k5, k6, k7, k8, k9, k10, k11, k15, k16, k20, k32, k33, k39, k40, k43, k44, k45, k48, k49, k50, k51, k52, k57, k59, k60, k63, k64, k80, k97, k100, k101, k108, k112, k114, k117, k126, k130, k650, k100000, k1000000, ii_add, ii_sub, ii_neg, ii_mul, ii_lt, ii_le, ii_eq, if_true, if_false, if_pos, if_neg, gI_0, gI_1, gI_2, gI_4, gI_7, gI_15, gI_59, gI_61, gI_62, gI_66, gI_68, gI_71, gI_72, gI_74, gR_0_0, gR_0_1, gR_0_3, gR_0_4, gR_0_5, gR_0_6, gR_0_7, gR_0_8, gR_1_0, gR_1_1, gR_1_2, gR_2_0, gR_4_0, gR_4_1, gR_15_0, gR_59_0, gR_61_0, gR_61_1, gR_61_2, gR_62_0, gR_62_1, gR_62_2, gR_66_0, gR_66_1, gR_68_0, gR_68_1, gR_71_0, gR_72_0, gR_74_0, gR_74_1, gR_74_3, gR_74_5, gR_74_7, gR_74_8, gR_74_9, gR_74_15, ld_3, ld_5, ld_6, ld_60, ld_63, ld_64, ld_65, ld_67, ld_69, ld_70, ld_73, ld_75, ld_76, ld_77, ld_78, ld_79, ld_80, ld_82, st_3, st_5, st_6, st_60, st_63, st_64, st_65, st_67, st_69, st_70, st_73, st_75, st_76, st_77, st_78, st_79, st_80, st_82, aL_3, aL_5, aL_6, aL_60, aL_63, aL_64, aL_65, aL_67, aL_69, aL_70, aL_73, aL_75, aL_76, aL_77, aL_78, aL_79, aL_80, aL_82, pI_0, pI_1, pI_2, pI_4, pI_7, pI_15, pI_59, pI_61, pI_62, pI_66, pI_68, pI_71, pI_72, pI_74, ld_81, ld_16, aL_16, hZ, r]
    · rw [if_neg hz]
      simp (disch := omega) only [Option.bind_some, km1, k0, k1, k2, k3, k4, k5, k6, k7, k8, k9, k10, k11, k15, k16, k20, k32, k33, k39, k40, k43, k44, k45, k48, k49, k50, k51, k52, k57, k59, k60, k63, k64, k80, k97, k100, k101, k108, k112, k114, k117, k126, k130, k650, k100000, k1000000, ii_add, ii_sub, ii_neg, ii_mul, ii_lt, ii_le, ii_eq, if_true, if_false, if_pos, if_neg, gI_0, gI_1, gI_2, gI_4, gI_7, gI_15, gI_59, gI_61, gI_62, gI_66, gI_68, gI_71, gI_72, gI_74, gR_0_0, gR_0_1, gR_0_3, gR_0_4, gR_0_5, gR_0_6, gR_0_7, gR_0_8, gR_1_0, gR_1_1, gR_1_2, gR_2_0, gR_4_0, gR_4_1, gR_15_0, gR_59_0, gR_61_0, gR_61_1, gR_61_2, gR_62_0, gR_62_1, gR_62_2, gR_66_0, gR_66_1, gR_68_0, gR_68_1, gR_71_0, gR_72_0, gR_74_0, gR_74_1, gR_74_3, gR_74_5, gR_74_7, gR_74_8, gR_74_9, gR_74_15, ld_3, ld_5, ld_6, ld_60, ld_63, ld_64, ld_65, ld_67, ld_69, ld_70, ld_73, ld_75, ld_76, ld_77, ld_78, ld_79, ld_80, ld_82, st_3, st_5, st_6, st_60, st_63, st_64, st_65, st_67, st_69, st_70, st_73, st_75, st_76, st_77, st_78, st_79, st_80, st_82, aL_3, aL_5, aL_6, aL_60, aL_63, aL_64, aL_65, aL_67, aL_69, aL_70, aL_73, aL_75, aL_76, aL_77, aL_78, aL_79, aL_80, aL_82, pI_0, pI_1, pI_2, pI_4, pI_7, pI_15, pI_59, pI_61, pI_62, pI_66, pI_68, pI_71, pI_72, pI_74, ld_81, ld_16, aL_16, hZ, rf, lo_eq, adds_at, r]
  | succ f ih =>
    intro n x h h1 h2 h3
    obtain ⟨n, rfl⟩ : ∃ k, n = k + 1 := ⟨n - 1, by omega⟩
    push_cast at h1
    have r1 := often_at (μ := (m, u2 l 74 19 h)) (x := x) hI.1 hA.1 h3 (by omega)
    have r2 := lastOf_at (μ := (m, u2 l 74 19 (mx h (lo (ofn A.v x))))) (x := x) hI.1 hA.1 h3 (by omega)
    have i1 := ih n (x + 1) (mx (mx h (lo (ofn A.v x))) (lo (lst A.v x))) (by omega) (by omega) (by omega)
    unfold hP
    rw [lX11_digest_369]
    generalize lX11_digest_369 oS n = K at i1 ⊢
    simp (disch := omega) only [Option.bind_some, km1, k0, k1, k2, k3, k4, k5, k6, k7, k8, k9, k10, k11, k15, k16, k20, k32, k33, k39, k40, k43, k44, k45, k48, k49, k50, k51, k52, k57, k59, k60, k63, k64, k80, k97, k100, k101, k108, k112, k114, k117, k126, k130, k650, k100000, k1000000, ii_add, ii_sub, ii_neg, ii_mul, ii_lt, ii_le, ii_eq, if_true, if_false, if_pos, if_neg, gI_0, gI_1, gI_2, gI_4, gI_7, gI_15, gI_59, gI_61, gI_62, gI_66, gI_68, gI_71, gI_72, gI_74, gR_0_0, gR_0_1, gR_0_3, gR_0_4, gR_0_5, gR_0_6, gR_0_7, gR_0_8, gR_1_0, gR_1_1, gR_1_2, gR_2_0, gR_4_0, gR_4_1, gR_15_0, gR_59_0, gR_61_0, gR_61_1, gR_61_2, gR_62_0, gR_62_1, gR_62_2, gR_66_0, gR_66_1, gR_68_0, gR_68_1, gR_71_0, gR_72_0, gR_74_0, gR_74_1, gR_74_3, gR_74_5, gR_74_7, gR_74_8, gR_74_9, gR_74_15, ld_3, ld_5, ld_6, ld_60, ld_63, ld_64, ld_65, ld_67, ld_69, ld_70, ld_73, ld_75, ld_76, ld_77, ld_78, ld_79, ld_80, ld_82, st_3, st_5, st_6, st_60, st_63, st_64, st_65, st_67, st_69, st_70, st_73, st_75, st_76, st_77, st_78, st_79, st_80, st_82, aL_3, aL_5, aL_6, aL_60, aL_63, aL_64, aL_65, aL_67, aL_69, aL_70, aL_73, aL_75, aL_76, aL_77, aL_78, aL_79, aL_80, aL_82, pI_0, pI_1, pI_2, pI_4, pI_7, pI_15, pI_59, pI_61, pI_62, pI_66, pI_68, pI_71, pI_72, pI_74, ld_81, ld_16, aL_16, r1, r2, lo_eq, adds_at, i1]
theorem r315_loop (hA : AW A) (hI : RI m A) : ∀ (f n : Nat) (p : Int) (h : Int64), A.v 0 - p = f → f < n → 0 ≤ p → lX11_digest_315 oS n (m, u2 l 74 19 h) 74 (ii p) = some (tg6 A (hR A.v f p h), (m, u2 l 74 19 (tg6 A (hR A.v f p h)))) := by
  have g0 := wf_0 hA.1
  have g1 := wf_1 hA.1
  have hZ := hI.1
  unfold RZ at hZ
  have r := fun x => r369_loop (l := l) hA hI 16 FU 0 x (by omega) (by decide) (by omega)
  intro f
  induction f with
  | zero =>
    intro n p h h1 h2 h3
    obtain ⟨n, rfl⟩ : ∃ k, n = k + 1 := ⟨n - 1, by omega⟩
    push_cast at h1
    unfold hR tg6
    rw [lX11_digest_315]
    generalize lX11_digest_315 oS n = K
    generalize lX11_digest_369 oS FU = K2 at r ⊢
    simp (disch := omega) only [Option.bind_some, km1, k0, k1, k2, k3, k4, k5, k6, k7, k8, k9, k10, k11, k15, k16, k20, k32, k33, k39, k40, k43, k44, k45, k48, k49, k50, k51, k52, k57, k59, k60, k63, k64, k80, k97, k100, k101, k108, k112, k114, k117, k126, k130, k650, k100000, k1000000, ii_add, ii_sub, ii_neg, ii_mul, ii_lt, ii_le, ii_eq, if_true, if_false, if_pos, if_neg, gI_0, gI_1, gI_2, gI_4, gI_7, gI_15, gI_59, gI_61, gI_62, gI_66, gI_68, gI_71, gI_72, gI_74, gR_0_0, gR_0_1, gR_0_3, gR_0_4, gR_0_5, gR_0_6, gR_0_7, gR_0_8, gR_1_0, gR_1_1, gR_1_2, gR_2_0, gR_4_0, gR_4_1, gR_15_0, gR_59_0, gR_61_0, gR_61_1, gR_61_2, gR_62_0, gR_62_1, gR_62_2, gR_66_0, gR_66_1, gR_68_0, gR_68_1, gR_71_0, gR_72_0, gR_74_0, gR_74_1, gR_74_3, gR_74_5, gR_74_7, gR_74_8, gR_74_9, gR_74_15, ld_3, ld_5, ld_6, ld_60, ld_63, ld_64, ld_65, ld_67, ld_69, ld_70, ld_73, ld_75, ld_76, ld_77, ld_78, ld_79, ld_80, ld_82, st_3, st_5, st_6, st_60, st_63, st_64, st_65, st_67, st_69, st_70, st_73, st_75, st_76, st_77, st_78, st_79, st_80, st_82, aL_3, aL_5, aL_6, aL_60, aL_63, aL_64, aL_65, aL_67, aL_69, aL_70, aL_73, aL_75, aL_76, aL_77, aL_78, aL_79, aL_80, aL_82, pI_0, pI_1, pI_2, pI_4, pI_7, pI_15, pI_59, pI_61, pI_62, pI_66, pI_68, pI_71, pI_72, pI_74, ld_81, ld_16, aL_16, hZ, r]
  | succ f ih =>
    intro n p h h1 h2 h3
    obtain ⟨n, rfl⟩ : ∃ k, n = k + 1 := ⟨n - 1, by omega⟩
    push_cast at h1
    have r1 := rlongest_at (μ := (m, u2 l 74 19 h)) (p := p) (w := A.v 1) hI.1 hA.1 h3 (by omega) g1.1 g1.2
    have r2 := rbyPairs_at (μ := (m, u2 l 74 19 (mx h (lo (lng A.v p (A.v 1)))))) (p := p) hI.1 hA.1 h3 (by omega)
    have r3 := rdst (μ := (m, u2 l 74 19 (mx (mx h (lo (lng A.v p (A.v 1)))) (lo (bpl A.v p))))) (q := p) hA hI.1 ⟨h3, by omega⟩
    have i1 := ih n (p + 1) (mx (mx (mx h (lo (lng A.v p (A.v 1)))) (lo (bpl A.v p))) (lo (rdv A.v p))) (by omega) (by omega) (by omega)
    unfold hR
    rw [lX11_digest_315]
    generalize lX11_digest_315 oS n = K at i1 ⊢
    generalize lX11_digest_369 oS FU = K2 at r ⊢
    simp (disch := omega) only [Option.bind_some, km1, k0, k1, k2, k3, k4, k5, k6, k7, k8, k9, k10, k11, k15, k16, k20, k32, k33, k39, k40, k43, k44, k45, k48, k49, k50, k51, k52, k57, k59, k60, k63, k64, k80, k97, k100, k101, k108, k112, k114, k117, k126, k130, k650, k100000, k1000000, ii_add, ii_sub, ii_neg, ii_mul, ii_lt, ii_le, ii_eq, if_true, if_false, if_pos, if_neg, gI_0, gI_1, gI_2, gI_4, gI_7, gI_15, gI_59, gI_61, gI_62, gI_66, gI_68, gI_71, gI_72, gI_74, gR_0_0, gR_0_1, gR_0_3, gR_0_4, gR_0_5, gR_0_6, gR_0_7, gR_0_8, gR_1_0, gR_1_1, gR_1_2, gR_2_0, gR_4_0, gR_4_1, gR_15_0, gR_59_0, gR_61_0, gR_61_1, gR_61_2, gR_62_0, gR_62_1, gR_62_2, gR_66_0, gR_66_1, gR_68_0, gR_68_1, gR_71_0, gR_72_0, gR_74_0, gR_74_1, gR_74_3, gR_74_5, gR_74_7, gR_74_8, gR_74_9, gR_74_15, ld_3, ld_5, ld_6, ld_60, ld_63, ld_64, ld_65, ld_67, ld_69, ld_70, ld_73, ld_75, ld_76, ld_77, ld_78, ld_79, ld_80, ld_82, st_3, st_5, st_6, st_60, st_63, st_64, st_65, st_67, st_69, st_70, st_73, st_75, st_76, st_77, st_78, st_79, st_80, st_82, aL_3, aL_5, aL_6, aL_60, aL_63, aL_64, aL_65, aL_67, aL_69, aL_70, aL_73, aL_75, aL_76, aL_77, aL_78, aL_79, aL_80, aL_82, pI_0, pI_1, pI_2, pI_4, pI_7, pI_15, pI_59, pI_61, pI_62, pI_66, pI_68, pI_71, pI_72, pI_74, ld_81, ld_16, aL_16, hZ, r1, r2, r3, lo_eq, adds_at, i1]
theorem r234_loop (hA : AW A) (hI : RI m A) : ∀ (f n : Nat) (t : Int) (h : Int64), A.v 6 - t = f → f < n → 0 ≤ t → lX11_digest_234 oS n (m, u2 l 74 19 h) 74 (ii t) = some (tg5 A (hK A.v f t h), (m, u2 l 74 19 (tg5 A (hK A.v f t h)))) := by
  have g0 := wf_0 hA.1
  have g6 := wf_6 hA.1
  have hZ := hI.1
  unfold RZ at hZ
  have r := fun x => r315_loop (l := l) hA hI (A.v 0).toNat FU 0 x (by omega) (by have := hFU; omega) (by omega)
  intro f
  induction f with
  | zero =>
    intro n t h h1 h2 h3
    obtain ⟨n, rfl⟩ : ∃ k, n = k + 1 := ⟨n - 1, by omega⟩
    push_cast at h1
    unfold hK tg5
    rw [lX11_digest_234]
    generalize lX11_digest_234 oS n = K
    generalize lX11_digest_315 oS FU = K2 at r ⊢
    simp (disch := omega) only [Option.bind_some, km1, k0, k1, k2, k3, k4, k5, k6, k7, k8, k9, k10, k11, k15, k16, k20, k32, k33, k39, k40, k43, k44, k45, k48, k49, k50, k51, k52, k57, k59, k60, k63, k64, k80, k97, k100, k101, k108, k112, k114, k117, k126, k130, k650, k100000, k1000000, ii_add, ii_sub, ii_neg, ii_mul, ii_lt, ii_le, ii_eq, if_true, if_false, if_pos, if_neg, gI_0, gI_1, gI_2, gI_4, gI_7, gI_15, gI_59, gI_61, gI_62, gI_66, gI_68, gI_71, gI_72, gI_74, gR_0_0, gR_0_1, gR_0_3, gR_0_4, gR_0_5, gR_0_6, gR_0_7, gR_0_8, gR_1_0, gR_1_1, gR_1_2, gR_2_0, gR_4_0, gR_4_1, gR_15_0, gR_59_0, gR_61_0, gR_61_1, gR_61_2, gR_62_0, gR_62_1, gR_62_2, gR_66_0, gR_66_1, gR_68_0, gR_68_1, gR_71_0, gR_72_0, gR_74_0, gR_74_1, gR_74_3, gR_74_5, gR_74_7, gR_74_8, gR_74_9, gR_74_15, ld_3, ld_5, ld_6, ld_60, ld_63, ld_64, ld_65, ld_67, ld_69, ld_70, ld_73, ld_75, ld_76, ld_77, ld_78, ld_79, ld_80, ld_82, st_3, st_5, st_6, st_60, st_63, st_64, st_65, st_67, st_69, st_70, st_73, st_75, st_76, st_77, st_78, st_79, st_80, st_82, aL_3, aL_5, aL_6, aL_60, aL_63, aL_64, aL_65, aL_67, aL_69, aL_70, aL_73, aL_75, aL_76, aL_77, aL_78, aL_79, aL_80, aL_82, pI_0, pI_1, pI_2, pI_4, pI_7, pI_15, pI_59, pI_61, pI_62, pI_66, pI_68, pI_71, pI_72, pI_74, ld_81, ld_16, aL_16, hZ, r]
  | succ f ih =>
    intro n t h h1 h2 h3
    obtain ⟨n, rfl⟩ : ∃ k, n = k + 1 := ⟨n - 1, by omega⟩
    push_cast at h1
    have hk := wf_k hA.1 h3 (show t < A.v 6 by omega)
    unfold tkOk at hk
    have r1 := fun x => rdist_at (μ := (m, u2 l 74 19 x)) (t := t) hI.1 h3 (by omega)
    have r2 := fun x => rlength_at (μ := (m, u2 l 74 19 x)) (t := t) hI.1 h3 (by omega) (by omega) (by omega)
    have e : A.v (50 + 2 * t + 1) = tkV A.v t := congrArg A.v (by omega)
    have i1 := ih n (t + 1) (mx (mx (mx h (tr (tkD A.v t))) (lo (if tkD A.v t = 0 then 1 else tkV A.v t))) (lo (if tkD A.v t = 0 then tkV A.v t else tkD A.v t))) (by omega) (by omega) (by omega)
    unfold hK
    rw [lX11_digest_234]
    generalize lX11_digest_234 oS n = K at i1 ⊢
    generalize lX11_digest_315 oS FU = K2 at r ⊢
    by_cases hz : tkD A.v t = 0
    · have q0 : tr (tkD A.v t) = 0 := if_pos hz
      rw [q0, if_pos hz, if_pos hz] at i1 ⊢
      rw [if_pos hz] at r2
      simp (disch := omega) only [Option.bind_some, km1, k0, k1, k2, k3, k4, k5, k6, k7, k8, k9, k10, k11, k15, k16, k20, k32, k33, k39, k40, k43, k44, k45, k48, k49, k50, k51, k52, k57, k59, k60, k63, k64, k80, k97, k100, k101, k108, k112, k114, k117, k126, k130, k650, k100000, k1000000, ii_add, ii_sub, ii_neg, ii_mul, ii_lt, ii_le, ii_eq, if_true, if_false, if_pos, if_neg, gI_0, gI_1, gI_2, gI_4, gI_7, gI_15, gI_59, gI_61, gI_62, gI_66, gI_68, gI_71, gI_72, gI_74, gR_0_0, gR_0_1, gR_0_3, gR_0_4, gR_0_5, gR_0_6, gR_0_7, gR_0_8, gR_1_0, gR_1_1, gR_1_2, gR_2_0, gR_4_0, gR_4_1, gR_15_0, gR_59_0, gR_61_0, gR_61_1, gR_61_2, gR_62_0, gR_62_1, gR_62_2, gR_66_0, gR_66_1, gR_68_0, gR_68_1, gR_71_0, gR_72_0, gR_74_0, gR_74_1, gR_74_3, gR_74_5, gR_74_7, gR_74_8, gR_74_9, gR_74_15, ld_3, ld_5, ld_6, ld_60, ld_63, ld_64, ld_65, ld_67, ld_69, ld_70, ld_73, ld_75, ld_76, ld_77, ld_78, ld_79, ld_80, ld_82, st_3, st_5, st_6, st_60, st_63, st_64, st_65, st_67, st_69, st_70, st_73, st_75, st_76, st_77, st_78, st_79, st_80, st_82, aL_3, aL_5, aL_6, aL_60, aL_63, aL_64, aL_65, aL_67, aL_69, aL_70, aL_73, aL_75, aL_76, aL_77, aL_78, aL_79, aL_80, aL_82, pI_0, pI_1, pI_2, pI_4, pI_7, pI_15, pI_59, pI_61, pI_62, pI_66, pI_68, pI_71, pI_72, pI_74, ld_81, ld_16, aL_16, hZ, r1, r2, e, lX11_digest_259, lX11_digest_304, lo_eq, adds_at, i1]
    · have q0 : tr (tkD A.v t) = 1 := if_neg hz
      rw [q0, if_neg hz, if_neg hz] at i1 ⊢
      rw [if_neg hz] at r2
      simp (disch := omega) only [Option.bind_some, km1, k0, k1, k2, k3, k4, k5, k6, k7, k8, k9, k10, k11, k15, k16, k20, k32, k33, k39, k40, k43, k44, k45, k48, k49, k50, k51, k52, k57, k59, k60, k63, k64, k80, k97, k100, k101, k108, k112, k114, k117, k126, k130, k650, k100000, k1000000, ii_add, ii_sub, ii_neg, ii_mul, ii_lt, ii_le, ii_eq, if_true, if_false, if_pos, if_neg, gI_0, gI_1, gI_2, gI_4, gI_7, gI_15, gI_59, gI_61, gI_62, gI_66, gI_68, gI_71, gI_72, gI_74, gR_0_0, gR_0_1, gR_0_3, gR_0_4, gR_0_5, gR_0_6, gR_0_7, gR_0_8, gR_1_0, gR_1_1, gR_1_2, gR_2_0, gR_4_0, gR_4_1, gR_15_0, gR_59_0, gR_61_0, gR_61_1, gR_61_2, gR_62_0, gR_62_1, gR_62_2, gR_66_0, gR_66_1, gR_68_0, gR_68_1, gR_71_0, gR_72_0, gR_74_0, gR_74_1, gR_74_3, gR_74_5, gR_74_7, gR_74_8, gR_74_9, gR_74_15, ld_3, ld_5, ld_6, ld_60, ld_63, ld_64, ld_65, ld_67, ld_69, ld_70, ld_73, ld_75, ld_76, ld_77, ld_78, ld_79, ld_80, ld_82, st_3, st_5, st_6, st_60, st_63, st_64, st_65, st_67, st_69, st_70, st_73, st_75, st_76, st_77, st_78, st_79, st_80, st_82, aL_3, aL_5, aL_6, aL_60, aL_63, aL_64, aL_65, aL_67, aL_69, aL_70, aL_73, aL_75, aL_76, aL_77, aL_78, aL_79, aL_80, aL_82, pI_0, pI_1, pI_2, pI_4, pI_7, pI_15, pI_59, pI_61, pI_62, pI_66, pI_68, pI_71, pI_72, pI_74, ld_81, ld_16, aL_16, hZ, r1, r2, e, lX11_digest_259, lX11_digest_304, lo_eq, adds_at, i1]
def RG (f : Option (Int64 × mMm)) (m : Nat → Nat → Int32) (H : Int64) (A : AS) : Prop := ∃ m' l', f = some (H, (m', l')) ∧ (∀ a, a < 74 → m' a = m a) ∧ RI m' A
theorem r193_loop (hA : AW A) : ∀ (f n : Nat) (w : Int) (h : Int64) (m : Nat → Nat → Int32), RI m A → 3 - w = f → f < n → 0 ≤ w → RG (lX11_digest_193 oS n (m, u2 l 74 19 h) 74 (ii w)) m (tg4 A (mx (hC A.v f w h) (lo A.c))) A := by
  have g6 := wf_6 hA.1
  intro f
  induction f with
  | zero =>
    intro n w h m hI h1 h2 h3
    obtain ⟨n, rfl⟩ : ∃ k, n = k + 1 := ⟨n - 1, by omega⟩
    push_cast at h1
    have e := hI.2.1.1
    have r := r234_loop (l := l) hA hI (A.v 6).toNat FU 0 (mx h (lo A.c)) (by omega) (by have := hFU; omega) (by omega)
    refine ⟨m, u2 l 74 19 (tg5 A (hK A.v (A.v 6).toNat 0 (mx h (lo A.c)))), ?_, fun _ _ => rfl, hI⟩
    rw [lX11_digest_193, if_pos (show (3 : Int32) ≤ ii w by
      rw [k3, ii_le (by omega) (by omega) (by omega) (by omega)]
      omega), fl e, Option.bind_some, lo_eq, adds_at, Option.bind_some]
    exact r
  | succ f ih =>
    intro n w h m hI h1 h2 h3
    obtain ⟨n, rfl⟩ : ∃ k, n = k + 1 := ⟨n - 1, by omega⟩
    push_cast at h1
    obtain ⟨m1, a1, a2, a3⟩ := rowCost_at (μ := (m, u2 l 74 19 h)) (way := w) hI.1 hA.1 h3 (by omega)
    have hI1 : RI m1 A := PF_I a2 hI
    have e := a3.1
    obtain ⟨m2, l2, i1, i2, i3⟩ := ih n (w + 1) (mx (mx h (lo (csm A.v (pkD A.v w) (pkN A.v w).toNat))) (lo (pkN A.v w))) m1 hI1 (by omega) (by omega) (by omega)
    refine ⟨m2, l2, ?_, fun a ha => (i2 a ha).trans (a2.1 a (by omega) (by omega) (by omega)), i3⟩
    rw [lX11_digest_193, if_neg (show ¬ (3 : Int32) ≤ ii w by
      rw [k3, ii_le (by omega) (by omega) (by omega) (by omega)]
      omega), a1, Option.bind_some]
    dsimp only
    rw [lo_eq, adds_at, Option.bind_some, fl e, Option.bind_some, lo_eq, adds_at, Option.bind_some, k1, ii_add]
    exact i1
theorem r153 (hA : AW A) (hI : RI m A) {t0 : Int64} : RG (lX11_digest_153 oS (m, u2 l 74 19 h) 74 t0 74) m (tg3 A (mx h t0)) A := by
  have g1 := wf_1 hA.1
  have hZ := hI.1
  unfold RZ at hZ
  obtain ⟨m1, a1, a2⟩ := cheapest_at (μ := (m, u2 l 74 19 (mx h t0))) hI.1 hA.1 g1.1 g1.2
  have c1 : RI m1 A := RI_fr (fun b hb => a2 b (by omega)) (fun k hk => by rw [a2 74 (by omega)]) hI
  obtain ⟨m2, b1, b2⟩ := rbegin_at (μ := (m1, u2 l 74 19 (mx (mx h t0) (lo (cst A.v (A.v 1) 0))))) c1.1 hA.1
  have c2 : RI m2 A := RI_fr (fun b hb => b2 b (by omega)) (fun k hk => by rw [b2 74 (by omega)]) c1
  obtain ⟨m3, d1, d2⟩ := cheapest_at (μ := (m2, u2 l 74 19 (mx (mx (mx h t0) (lo (cst A.v (A.v 1) 0))) (lo (fbg A.v))))) (w := 32) c2.1 hA.1 (by omega) (by omega)
  have c3 : RI m3 A := RI_fr (fun b hb => d2 b (by omega)) (fun k hk => by rw [d2 74 (by omega)]) c2
  obtain ⟨m4, l4, i1, i2, i3⟩ := r193_loop (l := l) hA 3 FU 0 (mx (mx (mx (mx h t0) (lo (cst A.v (A.v 1) 0))) (lo (fbg A.v))) (lo (cst A.v 32 0))) m3 c3 (by omega) (by decide) (by omega)
  refine ⟨m4, l4, ?_, fun a ha => (i2 a ha).trans ((d2 a (by omega)).trans ((b2 a (by omega)).trans (a2 a (by omega)))), i3⟩
  have d1 : fX11_cheapest oS (m2, u2 l 74 19 (mx (mx (mx h t0) (lo (cst A.v (A.v 1) 0))) (lo (fbg A.v)))) 74 (32 : Int32) = some (ii (cst A.v 32 0), m3, u2 l 74 19 (mx (mx (mx h t0) (lo (cst A.v (A.v 1) 0))) (lo (fbg A.v)))) := d1
  have hx : tg3 A (mx h t0) = tg4 A (mx (hC A.v 3 0 (mx (mx (mx (mx h t0) (lo (cst A.v (A.v 1) 0))) (lo (fbg A.v))) (lo (cst A.v 32 0)))) (lo A.c)) := rfl
  rw [hx]
  generalize tg4 A (mx (hC A.v 3 0 (mx (mx (mx (mx h t0) (lo (cst A.v (A.v 1) 0))) (lo (fbg A.v))) (lo (cst A.v 32 0)))) (lo A.c)) = z at i1 ⊢
  unfold lX11_digest_153
  generalize lX11_digest_193 oS FU = K at i1 ⊢
  rw [adds_at, Option.bind_some, gR_74_0, Option.bind_some, zl1 hI, Option.bind_some, a1, Option.bind_some]
  dsimp only
  rw [lo_eq, adds_at, Option.bind_some, b1, Option.bind_some]
  dsimp only
  rw [lo_eq, adds_at, Option.bind_some, d1, Option.bind_some]
  dsimp only
  rw [lo_eq, adds_at, Option.bind_some]
  exact i1
theorem r25_end (hA : AW A) (hI : RI m A) {n : Nat} {p : Int} (h0 : A.v 0 ≤ p) (hp : p ≤ 100) : RG (lX11_digest_25 oS (n + 1) (m, u2 l 74 19 h) 74 (ii p)) m (tg2 A h) A := by
  have g0 := wf_0 hA.1
  have hZ := hI.1
  unfold RZ at hZ
  have r1 := fun x => rcost_at (μ := (m, u2 l 74 19 x)) hI.1 hA.1
  have r2 := fun x => rstands_at (μ := (m, u2 l 74 19 x)) hI.1 hA.1
  obtain ⟨m1, a1, a2, a3⟩ := unpacks_at (μ := (m, u2 l 74 19 (mx (mx (mx (mx (mx (mx h (lo (A.v 1))) (lo (A.v 2))) (lo (A.v 3))) (lo (A.v 6))) (lo (scost A.v))) (lo (sletters A.v))))) hI.1 hA.1
  have c1 : RI m1 A := UF_I a2 hI
  have e1 := a3.2.2.1
  have e2 := a3.2.2.2
  obtain ⟨m2, b1, b2⟩ := rfor_at (μ := (m1, u2 l 74 19 (mx (mx (mx (mx (mx (mx (mx (mx h (lo (A.v 1))) (lo (A.v 2))) (lo (A.v 3))) (lo (A.v 6))) (lo (scost A.v))) (lo (sletters A.v))) (lo (unp A.v).2.2.1)) (lo (unp A.v).2.2.2)))) c1.1 hA.1
  have c2 : RI m2 A := UF_I b2 c1
  have ib := isf_b A.v
  obtain ⟨m3, l3, i1, i2, i3⟩ := r153 (m := m2) (l := l) (h := mx (mx (mx (mx (mx (mx (mx (mx h (lo (A.v 1))) (lo (A.v 2))) (lo (A.v 3))) (lo (A.v 6))) (lo (scost A.v))) (lo (sletters A.v))) (lo (unp A.v).2.2.1)) (lo (unp A.v).2.2.2)) (t0 := tr (isf A.v)) hA c2
  have hx : tg2 A h = tg3 A (mx (mx (mx (mx (mx (mx (mx (mx (mx h (lo (A.v 1))) (lo (A.v 2))) (lo (A.v 3))) (lo (A.v 6))) (lo (scost A.v))) (lo (sletters A.v))) (lo (unp A.v).2.2.1)) (lo (unp A.v).2.2.2)) (tr (isf A.v))) := rfl
  refine ⟨m3, l3, ?_, fun a ha => (i2 a ha).trans ((b2.1 a (by omega) (by omega)).trans (a2.1 a (by omega) (by omega))), i3⟩
  rw [hx]
  generalize tg3 A (mx (mx (mx (mx (mx (mx (mx (mx (mx h (lo (A.v 1))) (lo (A.v 2))) (lo (A.v 3))) (lo (A.v 6))) (lo (scost A.v))) (lo (sletters A.v))) (lo (unp A.v).2.2.1)) (lo (unp A.v).2.2.2)) (tr (isf A.v))) = z at i1 ⊢
  rw [lX11_digest_25, gR_74_0, Option.bind_some, zl0 hI, Option.bind_some, if_pos (show ii (A.v 0) ≤ ii p by
    rw [ii_le (by omega) (by omega) (by omega) (by omega)]
    omega), Option.bind_some, zl1 hI, Option.bind_some, lo_eq, adds_at, Option.bind_some]
  rw [Option.bind_some, zl2 hI, Option.bind_some, lo_eq, adds_at, Option.bind_some]
  rw [Option.bind_some, zl3 hI, Option.bind_some, lo_eq, adds_at, Option.bind_some]
  rw [Option.bind_some, zl6 hI, Option.bind_some, lo_eq, adds_at, Option.bind_some]
  rw [r1, Option.bind_some, lo_eq, adds_at, Option.bind_some, r2, Option.bind_some, lo_eq, adds_at, Option.bind_some]
  rw [a1, Option.bind_some, fl e1, Option.bind_some, lo_eq, adds_at, Option.bind_some, fl e2, Option.bind_some, lo_eq, adds_at, Option.bind_some, b1, Option.bind_some]
  dsimp only
  rcases ib with hb | hb
  · have q0 : tr (isf A.v) = 0 := if_pos hb
    rw [q0] at i1
    rw [if_pos (show ii (isf A.v) = 0 by rw [hb]; rfl)]
    exact i1
  · have q0 : tr (isf A.v) = 1 := if_neg (by omega)
    rw [q0] at i1
    rw [if_neg (show ¬ ii (isf A.v) = 0 by rw [hb]; decide)]
    exact i1
theorem r25_loop (hA : AW A) (hI : RI m A) : ∀ (f n : Nat) (p : Int) (h : Int64), A.v 0 - p = f → f < n → 0 ≤ p → RG (lX11_digest_25 oS n (m, u2 l 74 19 h) 74 (ii p)) m (tg2 A (hT (tx A.v) f p h)) A := by
  have g0 := wf_0 hA.1
  have hZ := hI.1
  unfold RZ at hZ
  intro f
  induction f with
  | zero =>
    intro n p h h1 h2 h3
    obtain ⟨n, rfl⟩ : ∃ k, n = k + 1 := ⟨n - 1, by omega⟩
    push_cast at h1
    exact r25_end hA hI (by omega) (by omega)
  | succ f ih =>
    intro n p h h1 h2 h3
    obtain ⟨n, rfl⟩ : ∃ k, n = k + 1 := ⟨n - 1, by omega⟩
    push_cast at h1
    obtain ⟨m2, l2, i1, i2, i3⟩ := ih n (p + 1) (mx h (lo (tx A.v p))) (by omega) (by omega) (by omega)
    have e : A.v (10 + p) = tx A.v p := rfl
    refine ⟨m2, l2, ?_, i2, i3⟩
    rw [lX11_digest_25, gR_74_0, Option.bind_some, zl0 hI, Option.bind_some, if_neg (show ¬ ii (A.v 0) ≤ ii p by
      rw [ii_le (by omega) (by omega) (by omega) (by omega)]
      omega), Option.bind_some, k10, ii_add, zl hI (10 + p) (by omega) (by omega), Option.bind_some, lo_eq, adds_at, Option.bind_some, k1, ii_add]
    exact i1
theorem rDigest {μ : mMm} (hA : AW A) (hI : RI μ.1 A) : RG (fX11_digest oS μ 74) μ.1 (dig A) A := by
  have g0 := wf_0 hA.1
  have hI1 : RI (u2 μ.1 74 11 (ii 0)) A := RI_w hI
  obtain ⟨m1, l1, i1, i2, i3⟩ := r25_loop (l := μ.2) hA hI1 (A.v 0).toNat FU 0 (mx 4483 (lo (A.v 0))) (by omega) (by have := hFU; omega) (by omega)
  refine ⟨m1, l1, ?_, fun a ha => (i2 a ha).trans (by simp (disch := omega) only [u2_offr]), i3⟩
  unfold fX11_digest bX11_digest
  rw [if_pos o74, pI_74, Option.bind_some, pL_at o74, Option.bind_some, gR_74_0, Option.bind_some]
  show ((ldI oS (u2 μ.1 74 11 (ii 0), u2 μ.2 74 19 4483) 75 (0 : Int32)).bind fun v4 => (fX11_adds oS (u2 μ.1 74 11 (ii 0), u2 μ.2 74 19 4483) 74 v4.toInt64).bind fun m5 => lX11_digest_25 oS FU m5 74 (0 : Int32)) = _
  rw [zl0 hI1, Option.bind_some, lo_eq, adds_at, Option.bind_some]
  exact i1
