/-! the digest, as the class tells it -/
def mx (h x : Int64) : Int64 := 31 * h + x
def lo (a : Int) : Int64 := (ii a).toInt64
def tr (q : Int) : Int64 := if q = 0 then 0 else 1
theorem lo_eq (a : Int) : (ii a).toInt64 = lo a := Eq.trans (Eq.refl _) (Eq.refl _)
def hT (X : Int → Int) : Nat → Int → Int64 → Int64
  | 0, _, h => h
  | f + 1, p, h => hT X f (p + 1) (mx h (lo (X p)))
def hK (v : Int → Int) : Nat → Int → Int64 → Int64
  | 0, _, h => h
  | f + 1, t, h => hK v f (t + 1) (mx (mx (mx h (tr (tkD v t))) (lo (if tkD v t = 0 then 1 else tkV v t))) (lo (if tkD v t = 0 then tkV v t else tkD v t)))
def hR (v : Int → Int) : Nat → Int → Int64 → Int64
  | 0, _, h => h
  | f + 1, p, h => hR v f (p + 1) (mx (mx (mx h (lo (lng v p (v 1)))) (lo (bpl v p))) (lo (rdv v p)))
def hP (v : Int → Int) : Nat → Int → Int64 → Int64
  | 0, _, h => h
  | f + 1, x, h => hP v f (x + 1) (mx (mx h (lo (ofn v x))) (lo (lst v x)))
def hC (v : Int → Int) : Nat → Int → Int64 → Int64
  | 0, _, h => h
  | f + 1, w, h => hC v f (w + 1) (mx (mx h (lo (csm v (pkD v w) (pkN v w).toNat))) (lo (pkN v w)))
def hF (v : Int → Int) (h : Int64) : Int64 := if v 0 < 2 then h else mx h (lo (mfr v))
def hO (v : Int → Int) (h : Int64) : Int64 := if v 9 = 0 then mx h 0 else mx (mx (mx h 1) (lo (v 8))) (lo (v 9))
def hS (v : Int → Int) (h : Int64) : Int64 := mx (mx (mx (mx (mx (mx h (lo (v 6))) (lo (scost v))) (lo (sletters v))) (lo (unp v).2.2.1)) (lo (unp v).2.2.2)) (tr (isf v))
def hL (v : Int → Int) (h : Int64) : Int64 := hC v 3 0 (mx (mx (mx h (lo (cst v (v 1) 0))) (lo (fbg v))) (lo (cst v 32 0)))
def tg8 (A : AS) (h : Int64) : Int64 := hT A.Y A.b.toNat 0 (mx (mx h (shr A.v).toInt64) (lo A.b))
def tg7 (A : AS) (h : Int64) : Int64 := tg8 A (hO A.v h)
def tg6 (A : AS) (h : Int64) : Int64 := tg7 A (hF A.v (hP A.v 16 0 h))
def tg5 (A : AS) (h : Int64) : Int64 := tg6 A (hR A.v (A.v 0).toNat 0 h)
def tg4 (A : AS) (h : Int64) : Int64 := tg5 A (hK A.v (A.v 6).toNat 0 h)
def tg3 (A : AS) (h : Int64) : Int64 := tg4 A (mx (hL A.v h) (lo A.c))
def tg2 (A : AS) (h : Int64) : Int64 := tg3 A (hS A.v (mx (mx (mx h (lo (A.v 1))) (lo (A.v 2))) (lo (A.v 3))))
def dig (A : AS) : Int64 := tg2 A (hT (tx A.v) (A.v 0).toNat 0 (mx 4483 (lo (A.v 0))))
variable {μ : mMm} {A : AS} {h : Int64}
theorem mix_at {x : Int64} : fX10_mix h x = some (mx h x) := congrArg some (Eq.trans (Eq.refl _) (Eq.refl _))
theorem mixT_at {q : Int} (h0 : 0 ≤ q) (h1 : q ≤ 1000) : fX10_mixTruth h (ii q) = some (mx h (tr q)) := by
  unfold fX10_mixTruth lX10_mixTruth_10 tr
  by_cases hq : q = 0
  · rw [if_pos hq]
    simp (disch := omega) only [Option.bind_some, km1, k0, k1, k2, k3, k4, k5, k6, k7, k8, k9, k10, k11, k15, k16, k20, k32, k33, k39, k40, k43, k44, k45, k48, k49, k50, k51, k52, k57, k59, k60, k63, k64, k80, k97, k100, k101, k108, k112, k114, k117, k126, k130, k650, k100000, k1000000, ii_add, ii_sub, ii_neg, ii_mul, ii_lt, ii_le, ii_eq, if_true, if_false, if_pos, if_neg, mix_at]
  · rw [if_neg hq]
    simp (disch := omega) only [Option.bind_some, km1, k0, k1, k2, k3, k4, k5, k6, k7, k8, k9, k10, k11, k15, k16, k20, k32, k33, k39, k40, k43, k44, k45, k48, k49, k50, k51, k52, k57, k59, k60, k63, k64, k80, k97, k100, k101, k108, k112, k114, k117, k126, k130, k650, k100000, k1000000, ii_add, ii_sub, ii_neg, ii_mul, ii_lt, ii_le, ii_eq, if_true, if_false, if_pos, if_neg, mix_at]
def CG (f : Option (Int64 × mMm)) (μ : mMm) (H : Int64) (A : AS) : Prop := ∃ m', f = some (H, (m', μ.2)) ∧ (∀ a, 74 ≤ a → m' a = μ.1 a) ∧ CI m' A
theorem hText_loop (hA : AW A) (hC : CI μ.1 A) : ∀ (f n : Nat) (p : Int) (h : Int64), A.v 0 - p = f → f < n → 0 ≤ p → lX10_hashText_19 oS μ n 0 h (ii p) = some (hT (tx A.v) f p h) := by
  have g0 := wf_0 hA.1
  have hc := rs_c (RS_T hC.1)
  intro f
  induction f with
  | zero =>
    intro n p h h1 h2 h3
    obtain ⟨n, rfl⟩ : ∃ k, n = k + 1 := ⟨n - 1, by omega⟩
    push_cast at h1
    unfold hT
    rw [lX10_hashText_19]
    generalize lX10_hashText_19 oS μ n = K
    simp (disch := omega) only [Option.bind_some, km1, k0, k1, k2, k3, k4, k5, k6, k7, k8, k9, k10, k11, k15, k16, k20, k32, k33, k39, k40, k43, k44, k45, k48, k49, k50, k51, k52, k57, k59, k60, k63, k64, k80, k97, k100, k101, k108, k112, k114, k117, k126, k130, k650, k100000, k1000000, ii_add, ii_sub, ii_neg, ii_mul, ii_lt, ii_le, ii_eq, if_true, if_false, if_pos, if_neg, gI_0, gI_1, gI_2, gI_4, gI_7, gI_15, gI_59, gI_61, gI_62, gI_66, gI_68, gI_71, gI_72, gI_74, gR_0_0, gR_0_1, gR_0_3, gR_0_4, gR_0_5, gR_0_6, gR_0_7, gR_0_8, gR_1_0, gR_1_1, gR_1_2, gR_2_0, gR_4_0, gR_4_1, gR_15_0, gR_59_0, gR_61_0, gR_61_1, gR_61_2, gR_62_0, gR_62_1, gR_62_2, gR_66_0, gR_66_1, gR_68_0, gR_68_1, gR_71_0, gR_72_0, gR_74_0, gR_74_1, gR_74_3, gR_74_5, gR_74_7, gR_74_8, gR_74_9, gR_74_15, ld_3, ld_5, ld_6, ld_60, ld_63, ld_64, ld_65, ld_67, ld_69, ld_70, ld_73, ld_75, ld_76, ld_77, ld_78, ld_79, ld_80, ld_82, st_3, st_5, st_6, st_60, st_63, st_64, st_65, st_67, st_69, st_70, st_73, st_75, st_76, st_77, st_78, st_79, st_80, st_82, aL_3, aL_5, aL_6, aL_60, aL_63, aL_64, aL_65, aL_67, aL_69, aL_70, aL_73, aL_75, aL_76, aL_77, aL_78, aL_79, aL_80, aL_82, pI_0, pI_1, pI_2, pI_4, pI_7, pI_15, pI_59, pI_61, pI_62, pI_66, pI_68, pI_71, pI_72, pI_74, ld_81, ld_16, aL_16, hc]
  | succ f ih =>
    intro n p h h1 h2 h3
    obtain ⟨n, rfl⟩ : ∃ k, n = k + 1 := ⟨n - 1, by omega⟩
    push_cast at h1
    have r : fX2_get oS μ 2 (ii p) = some (μ.1 3 p.toNat) := get_at oLt_2 hc h3 (by omega) g0.2
    rw [show μ.1 3 p.toNat = ii (tx A.v p) from rs_t (RS_T hC.1) p h3 (by omega)] at r
    have i1 := ih n (p + 1) (mx h (lo (tx A.v p))) (by omega) (by omega) (by omega)
    unfold hT
    rw [lX10_hashText_19]
    generalize lX10_hashText_19 oS μ n = K at i1 ⊢
    simp (disch := omega) only [Option.bind_some, km1, k0, k1, k2, k3, k4, k5, k6, k7, k8, k9, k10, k11, k15, k16, k20, k32, k33, k39, k40, k43, k44, k45, k48, k49, k50, k51, k52, k57, k59, k60, k63, k64, k80, k97, k100, k101, k108, k112, k114, k117, k126, k130, k650, k100000, k1000000, ii_add, ii_sub, ii_neg, ii_mul, ii_lt, ii_le, ii_eq, if_true, if_false, if_pos, if_neg, gI_0, gI_1, gI_2, gI_4, gI_7, gI_15, gI_59, gI_61, gI_62, gI_66, gI_68, gI_71, gI_72, gI_74, gR_0_0, gR_0_1, gR_0_3, gR_0_4, gR_0_5, gR_0_6, gR_0_7, gR_0_8, gR_1_0, gR_1_1, gR_1_2, gR_2_0, gR_4_0, gR_4_1, gR_15_0, gR_59_0, gR_61_0, gR_61_1, gR_61_2, gR_62_0, gR_62_1, gR_62_2, gR_66_0, gR_66_1, gR_68_0, gR_68_1, gR_71_0, gR_72_0, gR_74_0, gR_74_1, gR_74_3, gR_74_5, gR_74_7, gR_74_8, gR_74_9, gR_74_15, ld_3, ld_5, ld_6, ld_60, ld_63, ld_64, ld_65, ld_67, ld_69, ld_70, ld_73, ld_75, ld_76, ld_77, ld_78, ld_79, ld_80, ld_82, st_3, st_5, st_6, st_60, st_63, st_64, st_65, st_67, st_69, st_70, st_73, st_75, st_76, st_77, st_78, st_79, st_80, st_82, aL_3, aL_5, aL_6, aL_60, aL_63, aL_64, aL_65, aL_67, aL_69, aL_70, aL_73, aL_75, aL_76, aL_77, aL_78, aL_79, aL_80, aL_82, pI_0, pI_1, pI_2, pI_4, pI_7, pI_15, pI_59, pI_61, pI_62, pI_66, pI_68, pI_71, pI_72, pI_74, ld_81, ld_16, aL_16, hc, r, mix_at, lo_eq, i1]
theorem hText_at (hA : AW A) (hC : CI μ.1 A) : fX10_hashText oS μ 0 h = some (hT (tx A.v) (A.v 0).toNat 0 (mx h (lo (A.v 0)))) := by
  have g0 := wf_0 hA.1
  have hc := rs_c (RS_T hC.1)
  have r := hText_loop hA hC (A.v 0).toNat FU 0 (mx h (lo (A.v 0))) (by omega) (by have := hFU; omega) (by omega)
  unfold fX10_hashText bX10_hashText
  generalize lX10_hashText_19 oS μ FU = K at r ⊢
  simp (disch := omega) only [Option.bind_some, km1, k0, k1, k2, k3, k4, k5, k6, k7, k8, k9, k10, k11, k15, k16, k20, k32, k33, k39, k40, k43, k44, k45, k48, k49, k50, k51, k52, k57, k59, k60, k63, k64, k80, k97, k100, k101, k108, k112, k114, k117, k126, k130, k650, k100000, k1000000, ii_add, ii_sub, ii_neg, ii_mul, ii_lt, ii_le, ii_eq, if_true, if_false, if_pos, if_neg, gI_0, gI_1, gI_2, gI_4, gI_7, gI_15, gI_59, gI_61, gI_62, gI_66, gI_68, gI_71, gI_72, gI_74, gR_0_0, gR_0_1, gR_0_3, gR_0_4, gR_0_5, gR_0_6, gR_0_7, gR_0_8, gR_1_0, gR_1_1, gR_1_2, gR_2_0, gR_4_0, gR_4_1, gR_15_0, gR_59_0, gR_61_0, gR_61_1, gR_61_2, gR_62_0, gR_62_1, gR_62_2, gR_66_0, gR_66_1, gR_68_0, gR_68_1, gR_71_0, gR_72_0, gR_74_0, gR_74_1, gR_74_3, gR_74_5, gR_74_7, gR_74_8, gR_74_9, gR_74_15, ld_3, ld_5, ld_6, ld_60, ld_63, ld_64, ld_65, ld_67, ld_69, ld_70, ld_73, ld_75, ld_76, ld_77, ld_78, ld_79, ld_80, ld_82, st_3, st_5, st_6, st_60, st_63, st_64, st_65, st_67, st_69, st_70, st_73, st_75, st_76, st_77, st_78, st_79, st_80, st_82, aL_3, aL_5, aL_6, aL_60, aL_63, aL_64, aL_65, aL_67, aL_69, aL_70, aL_73, aL_75, aL_76, aL_77, aL_78, aL_79, aL_80, aL_82, pI_0, pI_1, pI_2, pI_4, pI_7, pI_15, pI_59, pI_61, pI_62, pI_66, pI_68, pI_71, pI_72, pI_74, ld_81, ld_16, aL_16, if_pos o0, hc, mix_at, lo_eq, r]
theorem hSack_at (hA : AW A) (hC : CI μ.1 A) : CG (fX10_hashSack oS μ 0 h) μ (hS A.v h) A := by
  have r3 : μ.1 4 2 = ii (A.v 6) := rs_k hC.1
  have r1 := cSackCost hA hC
  have r2 := cSackLetters hA hC
  obtain ⟨m1, a1, a2, a3⟩ := cWrongToken hA hC
  obtain ⟨m2, b1, b2, b3⟩ := cWrongReason (μ := (m1, μ.2)) hA a3
  obtain ⟨m3, d1, d2, d3⟩ := cIsForText (μ := (m2, μ.2)) hA b3
  have ib := isf_b A.v
  have t := mixT_at (h := mx (mx (mx (mx (mx h (lo (A.v 6))) (lo (scost A.v))) (lo (sletters A.v))) (lo (unp A.v).2.2.1)) (lo (unp A.v).2.2.2)) (q := isf A.v) (by omega) (by omega)
  refine ⟨m3, ?_, fun a ha => (d2 a ha).trans ((b2 a ha).trans (a2 a ha)), d3⟩
  unfold fX10_hashSack bX10_hashSack hS
  simp (disch := omega) only [Option.bind_some, km1, k0, k1, k2, k3, k4, k5, k6, k7, k8, k9, k10, k11, k15, k16, k20, k32, k33, k39, k40, k43, k44, k45, k48, k49, k50, k51, k52, k57, k59, k60, k63, k64, k80, k97, k100, k101, k108, k112, k114, k117, k126, k130, k650, k100000, k1000000, ii_add, ii_sub, ii_neg, ii_mul, ii_lt, ii_le, ii_eq, if_true, if_false, if_pos, if_neg, gI_0, gI_1, gI_2, gI_4, gI_7, gI_15, gI_59, gI_61, gI_62, gI_66, gI_68, gI_71, gI_72, gI_74, gR_0_0, gR_0_1, gR_0_3, gR_0_4, gR_0_5, gR_0_6, gR_0_7, gR_0_8, gR_1_0, gR_1_1, gR_1_2, gR_2_0, gR_4_0, gR_4_1, gR_15_0, gR_59_0, gR_61_0, gR_61_1, gR_61_2, gR_62_0, gR_62_1, gR_62_2, gR_66_0, gR_66_1, gR_68_0, gR_68_1, gR_71_0, gR_72_0, gR_74_0, gR_74_1, gR_74_3, gR_74_5, gR_74_7, gR_74_8, gR_74_9, gR_74_15, ld_3, ld_5, ld_6, ld_60, ld_63, ld_64, ld_65, ld_67, ld_69, ld_70, ld_73, ld_75, ld_76, ld_77, ld_78, ld_79, ld_80, ld_82, st_3, st_5, st_6, st_60, st_63, st_64, st_65, st_67, st_69, st_70, st_73, st_75, st_76, st_77, st_78, st_79, st_80, st_82, aL_3, aL_5, aL_6, aL_60, aL_63, aL_64, aL_65, aL_67, aL_69, aL_70, aL_73, aL_75, aL_76, aL_77, aL_78, aL_79, aL_80, aL_82, pI_0, pI_1, pI_2, pI_4, pI_7, pI_15, pI_59, pI_61, pI_62, pI_66, pI_68, pI_71, pI_72, pI_74, ld_81, ld_16, aL_16, if_pos o0, r3, r1, r2, a1, b1, d1, mix_at, lo_eq, t]
theorem hCost_loop (hA : AW A) : ∀ (f n : Nat) (w : Int) (h : Int64) (μ : mMm), 3 - w = f → f < n → 0 ≤ w → CI μ.1 A → CG (lX10_hashCosts_54 oS n μ 0 h (ii w)) μ (hC A.v f w h) A := by
  have g0 := wf_0 hA.1
  intro f
  induction f with
  | zero =>
    intro n w h μ h1 h2 h3 hCc
    obtain ⟨n, rfl⟩ : ∃ k, n = k + 1 := ⟨n - 1, by omega⟩
    push_cast at h1
    refine ⟨μ.1, ?_, fun _ _ => rfl, hCc⟩
    unfold hC
    rw [lX10_hashCosts_54]
    generalize lX10_hashCosts_54 oS n = K
    simp (disch := omega) only [Option.bind_some, km1, k0, k1, k2, k3, k4, k5, k6, k7, k8, k9, k10, k11, k15, k16, k20, k32, k33, k39, k40, k43, k44, k45, k48, k49, k50, k51, k52, k57, k59, k60, k63, k64, k80, k97, k100, k101, k108, k112, k114, k117, k126, k130, k650, k100000, k1000000, ii_add, ii_sub, ii_neg, ii_mul, ii_lt, ii_le, ii_eq, if_true, if_false, if_pos, if_neg, gI_0, gI_1, gI_2, gI_4, gI_7, gI_15, gI_59, gI_61, gI_62, gI_66, gI_68, gI_71, gI_72, gI_74, gR_0_0, gR_0_1, gR_0_3, gR_0_4, gR_0_5, gR_0_6, gR_0_7, gR_0_8, gR_1_0, gR_1_1, gR_1_2, gR_2_0, gR_4_0, gR_4_1, gR_15_0, gR_59_0, gR_61_0, gR_61_1, gR_61_2, gR_62_0, gR_62_1, gR_62_2, gR_66_0, gR_66_1, gR_68_0, gR_68_1, gR_71_0, gR_72_0, gR_74_0, gR_74_1, gR_74_3, gR_74_5, gR_74_7, gR_74_8, gR_74_9, gR_74_15, ld_3, ld_5, ld_6, ld_60, ld_63, ld_64, ld_65, ld_67, ld_69, ld_70, ld_73, ld_75, ld_76, ld_77, ld_78, ld_79, ld_80, ld_82, st_3, st_5, st_6, st_60, st_63, st_64, st_65, st_67, st_69, st_70, st_73, st_75, st_76, st_77, st_78, st_79, st_80, st_82, aL_3, aL_5, aL_6, aL_60, aL_63, aL_64, aL_65, aL_67, aL_69, aL_70, aL_73, aL_75, aL_76, aL_77, aL_78, aL_79, aL_80, aL_82, pI_0, pI_1, pI_2, pI_4, pI_7, pI_15, pI_59, pI_61, pI_62, pI_66, pI_68, pI_71, pI_72, pI_74, ld_81, ld_16, aL_16]
  | succ f ih =>
    intro n w h μ h1 h2 h3 hCc
    obtain ⟨n, rfl⟩ : ∃ k, n = k + 1 := ⟨n - 1, by omega⟩
    push_cast at h1
    obtain ⟨m1, i1, i2, i3⟩ := packBy_at (μ := μ) (RS_T hCc.1) hA.1 oSk_68 (Or.inr rfl) h3 (show w ≤ 2 by omega)
    have fr : (∀ a, 74 ≤ a → m1 a = μ.1 a) ∧ CI m1 A := ⟨fun a ha => i2 a (by omega) (by omega) (by omega) (by omega), CI_fr (fun a ha => i2 a (by omega) (by omega) (by omega) (by omega)) hCc⟩
    obtain ⟨b0, b1, b2⟩ := pkR_b hA.1 w
    have r2 := csm_at (μ := (m1, μ.2)) (RS_T fr.2.1) hA.1 oSk_68 i3 b2 b0 (by omega)
    have hn := i3.1
    obtain ⟨m2, j1, j2, j3⟩ := ih n (w + 1) (mx (mx h (lo (csm A.v (pkD A.v w) (pkN A.v w).toNat))) (lo (pkN A.v w))) (m1, μ.2) (by omega) (by omega) (by omega) fr.2
    refine ⟨m2, ?_, fun a ha => (j2 a ha).trans (fr.1 a ha), j3⟩
    unfold hC
    rw [lX10_hashCosts_54]
    generalize lX10_hashCosts_54 oS n = K at j1 ⊢
    simp (disch := omega) only [Option.bind_some, km1, k0, k1, k2, k3, k4, k5, k6, k7, k8, k9, k10, k11, k15, k16, k20, k32, k33, k39, k40, k43, k44, k45, k48, k49, k50, k51, k52, k57, k59, k60, k63, k64, k80, k97, k100, k101, k108, k112, k114, k117, k126, k130, k650, k100000, k1000000, ii_add, ii_sub, ii_neg, ii_mul, ii_lt, ii_le, ii_eq, if_true, if_false, if_pos, if_neg, gI_0, gI_1, gI_2, gI_4, gI_7, gI_15, gI_59, gI_61, gI_62, gI_66, gI_68, gI_71, gI_72, gI_74, gR_0_0, gR_0_1, gR_0_3, gR_0_4, gR_0_5, gR_0_6, gR_0_7, gR_0_8, gR_1_0, gR_1_1, gR_1_2, gR_2_0, gR_4_0, gR_4_1, gR_15_0, gR_59_0, gR_61_0, gR_61_1, gR_61_2, gR_62_0, gR_62_1, gR_62_2, gR_66_0, gR_66_1, gR_68_0, gR_68_1, gR_71_0, gR_72_0, gR_74_0, gR_74_1, gR_74_3, gR_74_5, gR_74_7, gR_74_8, gR_74_9, gR_74_15, ld_3, ld_5, ld_6, ld_60, ld_63, ld_64, ld_65, ld_67, ld_69, ld_70, ld_73, ld_75, ld_76, ld_77, ld_78, ld_79, ld_80, ld_82, st_3, st_5, st_6, st_60, st_63, st_64, st_65, st_67, st_69, st_70, st_73, st_75, st_76, st_77, st_78, st_79, st_80, st_82, aL_3, aL_5, aL_6, aL_60, aL_63, aL_64, aL_65, aL_67, aL_69, aL_70, aL_73, aL_75, aL_76, aL_77, aL_78, aL_79, aL_80, aL_82, pI_0, pI_1, pI_2, pI_4, pI_7, pI_15, pI_59, pI_61, pI_62, pI_66, pI_68, pI_71, pI_72, pI_74, ld_81, ld_16, aL_16, i1, r2, hn, mix_at, lo_eq, j1]
theorem hCosts_at (hA : AW A) (hCc : CI μ.1 A) : CG (fX10_hashCosts oS μ 0 h) μ (hL A.v h) A := by
  have g1 := wf_1 hA.1
  have e := rs_w (RS_T hCc.1)
  obtain ⟨m1, a1, a2, _⟩ := fromEnd_at (μ := μ) (RS_T hCc.1) hA.1 g1.1 g1.2
  have c1 : CI m1 A := CI_fr (fun a ha => a2 a (by omega)) hCc
  obtain ⟨m2, b1, b2⟩ := begin_at (μ := (m1, μ.2)) (RS_T c1.1) hA.1
  have c2 : CI m2 A := CI_fr (fun a ha => b2 a (by omega)) c1
  obtain ⟨m3, d1, d2, _⟩ := fromEnd_at (μ := (m2, μ.2)) (w := 32) (RS_T c2.1) hA.1 (by omega) (by omega)
  have c3 : CI m3 A := CI_fr (fun a ha => d2 a (by omega)) c2
  obtain ⟨m4, j1, j2, j3⟩ := hCost_loop hA 3 FU 0 (mx (mx (mx h (lo (cst A.v (A.v 1) 0))) (lo (fbg A.v))) (lo (cst A.v 32 0))) (m3, μ.2) (by omega) (by decide) (by omega) c3
  refine ⟨m4, ?_, fun a ha => (j2 a ha).trans ((d2 a (by omega)).trans ((b2 a (by omega)).trans (a2 a (by omega)))), j3⟩
  unfold fX10_hashCosts bX10_hashCosts hL
  generalize hC A.v 3 0 (mx (mx (mx h (lo (cst A.v (A.v 1) 0))) (lo (fbg A.v))) (lo (cst A.v 32 0))) = z at j1 ⊢
  clear j2 j3 a2 b2 d2 c1 c2 c3
  generalize lX10_hashCosts_54 oS FU = K at j1 ⊢
  have d1 : fX4_leastFromEnd oS (m2, μ.2) 66 (32 : Int32) = some (ii (cst A.v 32 0), m3, μ.2) := d1
  have j1 : K (m3, μ.2) 0 (mx (mx (mx h (lo (cst A.v (A.v 1) 0))) (lo (fbg A.v))) (lo (cst A.v 32 0))) (0 : Int32) = some (z, m4, μ.2) := j1
  rw [if_pos o0, gR_0_6, Option.bind_some, gR_0_0, Option.bind_some, gR_1_2, Option.bind_some, gI_7, Option.bind_some, e, a1, Option.bind_some, mix_at, Option.bind_some, Option.bind_some]
  rw [b1, Option.bind_some, mix_at, Option.bind_some, Option.bind_some]
  rw [d1, Option.bind_some, mix_at, Option.bind_some]
  exact j1
theorem hTok_loop (hA : AW A) (hCc : CI μ.1 A) : ∀ (f n : Nat) (t : Int) (h : Int64), A.v 6 - t = f → f < n → 0 ≤ t → lX10_hashTokens_5 oS μ n 0 h (ii t) = some (hK A.v f t h) := by
  have g6 := wf_6 hA.1
  have hc : μ.1 4 2 = ii (A.v 6) := rs_k hCc.1
  intro f
  induction f with
  | zero =>
    intro n t h h1 h2 h3
    obtain ⟨n, rfl⟩ : ∃ k, n = k + 1 := ⟨n - 1, by omega⟩
    push_cast at h1
    unfold hK
    rw [lX10_hashTokens_5]
    generalize lX10_hashTokens_5 oS μ n = K
    simp (disch := omega) only [Option.bind_some, km1, k0, k1, k2, k3, k4, k5, k6, k7, k8, k9, k10, k11, k15, k16, k20, k32, k33, k39, k40, k43, k44, k45, k48, k49, k50, k51, k52, k57, k59, k60, k63, k64, k80, k97, k100, k101, k108, k112, k114, k117, k126, k130, k650, k100000, k1000000, ii_add, ii_sub, ii_neg, ii_mul, ii_lt, ii_le, ii_eq, if_true, if_false, if_pos, if_neg, gI_0, gI_1, gI_2, gI_4, gI_7, gI_15, gI_59, gI_61, gI_62, gI_66, gI_68, gI_71, gI_72, gI_74, gR_0_0, gR_0_1, gR_0_3, gR_0_4, gR_0_5, gR_0_6, gR_0_7, gR_0_8, gR_1_0, gR_1_1, gR_1_2, gR_2_0, gR_4_0, gR_4_1, gR_15_0, gR_59_0, gR_61_0, gR_61_1, gR_61_2, gR_62_0, gR_62_1, gR_62_2, gR_66_0, gR_66_1, gR_68_0, gR_68_1, gR_71_0, gR_72_0, gR_74_0, gR_74_1, gR_74_3, gR_74_5, gR_74_7, gR_74_8, gR_74_9, gR_74_15, ld_3, ld_5, ld_6, ld_60, ld_63, ld_64, ld_65, ld_67, ld_69, ld_70, ld_73, ld_75, ld_76, ld_77, ld_78, ld_79, ld_80, ld_82, st_3, st_5, st_6, st_60, st_63, st_64, st_65, st_67, st_69, st_70, st_73, st_75, st_76, st_77, st_78, st_79, st_80, st_82, aL_3, aL_5, aL_6, aL_60, aL_63, aL_64, aL_65, aL_67, aL_69, aL_70, aL_73, aL_75, aL_76, aL_77, aL_78, aL_79, aL_80, aL_82, pI_0, pI_1, pI_2, pI_4, pI_7, pI_15, pI_59, pI_61, pI_62, pI_66, pI_68, pI_71, pI_72, pI_74, ld_81, ld_16, aL_16, hc]
  | succ f ih =>
    intro n t h h1 h2 h3
    obtain ⟨n, rfl⟩ : ∃ k, n = k + 1 := ⟨n - 1, by omega⟩
    push_cast at h1
    have hk := wf_k hA.1 h3 (show t < A.v 6 by omega)
    unfold tkOk at hk
    have hd := (RS_K hCc.1).2 t h3 (by omega)
    have hd1 : μ.1 5 t.toNat = ii (tkD A.v t) := hd.1
    have hd2 : μ.1 6 t.toNat = ii (tkV A.v t) := hd.2
    have r1 : fX5_distance oS μ 4 (ii t) = some (μ.1 5 t.toNat) := dist_at oSk_4 h3 (by omega)
    have r2 : fX5_value oS μ 4 (ii t) = some (μ.1 6 t.toNat) := val_at oSk_4 h3 (by omega)
    have r3 : fX5_length oS μ 4 (ii t) = _ := len_at oSk_4 h3 (by omega) hd1 hd2 (by omega) (by omega)
    rw [hd1] at r1
    rw [hd2] at r2
    have i1 := ih n (t + 1) (mx (mx (mx h (tr (tkD A.v t))) (lo (if tkD A.v t = 0 then 1 else tkV A.v t))) (lo (if tkD A.v t = 0 then tkV A.v t else tkD A.v t))) (by omega) (by omega) (by omega)
    unfold hK
    rw [lX10_hashTokens_5]
    generalize lX10_hashTokens_5 oS μ n = K at i1 ⊢
    by_cases hz : tkD A.v t = 0
    · have q0 : tr (tkD A.v t) = 0 := if_pos hz
      have t0 : fX10_mixTruth h (ii 0) = some (mx h 0) := mixT_at (by omega) (by omega)
      rw [q0, if_pos hz, if_pos hz] at i1 ⊢
      rw [if_pos hz] at r3
      simp (disch := omega) only [Option.bind_some, km1, k0, k1, k2, k3, k4, k5, k6, k7, k8, k9, k10, k11, k15, k16, k20, k32, k33, k39, k40, k43, k44, k45, k48, k49, k50, k51, k52, k57, k59, k60, k63, k64, k80, k97, k100, k101, k108, k112, k114, k117, k126, k130, k650, k100000, k1000000, ii_add, ii_sub, ii_neg, ii_mul, ii_lt, ii_le, ii_eq, if_true, if_false, if_pos, if_neg, gI_0, gI_1, gI_2, gI_4, gI_7, gI_15, gI_59, gI_61, gI_62, gI_66, gI_68, gI_71, gI_72, gI_74, gR_0_0, gR_0_1, gR_0_3, gR_0_4, gR_0_5, gR_0_6, gR_0_7, gR_0_8, gR_1_0, gR_1_1, gR_1_2, gR_2_0, gR_4_0, gR_4_1, gR_15_0, gR_59_0, gR_61_0, gR_61_1, gR_61_2, gR_62_0, gR_62_1, gR_62_2, gR_66_0, gR_66_1, gR_68_0, gR_68_1, gR_71_0, gR_72_0, gR_74_0, gR_74_1, gR_74_3, gR_74_5, gR_74_7, gR_74_8, gR_74_9, gR_74_15, ld_3, ld_5, ld_6, ld_60, ld_63, ld_64, ld_65, ld_67, ld_69, ld_70, ld_73, ld_75, ld_76, ld_77, ld_78, ld_79, ld_80, ld_82, st_3, st_5, st_6, st_60, st_63, st_64, st_65, st_67, st_69, st_70, st_73, st_75, st_76, st_77, st_78, st_79, st_80, st_82, aL_3, aL_5, aL_6, aL_60, aL_63, aL_64, aL_65, aL_67, aL_69, aL_70, aL_73, aL_75, aL_76, aL_77, aL_78, aL_79, aL_80, aL_82, pI_0, pI_1, pI_2, pI_4, pI_7, pI_15, pI_59, pI_61, pI_62, pI_66, pI_68, pI_71, pI_72, pI_74, ld_81, ld_16, aL_16, hc, r1, r2, r3, lX10_hashTokens_45, lX10_hashTokens_92, t0, mix_at, lo_eq, i1]
    · have q0 : tr (tkD A.v t) = 1 := if_neg hz
      have t0 : fX10_mixTruth h (ii 1) = some (mx h 1) := mixT_at (by omega) (by omega)
      rw [q0, if_neg hz, if_neg hz] at i1 ⊢
      rw [if_neg hz] at r3
      simp (disch := omega) only [Option.bind_some, km1, k0, k1, k2, k3, k4, k5, k6, k7, k8, k9, k10, k11, k15, k16, k20, k32, k33, k39, k40, k43, k44, k45, k48, k49, k50, k51, k52, k57, k59, k60, k63, k64, k80, k97, k100, k101, k108, k112, k114, k117, k126, k130, k650, k100000, k1000000, ii_add, ii_sub, ii_neg, ii_mul, ii_lt, ii_le, ii_eq, if_true, if_false, if_pos, if_neg, gI_0, gI_1, gI_2, gI_4, gI_7, gI_15, gI_59, gI_61, gI_62, gI_66, gI_68, gI_71, gI_72, gI_74, gR_0_0, gR_0_1, gR_0_3, gR_0_4, gR_0_5, gR_0_6, gR_0_7, gR_0_8, gR_1_0, gR_1_1, gR_1_2, gR_2_0, gR_4_0, gR_4_1, gR_15_0, gR_59_0, gR_61_0, gR_61_1, gR_61_2, gR_62_0, gR_62_1, gR_62_2, gR_66_0, gR_66_1, gR_68_0, gR_68_1, gR_71_0, gR_72_0, gR_74_0, gR_74_1, gR_74_3, gR_74_5, gR_74_7, gR_74_8, gR_74_9, gR_74_15, ld_3, ld_5, ld_6, ld_60, ld_63, ld_64, ld_65, ld_67, ld_69, ld_70, ld_73, ld_75, ld_76, ld_77, ld_78, ld_79, ld_80, ld_82, st_3, st_5, st_6, st_60, st_63, st_64, st_65, st_67, st_69, st_70, st_73, st_75, st_76, st_77, st_78, st_79, st_80, st_82, aL_3, aL_5, aL_6, aL_60, aL_63, aL_64, aL_65, aL_67, aL_69, aL_70, aL_73, aL_75, aL_76, aL_77, aL_78, aL_79, aL_80, aL_82, pI_0, pI_1, pI_2, pI_4, pI_7, pI_15, pI_59, pI_61, pI_62, pI_66, pI_68, pI_71, pI_72, pI_74, ld_81, ld_16, aL_16, hc, r1, r2, r3, lX10_hashTokens_45, lX10_hashTokens_92, t0, mix_at, lo_eq, i1]
theorem hTok_at (hA : AW A) (hCc : CI μ.1 A) : fX10_hashTokens oS μ 0 h = some (hK A.v (A.v 6).toNat 0 h) := by
  have g6 := wf_6 hA.1
  have r := hTok_loop hA hCc (A.v 6).toNat FU 0 h (by omega) (by have := hFU; omega) (by omega)
  unfold fX10_hashTokens bX10_hashTokens
  generalize lX10_hashTokens_5 oS μ FU = K at r ⊢
  simp (disch := omega) only [Option.bind_some, km1, k0, k1, k2, k3, k4, k5, k6, k7, k8, k9, k10, k11, k15, k16, k20, k32, k33, k39, k40, k43, k44, k45, k48, k49, k50, k51, k52, k57, k59, k60, k63, k64, k80, k97, k100, k101, k108, k112, k114, k117, k126, k130, k650, k100000, k1000000, ii_add, ii_sub, ii_neg, ii_mul, ii_lt, ii_le, ii_eq, if_true, if_false, if_pos, if_neg, gI_0, gI_1, gI_2, gI_4, gI_7, gI_15, gI_59, gI_61, gI_62, gI_66, gI_68, gI_71, gI_72, gI_74, gR_0_0, gR_0_1, gR_0_3, gR_0_4, gR_0_5, gR_0_6, gR_0_7, gR_0_8, gR_1_0, gR_1_1, gR_1_2, gR_2_0, gR_4_0, gR_4_1, gR_15_0, gR_59_0, gR_61_0, gR_61_1, gR_61_2, gR_62_0, gR_62_1, gR_62_2, gR_66_0, gR_66_1, gR_68_0, gR_68_1, gR_71_0, gR_72_0, gR_74_0, gR_74_1, gR_74_3, gR_74_5, gR_74_7, gR_74_8, gR_74_9, gR_74_15, ld_3, ld_5, ld_6, ld_60, ld_63, ld_64, ld_65, ld_67, ld_69, ld_70, ld_73, ld_75, ld_76, ld_77, ld_78, ld_79, ld_80, ld_82, st_3, st_5, st_6, st_60, st_63, st_64, st_65, st_67, st_69, st_70, st_73, st_75, st_76, st_77, st_78, st_79, st_80, st_82, aL_3, aL_5, aL_6, aL_60, aL_63, aL_64, aL_65, aL_67, aL_69, aL_70, aL_73, aL_75, aL_76, aL_77, aL_78, aL_79, aL_80, aL_82, pI_0, pI_1, pI_2, pI_4, pI_7, pI_15, pI_59, pI_61, pI_62, pI_66, pI_68, pI_71, pI_72, pI_74, ld_81, ld_16, aL_16, if_pos o0, r]
theorem hRep_loop (hA : AW A) (hCc : CI μ.1 A) (hD : DR μ.1 A.v (nP A.v)) : ∀ (f n : Nat) (p : Int) (h : Int64), A.v 0 - p = f → f < n → 0 ≤ p → lX10_hashRepeats_22 oS n μ 0 h (ii p) = some (hR A.v f p h, μ) := by
  have g0 := wf_0 hA.1
  have g1 := wf_1 hA.1
  have hc := rs_c (RS_T hCc.1)
  have e := rs_w (RS_T hCc.1)
  intro f
  induction f with
  | zero =>
    intro n p h h1 h2 h3
    obtain ⟨n, rfl⟩ : ∃ k, n = k + 1 := ⟨n - 1, by omega⟩
    push_cast at h1
    unfold hR
    rw [lX10_hashRepeats_22]
    generalize lX10_hashRepeats_22 oS n = K
    simp (disch := omega) only [Option.bind_some, km1, k0, k1, k2, k3, k4, k5, k6, k7, k8, k9, k10, k11, k15, k16, k20, k32, k33, k39, k40, k43, k44, k45, k48, k49, k50, k51, k52, k57, k59, k60, k63, k64, k80, k97, k100, k101, k108, k112, k114, k117, k126, k130, k650, k100000, k1000000, ii_add, ii_sub, ii_neg, ii_mul, ii_lt, ii_le, ii_eq, if_true, if_false, if_pos, if_neg, gI_0, gI_1, gI_2, gI_4, gI_7, gI_15, gI_59, gI_61, gI_62, gI_66, gI_68, gI_71, gI_72, gI_74, gR_0_0, gR_0_1, gR_0_3, gR_0_4, gR_0_5, gR_0_6, gR_0_7, gR_0_8, gR_1_0, gR_1_1, gR_1_2, gR_2_0, gR_4_0, gR_4_1, gR_15_0, gR_59_0, gR_61_0, gR_61_1, gR_61_2, gR_62_0, gR_62_1, gR_62_2, gR_66_0, gR_66_1, gR_68_0, gR_68_1, gR_71_0, gR_72_0, gR_74_0, gR_74_1, gR_74_3, gR_74_5, gR_74_7, gR_74_8, gR_74_9, gR_74_15, ld_3, ld_5, ld_6, ld_60, ld_63, ld_64, ld_65, ld_67, ld_69, ld_70, ld_73, ld_75, ld_76, ld_77, ld_78, ld_79, ld_80, ld_82, st_3, st_5, st_6, st_60, st_63, st_64, st_65, st_67, st_69, st_70, st_73, st_75, st_76, st_77, st_78, st_79, st_80, st_82, aL_3, aL_5, aL_6, aL_60, aL_63, aL_64, aL_65, aL_67, aL_69, aL_70, aL_73, aL_75, aL_76, aL_77, aL_78, aL_79, aL_80, aL_82, pI_0, pI_1, pI_2, pI_4, pI_7, pI_15, pI_59, pI_61, pI_62, pI_66, pI_68, pI_71, pI_72, pI_74, ld_81, ld_16, aL_16, hc]
  | succ f ih =>
    intro n p h h1 h2 h3
    obtain ⟨n, rfl⟩ : ∃ k, n = k + 1 := ⟨n - 1, by omega⟩
    push_cast at h1
    have r1 := longest_at (RS_T hCc.1) hA.1 h3 (show p ≤ 40 by omega) g1.1 g1.2
    have r2 := byPairs_at (RS_T hCc.1) hA.1 hD h3 (show p < 40 by omega)
    have r3 := cdst hA hCc (q := p) ⟨h3, by omega⟩
    have i1 := ih n (p + 1) (mx (mx (mx h (lo (lng A.v p (A.v 1)))) (lo (bpl A.v p))) (lo (rdv A.v p))) (by omega) (by omega) (by omega)
    unfold hR
    rw [lX10_hashRepeats_22]
    generalize lX10_hashRepeats_22 oS n = K at i1 ⊢
    simp (disch := omega) only [Option.bind_some, km1, k0, k1, k2, k3, k4, k5, k6, k7, k8, k9, k10, k11, k15, k16, k20, k32, k33, k39, k40, k43, k44, k45, k48, k49, k50, k51, k52, k57, k59, k60, k63, k64, k80, k97, k100, k101, k108, k112, k114, k117, k126, k130, k650, k100000, k1000000, ii_add, ii_sub, ii_neg, ii_mul, ii_lt, ii_le, ii_eq, if_true, if_false, if_pos, if_neg, gI_0, gI_1, gI_2, gI_4, gI_7, gI_15, gI_59, gI_61, gI_62, gI_66, gI_68, gI_71, gI_72, gI_74, gR_0_0, gR_0_1, gR_0_3, gR_0_4, gR_0_5, gR_0_6, gR_0_7, gR_0_8, gR_1_0, gR_1_1, gR_1_2, gR_2_0, gR_4_0, gR_4_1, gR_15_0, gR_59_0, gR_61_0, gR_61_1, gR_61_2, gR_62_0, gR_62_1, gR_62_2, gR_66_0, gR_66_1, gR_68_0, gR_68_1, gR_71_0, gR_72_0, gR_74_0, gR_74_1, gR_74_3, gR_74_5, gR_74_7, gR_74_8, gR_74_9, gR_74_15, ld_3, ld_5, ld_6, ld_60, ld_63, ld_64, ld_65, ld_67, ld_69, ld_70, ld_73, ld_75, ld_76, ld_77, ld_78, ld_79, ld_80, ld_82, st_3, st_5, st_6, st_60, st_63, st_64, st_65, st_67, st_69, st_70, st_73, st_75, st_76, st_77, st_78, st_79, st_80, st_82, aL_3, aL_5, aL_6, aL_60, aL_63, aL_64, aL_65, aL_67, aL_69, aL_70, aL_73, aL_75, aL_76, aL_77, aL_78, aL_79, aL_80, aL_82, pI_0, pI_1, pI_2, pI_4, pI_7, pI_15, pI_59, pI_61, pI_62, pI_66, pI_68, pI_71, pI_72, pI_74, ld_81, ld_16, aL_16, hc, e, r1, r2, r3, mix_at, lo_eq, i1]
theorem hRep_at (hA : AW A) (hCc : CI μ.1 A) : CG (fX10_hashRepeats oS μ 0 h) μ (hR A.v (A.v 0).toNat 0 h) A := by
  have g0 := wf_0 hA.1
  obtain ⟨m1, i1, i2, i3⟩ := read_at (μ := μ) (RS_T hCc.1) hA.1
  have fr : (∀ a, 74 ≤ a → m1 a = μ.1 a) ∧ CI m1 A := ⟨fun a ha => i2 a (by omega) (by omega) (by omega), CI_fr (fun a ha => i2 a (by omega) (by omega) (by omega)) hCc⟩
  have r := hRep_loop (μ := (m1, μ.2)) hA fr.2 i3 (A.v 0).toNat FU 0 h (by omega) (by have := hFU; omega) (by omega)
  refine ⟨m1, ?_, fr⟩
  unfold fX10_hashRepeats bX10_hashRepeats
  generalize lX10_hashRepeats_22 oS FU = K at r ⊢
  simp (disch := omega) only [Option.bind_some, km1, k0, k1, k2, k3, k4, k5, k6, k7, k8, k9, k10, k11, k15, k16, k20, k32, k33, k39, k40, k43, k44, k45, k48, k49, k50, k51, k52, k57, k59, k60, k63, k64, k80, k97, k100, k101, k108, k112, k114, k117, k126, k130, k650, k100000, k1000000, ii_add, ii_sub, ii_neg, ii_mul, ii_lt, ii_le, ii_eq, if_true, if_false, if_pos, if_neg, gI_0, gI_1, gI_2, gI_4, gI_7, gI_15, gI_59, gI_61, gI_62, gI_66, gI_68, gI_71, gI_72, gI_74, gR_0_0, gR_0_1, gR_0_3, gR_0_4, gR_0_5, gR_0_6, gR_0_7, gR_0_8, gR_1_0, gR_1_1, gR_1_2, gR_2_0, gR_4_0, gR_4_1, gR_15_0, gR_59_0, gR_61_0, gR_61_1, gR_61_2, gR_62_0, gR_62_1, gR_62_2, gR_66_0, gR_66_1, gR_68_0, gR_68_1, gR_71_0, gR_72_0, gR_74_0, gR_74_1, gR_74_3, gR_74_5, gR_74_7, gR_74_8, gR_74_9, gR_74_15, ld_3, ld_5, ld_6, ld_60, ld_63, ld_64, ld_65, ld_67, ld_69, ld_70, ld_73, ld_75, ld_76, ld_77, ld_78, ld_79, ld_80, ld_82, st_3, st_5, st_6, st_60, st_63, st_64, st_65, st_67, st_69, st_70, st_73, st_75, st_76, st_77, st_78, st_79, st_80, st_82, aL_3, aL_5, aL_6, aL_60, aL_63, aL_64, aL_65, aL_67, aL_69, aL_70, aL_73, aL_75, aL_76, aL_77, aL_78, aL_79, aL_80, aL_82, pI_0, pI_1, pI_2, pI_4, pI_7, pI_15, pI_59, pI_61, pI_62, pI_66, pI_68, pI_71, pI_72, pI_74, ld_81, ld_16, aL_16, if_pos o0, i1, r]
theorem hPair_loop (hA : AW A) (hCc : CI μ.1 A) (hD : DR μ.1 A.v (nP A.v)) : ∀ (f n : Nat) (x : Int) (h : Int64), 16 - x = f → f < n → 0 ≤ x → lX10_hashPairs_22 oS n μ 0 h (ii x) = some (hF A.v (hP A.v f x h), μ) := by
  have g0 := wf_0 hA.1
  have hc := rs_c (RS_T hCc.1)
  intro f
  induction f with
  | zero =>
    intro n x h h1 h2 h3
    obtain ⟨n, rfl⟩ : ∃ k, n = k + 1 := ⟨n - 1, by omega⟩
    push_cast at h1
    have r2 := common_at hA.1 hD
    unfold hP hF
    rw [lX10_hashPairs_22]
    generalize lX10_hashPairs_22 oS n = K
    by_cases hz : A.v 0 < 2
    · simp (disch := omega) only [Option.bind_some, km1, k0, k1, k2, k3, k4, k5, k6, k7, k8, k9, k10, k11, k15, k16, k20, k32, k33, k39, k40, k43, k44, k45, k48, k49, k50, k51, k52, k57, k59, k60, k63, k64, k80, k97, k100, k101, k108, k112, k114, k117, k126, k130, k650, k100000, k1000000, ii_add, ii_sub, ii_neg, ii_mul, ii_lt, ii_le, ii_eq, if_true, if_false, if_pos, if_neg, gI_0, gI_1, gI_2, gI_4, gI_7, gI_15, gI_59, gI_61, gI_62, gI_66, gI_68, gI_71, gI_72, gI_74, gR_0_0, gR_0_1, gR_0_3, gR_0_4, gR_0_5, gR_0_6, gR_0_7, gR_0_8, gR_1_0, gR_1_1, gR_1_2, gR_2_0, gR_4_0, gR_4_1, gR_15_0, gR_59_0, gR_61_0, gR_61_1, gR_61_2, gR_62_0, gR_62_1, gR_62_2, gR_66_0, gR_66_1, gR_68_0, gR_68_1, gR_71_0, gR_72_0, gR_74_0, gR_74_1, gR_74_3, gR_74_5, gR_74_7, gR_74_8, gR_74_9, gR_74_15, ld_3, ld_5, ld_6, ld_60, ld_63, ld_64, ld_65, ld_67, ld_69, ld_70, ld_73, ld_75, ld_76, ld_77, ld_78, ld_79, ld_80, ld_82, st_3, st_5, st_6, st_60, st_63, st_64, st_65, st_67, st_69, st_70, st_73, st_75, st_76, st_77, st_78, st_79, st_80, st_82, aL_3, aL_5, aL_6, aL_60, aL_63, aL_64, aL_65, aL_67, aL_69, aL_70, aL_73, aL_75, aL_76, aL_77, aL_78, aL_79, aL_80, aL_82, pI_0, pI_1, pI_2, pI_4, pI_7, pI_15, pI_59, pI_61, pI_62, pI_66, pI_68, pI_71, pI_72, pI_74, ld_81, ld_16, aL_16, hc]
    · simp (disch := omega) only [Option.bind_some, km1, k0, k1, k2, k3, k4, k5, k6, k7, k8, k9, k10, k11, k15, k16, k20, k32, k33, k39, k40, k43, k44, k45, k48, k49, k50, k51, k52, k57, k59, k60, k63, k64, k80, k97, k100, k101, k108, k112, k114, k117, k126, k130, k650, k100000, k1000000, ii_add, ii_sub, ii_neg, ii_mul, ii_lt, ii_le, ii_eq, if_true, if_false, if_pos, if_neg, gI_0, gI_1, gI_2, gI_4, gI_7, gI_15, gI_59, gI_61, gI_62, gI_66, gI_68, gI_71, gI_72, gI_74, gR_0_0, gR_0_1, gR_0_3, gR_0_4, gR_0_5, gR_0_6, gR_0_7, gR_0_8, gR_1_0, gR_1_1, gR_1_2, gR_2_0, gR_4_0, gR_4_1, gR_15_0, gR_59_0, gR_61_0, gR_61_1, gR_61_2, gR_62_0, gR_62_1, gR_62_2, gR_66_0, gR_66_1, gR_68_0, gR_68_1, gR_71_0, gR_72_0, gR_74_0, gR_74_1, gR_74_3, gR_74_5, gR_74_7, gR_74_8, gR_74_9, gR_74_15, ld_3, ld_5, ld_6, ld_60, ld_63, ld_64, ld_65, ld_67, ld_69, ld_70, ld_73, ld_75, ld_76, ld_77, ld_78, ld_79, ld_80, ld_82, st_3, st_5, st_6, st_60, st_63, st_64, st_65, st_67, st_69, st_70, st_73, st_75, st_76, st_77, st_78, st_79, st_80, st_82, aL_3, aL_5, aL_6, aL_60, aL_63, aL_64, aL_65, aL_67, aL_69, aL_70, aL_73, aL_75, aL_76, aL_77, aL_78, aL_79, aL_80, aL_82, pI_0, pI_1, pI_2, pI_4, pI_7, pI_15, pI_59, pI_61, pI_62, pI_66, pI_68, pI_71, pI_72, pI_74, ld_81, ld_16, aL_16, hc, r2, mix_at, lo_eq]
  | succ f ih =>
    intro n x h h1 h2 h3
    obtain ⟨n, rfl⟩ : ∃ k, n = k + 1 := ⟨n - 1, by omega⟩
    push_cast at h1
    have r1 := times_at (μ := μ) h3 (show x < 16 by omega)
    have r2 := lastPlace_at (μ := μ) h3 (show x < 16 by omega)
    have e1 : μ.1 63 x.toNat = ii (ofn A.v x) := (hD.1 x h3 (by omega)).1
    have e2 : μ.1 64 x.toNat = ii (lst A.v x) := (hD.1 x h3 (by omega)).2
    rw [e1] at r1
    rw [e2] at r2
    have i1 := ih n (x + 1) (mx (mx h (lo (ofn A.v x))) (lo (lst A.v x))) (by omega) (by omega) (by omega)
    unfold hP
    rw [lX10_hashPairs_22]
    generalize lX10_hashPairs_22 oS n = K at i1 ⊢
    simp (disch := omega) only [Option.bind_some, km1, k0, k1, k2, k3, k4, k5, k6, k7, k8, k9, k10, k11, k15, k16, k20, k32, k33, k39, k40, k43, k44, k45, k48, k49, k50, k51, k52, k57, k59, k60, k63, k64, k80, k97, k100, k101, k108, k112, k114, k117, k126, k130, k650, k100000, k1000000, ii_add, ii_sub, ii_neg, ii_mul, ii_lt, ii_le, ii_eq, if_true, if_false, if_pos, if_neg, gI_0, gI_1, gI_2, gI_4, gI_7, gI_15, gI_59, gI_61, gI_62, gI_66, gI_68, gI_71, gI_72, gI_74, gR_0_0, gR_0_1, gR_0_3, gR_0_4, gR_0_5, gR_0_6, gR_0_7, gR_0_8, gR_1_0, gR_1_1, gR_1_2, gR_2_0, gR_4_0, gR_4_1, gR_15_0, gR_59_0, gR_61_0, gR_61_1, gR_61_2, gR_62_0, gR_62_1, gR_62_2, gR_66_0, gR_66_1, gR_68_0, gR_68_1, gR_71_0, gR_72_0, gR_74_0, gR_74_1, gR_74_3, gR_74_5, gR_74_7, gR_74_8, gR_74_9, gR_74_15, ld_3, ld_5, ld_6, ld_60, ld_63, ld_64, ld_65, ld_67, ld_69, ld_70, ld_73, ld_75, ld_76, ld_77, ld_78, ld_79, ld_80, ld_82, st_3, st_5, st_6, st_60, st_63, st_64, st_65, st_67, st_69, st_70, st_73, st_75, st_76, st_77, st_78, st_79, st_80, st_82, aL_3, aL_5, aL_6, aL_60, aL_63, aL_64, aL_65, aL_67, aL_69, aL_70, aL_73, aL_75, aL_76, aL_77, aL_78, aL_79, aL_80, aL_82, pI_0, pI_1, pI_2, pI_4, pI_7, pI_15, pI_59, pI_61, pI_62, pI_66, pI_68, pI_71, pI_72, pI_74, ld_81, ld_16, aL_16, r1, r2, mix_at, lo_eq, i1]
theorem hPair_at (hA : AW A) (hCc : CI μ.1 A) : CG (fX10_hashPairs oS μ 0 h) μ (hF A.v (hP A.v 16 0 h)) A := by
  obtain ⟨m1, i1, i2, i3⟩ := read_at (μ := μ) (RS_T hCc.1) hA.1
  have fr : (∀ a, 74 ≤ a → m1 a = μ.1 a) ∧ CI m1 A := ⟨fun a ha => i2 a (by omega) (by omega) (by omega), CI_fr (fun a ha => i2 a (by omega) (by omega) (by omega)) hCc⟩
  have r := hPair_loop (μ := (m1, μ.2)) hA fr.2 i3 16 FU 0 h (by omega) (by decide) (by omega)
  refine ⟨m1, ?_, fr⟩
  unfold fX10_hashPairs bX10_hashPairs
  generalize lX10_hashPairs_22 oS FU = K at r ⊢
  simp (disch := omega) only [Option.bind_some, km1, k0, k1, k2, k3, k4, k5, k6, k7, k8, k9, k10, k11, k15, k16, k20, k32, k33, k39, k40, k43, k44, k45, k48, k49, k50, k51, k52, k57, k59, k60, k63, k64, k80, k97, k100, k101, k108, k112, k114, k117, k126, k130, k650, k100000, k1000000, ii_add, ii_sub, ii_neg, ii_mul, ii_lt, ii_le, ii_eq, if_true, if_false, if_pos, if_neg, gI_0, gI_1, gI_2, gI_4, gI_7, gI_15, gI_59, gI_61, gI_62, gI_66, gI_68, gI_71, gI_72, gI_74, gR_0_0, gR_0_1, gR_0_3, gR_0_4, gR_0_5, gR_0_6, gR_0_7, gR_0_8, gR_1_0, gR_1_1, gR_1_2, gR_2_0, gR_4_0, gR_4_1, gR_15_0, gR_59_0, gR_61_0, gR_61_1, gR_61_2, gR_62_0, gR_62_1, gR_62_2, gR_66_0, gR_66_1, gR_68_0, gR_68_1, gR_71_0, gR_72_0, gR_74_0, gR_74_1, gR_74_3, gR_74_5, gR_74_7, gR_74_8, gR_74_9, gR_74_15, ld_3, ld_5, ld_6, ld_60, ld_63, ld_64, ld_65, ld_67, ld_69, ld_70, ld_73, ld_75, ld_76, ld_77, ld_78, ld_79, ld_80, ld_82, st_3, st_5, st_6, st_60, st_63, st_64, st_65, st_67, st_69, st_70, st_73, st_75, st_76, st_77, st_78, st_79, st_80, st_82, aL_3, aL_5, aL_6, aL_60, aL_63, aL_64, aL_65, aL_67, aL_69, aL_70, aL_73, aL_75, aL_76, aL_77, aL_78, aL_79, aL_80, aL_82, pI_0, pI_1, pI_2, pI_4, pI_7, pI_15, pI_59, pI_61, pI_62, pI_66, pI_68, pI_71, pI_72, pI_74, ld_81, ld_16, aL_16, if_pos o0, i1, r]
theorem hStop_at (hA : AW A) (hCc : CI μ.1 A) : fX10_hashStop oS μ 0 h = some (hO A.v h) := by
  have g := wf_9 hA.1
  have r := cHasStopped hA hCc
  have e := rs_y hCc.1
  have e2 := rs_p hCc.1
  unfold fX10_hashStop bX10_hashStop hO
  by_cases hz : A.v 9 = 0
  · have t : fX10_mixTruth h (ii 0) = some (mx h 0) := mixT_at (by omega) (by omega)
    rw [if_pos hz] at g
    rw [g.2.2.1] at r
    rw [if_pos hz]
    simp (disch := omega) only [Option.bind_some, km1, k0, k1, k2, k3, k4, k5, k6, k7, k8, k9, k10, k11, k15, k16, k20, k32, k33, k39, k40, k43, k44, k45, k48, k49, k50, k51, k52, k57, k59, k60, k63, k64, k80, k97, k100, k101, k108, k112, k114, k117, k126, k130, k650, k100000, k1000000, ii_add, ii_sub, ii_neg, ii_mul, ii_lt, ii_le, ii_eq, if_true, if_false, if_pos, if_neg, gI_0, gI_1, gI_2, gI_4, gI_7, gI_15, gI_59, gI_61, gI_62, gI_66, gI_68, gI_71, gI_72, gI_74, gR_0_0, gR_0_1, gR_0_3, gR_0_4, gR_0_5, gR_0_6, gR_0_7, gR_0_8, gR_1_0, gR_1_1, gR_1_2, gR_2_0, gR_4_0, gR_4_1, gR_15_0, gR_59_0, gR_61_0, gR_61_1, gR_61_2, gR_62_0, gR_62_1, gR_62_2, gR_66_0, gR_66_1, gR_68_0, gR_68_1, gR_71_0, gR_72_0, gR_74_0, gR_74_1, gR_74_3, gR_74_5, gR_74_7, gR_74_8, gR_74_9, gR_74_15, ld_3, ld_5, ld_6, ld_60, ld_63, ld_64, ld_65, ld_67, ld_69, ld_70, ld_73, ld_75, ld_76, ld_77, ld_78, ld_79, ld_80, ld_82, st_3, st_5, st_6, st_60, st_63, st_64, st_65, st_67, st_69, st_70, st_73, st_75, st_76, st_77, st_78, st_79, st_80, st_82, aL_3, aL_5, aL_6, aL_60, aL_63, aL_64, aL_65, aL_67, aL_69, aL_70, aL_73, aL_75, aL_76, aL_77, aL_78, aL_79, aL_80, aL_82, pI_0, pI_1, pI_2, pI_4, pI_7, pI_15, pI_59, pI_61, pI_62, pI_66, pI_68, pI_71, pI_72, pI_74, ld_81, ld_16, aL_16, if_pos o0, r, t, e]
  · have t : fX10_mixTruth h (ii 1) = some (mx h 1) := mixT_at (by omega) (by omega)
    rw [if_neg hz] at g
    rw [g.2.2.1] at r
    rw [if_neg hz]
    simp (disch := omega) only [Option.bind_some, km1, k0, k1, k2, k3, k4, k5, k6, k7, k8, k9, k10, k11, k15, k16, k20, k32, k33, k39, k40, k43, k44, k45, k48, k49, k50, k51, k52, k57, k59, k60, k63, k64, k80, k97, k100, k101, k108, k112, k114, k117, k126, k130, k650, k100000, k1000000, ii_add, ii_sub, ii_neg, ii_mul, ii_lt, ii_le, ii_eq, if_true, if_false, if_pos, if_neg, gI_0, gI_1, gI_2, gI_4, gI_7, gI_15, gI_59, gI_61, gI_62, gI_66, gI_68, gI_71, gI_72, gI_74, gR_0_0, gR_0_1, gR_0_3, gR_0_4, gR_0_5, gR_0_6, gR_0_7, gR_0_8, gR_1_0, gR_1_1, gR_1_2, gR_2_0, gR_4_0, gR_4_1, gR_15_0, gR_59_0, gR_61_0, gR_61_1, gR_61_2, gR_62_0, gR_62_1, gR_62_2, gR_66_0, gR_66_1, gR_68_0, gR_68_1, gR_71_0, gR_72_0, gR_74_0, gR_74_1, gR_74_3, gR_74_5, gR_74_7, gR_74_8, gR_74_9, gR_74_15, ld_3, ld_5, ld_6, ld_60, ld_63, ld_64, ld_65, ld_67, ld_69, ld_70, ld_73, ld_75, ld_76, ld_77, ld_78, ld_79, ld_80, ld_82, st_3, st_5, st_6, st_60, st_63, st_64, st_65, st_67, st_69, st_70, st_73, st_75, st_76, st_77, st_78, st_79, st_80, st_82, aL_3, aL_5, aL_6, aL_60, aL_63, aL_64, aL_65, aL_67, aL_69, aL_70, aL_73, aL_75, aL_76, aL_77, aL_78, aL_79, aL_80, aL_82, pI_0, pI_1, pI_2, pI_4, pI_7, pI_15, pI_59, pI_61, pI_62, pI_66, pI_68, pI_71, pI_72, pI_74, ld_81, ld_16, aL_16, if_pos o0, r, t, e, e2, mix_at, lo_eq]
theorem hBuf_loop (hA : AW A) (hCc : CI μ.1 A) : ∀ (f n : Nat) (k : Int) (h : Int64), A.b - k = f → f < n → 0 ≤ k → lX10_hashBuffer_16 oS μ n 0 h (ii k) = some (hT A.Y f k h) := by
  have hY := AW_YB hA
  have g := hY.1
  have hc := hCc.2.2.2.2.1
  intro f
  induction f with
  | zero =>
    intro n k h h1 h2 h3
    obtain ⟨n, rfl⟩ : ∃ k, n = k + 1 := ⟨n - 1, by omega⟩
    push_cast at h1
    unfold hT
    rw [lX10_hashBuffer_16]
    generalize lX10_hashBuffer_16 oS μ n = K
    simp (disch := omega) only [Option.bind_some, km1, k0, k1, k2, k3, k4, k5, k6, k7, k8, k9, k10, k11, k15, k16, k20, k32, k33, k39, k40, k43, k44, k45, k48, k49, k50, k51, k52, k57, k59, k60, k63, k64, k80, k97, k100, k101, k108, k112, k114, k117, k126, k130, k650, k100000, k1000000, ii_add, ii_sub, ii_neg, ii_mul, ii_lt, ii_le, ii_eq, if_true, if_false, if_pos, if_neg, gI_0, gI_1, gI_2, gI_4, gI_7, gI_15, gI_59, gI_61, gI_62, gI_66, gI_68, gI_71, gI_72, gI_74, gR_0_0, gR_0_1, gR_0_3, gR_0_4, gR_0_5, gR_0_6, gR_0_7, gR_0_8, gR_1_0, gR_1_1, gR_1_2, gR_2_0, gR_4_0, gR_4_1, gR_15_0, gR_59_0, gR_61_0, gR_61_1, gR_61_2, gR_62_0, gR_62_1, gR_62_2, gR_66_0, gR_66_1, gR_68_0, gR_68_1, gR_71_0, gR_72_0, gR_74_0, gR_74_1, gR_74_3, gR_74_5, gR_74_7, gR_74_8, gR_74_9, gR_74_15, ld_3, ld_5, ld_6, ld_60, ld_63, ld_64, ld_65, ld_67, ld_69, ld_70, ld_73, ld_75, ld_76, ld_77, ld_78, ld_79, ld_80, ld_82, st_3, st_5, st_6, st_60, st_63, st_64, st_65, st_67, st_69, st_70, st_73, st_75, st_76, st_77, st_78, st_79, st_80, st_82, aL_3, aL_5, aL_6, aL_60, aL_63, aL_64, aL_65, aL_67, aL_69, aL_70, aL_73, aL_75, aL_76, aL_77, aL_78, aL_79, aL_80, aL_82, pI_0, pI_1, pI_2, pI_4, pI_7, pI_15, pI_59, pI_61, pI_62, pI_66, pI_68, pI_71, pI_72, pI_74, ld_81, ld_16, aL_16, hc]
  | succ f ih =>
    intro n k h h1 h2 h3
    obtain ⟨n, rfl⟩ : ∃ k, n = k + 1 := ⟨n - 1, by omega⟩
    push_cast at h1
    have r := code_at (CI_WK hCc) hY h3 (show k < A.b by omega)
    have i1 := ih n (k + 1) (mx h (lo (A.Y k))) (by omega) (by omega) (by omega)
    unfold hT
    rw [lX10_hashBuffer_16]
    generalize lX10_hashBuffer_16 oS μ n = K at i1 ⊢
    simp (disch := omega) only [Option.bind_some, km1, k0, k1, k2, k3, k4, k5, k6, k7, k8, k9, k10, k11, k15, k16, k20, k32, k33, k39, k40, k43, k44, k45, k48, k49, k50, k51, k52, k57, k59, k60, k63, k64, k80, k97, k100, k101, k108, k112, k114, k117, k126, k130, k650, k100000, k1000000, ii_add, ii_sub, ii_neg, ii_mul, ii_lt, ii_le, ii_eq, if_true, if_false, if_pos, if_neg, gI_0, gI_1, gI_2, gI_4, gI_7, gI_15, gI_59, gI_61, gI_62, gI_66, gI_68, gI_71, gI_72, gI_74, gR_0_0, gR_0_1, gR_0_3, gR_0_4, gR_0_5, gR_0_6, gR_0_7, gR_0_8, gR_1_0, gR_1_1, gR_1_2, gR_2_0, gR_4_0, gR_4_1, gR_15_0, gR_59_0, gR_61_0, gR_61_1, gR_61_2, gR_62_0, gR_62_1, gR_62_2, gR_66_0, gR_66_1, gR_68_0, gR_68_1, gR_71_0, gR_72_0, gR_74_0, gR_74_1, gR_74_3, gR_74_5, gR_74_7, gR_74_8, gR_74_9, gR_74_15, ld_3, ld_5, ld_6, ld_60, ld_63, ld_64, ld_65, ld_67, ld_69, ld_70, ld_73, ld_75, ld_76, ld_77, ld_78, ld_79, ld_80, ld_82, st_3, st_5, st_6, st_60, st_63, st_64, st_65, st_67, st_69, st_70, st_73, st_75, st_76, st_77, st_78, st_79, st_80, st_82, aL_3, aL_5, aL_6, aL_60, aL_63, aL_64, aL_65, aL_67, aL_69, aL_70, aL_73, aL_75, aL_76, aL_77, aL_78, aL_79, aL_80, aL_82, pI_0, pI_1, pI_2, pI_4, pI_7, pI_15, pI_59, pI_61, pI_62, pI_66, pI_68, pI_71, pI_72, pI_74, ld_81, ld_16, aL_16, hc, r, mix_at, lo_eq, i1]
theorem hBuf_at (hA : AW A) (hCc : CI μ.1 A) : fX10_hashBuffer oS μ 0 h = some (hT A.Y A.b.toNat 0 (mx h (lo A.b))) := by
  have hY := AW_YB hA
  have g := hY.1
  have hc := hCc.2.2.2.2.1
  have r := hBuf_loop hA hCc A.b.toNat FU 0 (mx h (lo A.b)) (by omega) (by have := hFU; omega) (by omega)
  unfold fX10_hashBuffer bX10_hashBuffer
  generalize lX10_hashBuffer_16 oS μ FU = K at r ⊢
  simp (disch := omega) only [Option.bind_some, km1, k0, k1, k2, k3, k4, k5, k6, k7, k8, k9, k10, k11, k15, k16, k20, k32, k33, k39, k40, k43, k44, k45, k48, k49, k50, k51, k52, k57, k59, k60, k63, k64, k80, k97, k100, k101, k108, k112, k114, k117, k126, k130, k650, k100000, k1000000, ii_add, ii_sub, ii_neg, ii_mul, ii_lt, ii_le, ii_eq, if_true, if_false, if_pos, if_neg, gI_0, gI_1, gI_2, gI_4, gI_7, gI_15, gI_59, gI_61, gI_62, gI_66, gI_68, gI_71, gI_72, gI_74, gR_0_0, gR_0_1, gR_0_3, gR_0_4, gR_0_5, gR_0_6, gR_0_7, gR_0_8, gR_1_0, gR_1_1, gR_1_2, gR_2_0, gR_4_0, gR_4_1, gR_15_0, gR_59_0, gR_61_0, gR_61_1, gR_61_2, gR_62_0, gR_62_1, gR_62_2, gR_66_0, gR_66_1, gR_68_0, gR_68_1, gR_71_0, gR_72_0, gR_74_0, gR_74_1, gR_74_3, gR_74_5, gR_74_7, gR_74_8, gR_74_9, gR_74_15, ld_3, ld_5, ld_6, ld_60, ld_63, ld_64, ld_65, ld_67, ld_69, ld_70, ld_73, ld_75, ld_76, ld_77, ld_78, ld_79, ld_80, ld_82, st_3, st_5, st_6, st_60, st_63, st_64, st_65, st_67, st_69, st_70, st_73, st_75, st_76, st_77, st_78, st_79, st_80, st_82, aL_3, aL_5, aL_6, aL_60, aL_63, aL_64, aL_65, aL_67, aL_69, aL_70, aL_73, aL_75, aL_76, aL_77, aL_78, aL_79, aL_80, aL_82, pI_0, pI_1, pI_2, pI_4, pI_7, pI_15, pI_59, pI_61, pI_62, pI_66, pI_68, pI_71, pI_72, pI_74, ld_81, ld_16, aL_16, if_pos o0, hc, mix_at, lo_eq, r]
theorem cDigest (hA : AW A) (hCc : CI μ.1 A) : CG (fX10_digest oS μ 0) μ (dig A) A := by
  have w1 : μ.1 7 0 = ii (A.v 1) := hCc.1.2.1.1
  have w2 : μ.1 7 1 = ii (A.v 2) := hCc.1.2.1.2.1
  have w3 : μ.1 7 2 = ii (A.v 3) := hCc.1.2.1.2.2.1
  have r1 := hText_at (h := 4483) hA hCc
  obtain ⟨m1, a1, a2, a3⟩ := hSack_at (μ := μ) (h := mx (mx (mx (hT (tx A.v) (A.v 0).toNat 0 (mx 4483 (lo (A.v 0)))) (lo (A.v 1))) (lo (A.v 2))) (lo (A.v 3))) hA hCc
  generalize hx1 : hS A.v (mx (mx (mx (hT (tx A.v) (A.v 0).toNat 0 (mx 4483 (lo (A.v 0)))) (lo (A.v 1))) (lo (A.v 2))) (lo (A.v 3))) = x1 at a1
  obtain ⟨m2, b1, b2, b3⟩ := hCosts_at (μ := (m1, μ.2)) (h := x1) hA a3
  obtain ⟨nx, c1, _⟩ := b3.2.1
  have r2 := hTok_at (μ := (m2, μ.2)) (h := mx (hL A.v x1) (lo A.c)) hA b3
  obtain ⟨m3, d1, d2, d3⟩ := hRep_at (μ := (m2, μ.2)) (h := hK A.v (A.v 6).toNat 0 (mx (hL A.v x1) (lo A.c))) hA b3
  generalize hx2 : hR A.v (A.v 0).toNat 0 (hK A.v (A.v 6).toNat 0 (mx (hL A.v x1) (lo A.c))) = x2 at d1
  obtain ⟨m4, f1, f2, f3⟩ := hPair_at (μ := (m3, μ.2)) (h := x2) hA d3
  generalize hx3 : hF A.v (hP A.v 16 0 x2) = x3 at f1
  have r3 := hStop_at (μ := (m4, μ.2)) (h := x3) hA f3
  have r4 := cShare (μ := (m4, μ.2)) hA f3
  obtain ⟨c, e, hD, e0, e1⟩ := shr_DV hA.1
  have r5 := bits_at hD (by omega) (by omega)
  have r6 := hBuf_at (μ := (m4, μ.2)) (h := mx (hO A.v x3) (shr A.v).toInt64) hA f3
  have hdig : dig A = hT A.Y A.b.toNat 0 (mx (mx (hO A.v x3) (shr A.v).toInt64) (lo A.b)) := by
    rw [← hx3, ← hx2, ← hx1]
    rfl
  refine ⟨m4, ?_, fun a ha => (f2 a ha).trans ((d2 a ha).trans ((b2 a ha).trans (a2 a ha))), f3⟩
  rw [hdig]
  unfold fX10_digest bX10_digest
  simp (disch := omega) only [Option.bind_some, km1, k0, k1, k2, k3, k4, k5, k6, k7, k8, k9, k10, k11, k15, k16, k20, k32, k33, k39, k40, k43, k44, k45, k48, k49, k50, k51, k52, k57, k59, k60, k63, k64, k80, k97, k100, k101, k108, k112, k114, k117, k126, k130, k650, k100000, k1000000, ii_add, ii_sub, ii_neg, ii_mul, ii_lt, ii_le, ii_eq, if_true, if_false, if_pos, if_neg, gI_0, gI_1, gI_2, gI_4, gI_7, gI_15, gI_59, gI_61, gI_62, gI_66, gI_68, gI_71, gI_72, gI_74, gR_0_0, gR_0_1, gR_0_3, gR_0_4, gR_0_5, gR_0_6, gR_0_7, gR_0_8, gR_1_0, gR_1_1, gR_1_2, gR_2_0, gR_4_0, gR_4_1, gR_15_0, gR_59_0, gR_61_0, gR_61_1, gR_61_2, gR_62_0, gR_62_1, gR_62_2, gR_66_0, gR_66_1, gR_68_0, gR_68_1, gR_71_0, gR_72_0, gR_74_0, gR_74_1, gR_74_3, gR_74_5, gR_74_7, gR_74_8, gR_74_9, gR_74_15, ld_3, ld_5, ld_6, ld_60, ld_63, ld_64, ld_65, ld_67, ld_69, ld_70, ld_73, ld_75, ld_76, ld_77, ld_78, ld_79, ld_80, ld_82, st_3, st_5, st_6, st_60, st_63, st_64, st_65, st_67, st_69, st_70, st_73, st_75, st_76, st_77, st_78, st_79, st_80, st_82, aL_3, aL_5, aL_6, aL_60, aL_63, aL_64, aL_65, aL_67, aL_69, aL_70, aL_73, aL_75, aL_76, aL_77, aL_78, aL_79, aL_80, aL_82, pI_0, pI_1, pI_2, pI_4, pI_7, pI_15, pI_59, pI_61, pI_62, pI_66, pI_68, pI_71, pI_72, pI_74, ld_81, ld_16, aL_16, if_pos o0, r1, w1, w2, w3, mix_at, lo_eq, a1, b1, c1, r2, d1, f1, r3, r4, r5, r6]
