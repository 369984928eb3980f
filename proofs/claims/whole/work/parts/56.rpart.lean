/-! a part of the buffer, as the reference reads it -/
/-- what a part may change: rows 74 (spot, wrong, number of parts) and 82 from the part's place on -/
def QF (r : Int) (m m' : Nat → Nat → Int32) : Prop := (∀ a, a ≠ 74 → a ≠ 82 → m' a = m a) ∧ (∀ f, f ≠ 16 → f ≠ 17 → f ≠ 18 → m' 74 f = m 74 f) ∧ ∀ j : Int, 0 ≤ j → j < 3 * r → m' 82 j.toNat = m 82 j.toNat
theorem NF.q {r : Int} {m m' : Nat → Nat → Int32} (h : NF m m') : QF r m m' := ⟨fun a h1 _ => h.1 a h1, fun f _ h2 h3 => h.2 f h2 h3, fun j _ _ => by rw [h.1 82 (by omega)]⟩
theorem QF.tr {r : Int} {m m1 m2 : Nat → Nat → Int32} (h : QF r m m1) (k : QF r m1 m2) : QF r m m2 := ⟨fun a h1 h2 => (k.1 a h1 h2).trans (h.1 a h1 h2), fun f h1 h2 h3 => (k.2.1 f h1 h2 h3).trans (h.2.1 f h1 h2 h3), fun j h1 h2 => (k.2.2 j h1 h2).trans (h.2.2 j h1 h2)⟩
theorem QF_82 {r j : Int} {m : Nat → Nat → Int32} {x : Int32} (h : 3 * r ≤ j) (hr : 0 ≤ r) : QF r m (u2 m 82 j.toNat x) := ⟨fun a h1 h2 => by simp (disch := omega) only [u2_offr], fun f h1 h2 h3 => by simp (disch := omega) only [u2_off], fun k h1 h2 => by simp (disch := omega) only [u2_off]⟩
theorem QF_16 {r : Int} {m : Nat → Nat → Int32} {x : Int32} : QF r m (u2 m 74 16 x) := ⟨fun a h1 h2 => by simp (disch := omega) only [u2_offr], fun f h1 h2 h3 => by simp (disch := omega) only [u2_off], fun k h1 h2 => by simp (disch := omega) only [u2_offr]⟩
theorem BF_q {r : Int} {m m' : Nat → Nat → Int32} {b : Int} {Y : Int → Int} (h : QF r m m') (hB : BF m b Y) : BF m' b Y := by
  refine ⟨(h.2.1 10 (by omega) (by omega) (by omega)).trans hB.1, fun j h0 h1 => ?_⟩
  rw [h.1 81 (by omega) (by omega)]
  exact hB.2 j h0 h1
theorem WS_82 {m : Nat → Nat → Int32} {w i : Int} {k : Nat} {x : Int32} (h : WS m w i) : WS (u2 m 82 k x) w i := ⟨by simp (disch := omega) only [u2_off]; exact h.1, by simp (disch := omega) only [u2_off]; exact h.2⟩
theorem WS_16 {m : Nat → Nat → Int32} {w i : Int} {x : Int32} (h : WS m w i) : WS (u2 m 74 16 x) w i := ⟨by simp (disch := omega) only [u2_off]; exact h.1, by simp (disch := omega) only [u2_off]; exact h.2⟩
variable {μ : mMm} {b : Int} {Y : Int → Int}
def okS (c : Int) : Int := if c = 43 ∨ c = 45 ∨ c = 112 ∨ c = 117 ∨ c = 101 ∨ c = 108 ∨ c = 114 then 1 else 0
/-- the memory when a part's first sign is read -/
def mp (m : Nat → Nat → Int32) (r w i c : Int) : Nat → Nat → Int32 := u2 (u2 (nx m w (i + 1)) 82 (3 * r).toNat (ii c)) 82 (3 * r + 1).toNat (ii (i + 1))
theorem mp_F {m : Nat → Nat → Int32} {r w i c : Int} (hr : 0 ≤ r) : QF r m (mp m r w i c) := by
  unfold mp
  exact (nx_F.q.tr (QF_82 (by omega) hr)).tr (QF_82 (by omega) hr)
theorem mp_W {m : Nat → Nat → Int32} {r w i c : Int} : WS (mp m r w i c) w (i + 1) := by
  unfold mp
  exact WS_82 (WS_82 nx_W)
theorem rp_60 (hB : BF μ.1 b Y) (hY : YB b Y) {i r : Int} (hw : WS μ.1 (-1) i) (h0 : 0 ≤ i) (h1 : i ≤ 60) (hm : μ.1 74 16 = ii r) (hr0 : 0 ≤ r) (hr : r ≤ 31) (h43 : sg b Y i ≠ 43) : fX11_readPart oS μ 74 = lX11_readPart_153 oS (mp μ.1 r (if okS (sg b Y i) = 1 then -1 else i) i (sg b Y i), μ.2) 74 (ii (3 * r)) (ii (sg b Y i)) := by
  have sb := sg_b (b := b) (Y := Y) hY h0
  have s := sign_at hB hY hw h0 (by omega)
  have n1 := need_1 hw h0 (by omega)
  have n0 := need_0 hw h0 (by omega)
  have e1 : nx μ.1 (-1) (i + 1) 74 17 = ii (i + 1) := nx_W.2
  have e0 : nx μ.1 i (i + 1) 74 17 = ii (i + 1) := nx_W.2
  by_cases h45 : sg b Y i = 45
  · have hok : okS (sg b Y i) = 1 := if_pos (by omega)
    rw [hok, if_pos rfl]
    unfold fX11_readPart bX11_readPart lX11_readPart_55 lX11_readPart_60
    generalize lX11_readPart_103 oS FU = K
    generalize lX11_readPart_153 oS = G
    unfold mp
    simp (disch := omega) only [Option.bind_some, km1, k0, k1, k2, k3, k4, k5, k6, k7, k8, k9, k10, k11, k15, k16, k20, k32, k33, k39, k40, k43, k44, k45, k48, k49, k50, k51, k52, k57, k59, k60, k63, k64, k80, k97, k100, k101, k108, k112, k114, k117, k126, k130, k650, k100000, k1000000, ii_add, ii_sub, ii_neg, ii_mul, ii_lt, ii_le, ii_eq, if_true, if_false, if_pos, if_neg, gI_0, gI_1, gI_2, gI_4, gI_7, gI_15, gI_59, gI_61, gI_62, gI_66, gI_68, gI_71, gI_72, gI_74, gR_0_0, gR_0_1, gR_0_3, gR_0_4, gR_0_5, gR_0_6, gR_0_7, gR_0_8, gR_1_0, gR_1_1, gR_1_2, gR_2_0, gR_4_0, gR_4_1, gR_15_0, gR_59_0, gR_61_0, gR_61_1, gR_61_2, gR_62_0, gR_62_1, gR_62_2, gR_66_0, gR_66_1, gR_68_0, gR_68_1, gR_71_0, gR_72_0, gR_74_0, gR_74_1, gR_74_3, gR_74_5, gR_74_7, gR_74_8, gR_74_9, gR_74_15, ld_3, ld_5, ld_6, ld_60, ld_63, ld_64, ld_65, ld_67, ld_69, ld_70, ld_73, ld_75, ld_76, ld_77, ld_78, ld_79, ld_80, ld_82, st_3, st_5, st_6, st_60, st_63, st_64, st_65, st_67, st_69, st_70, st_73, st_75, st_76, st_77, st_78, st_79, st_80, st_82, aL_3, aL_5, aL_6, aL_60, aL_63, aL_64, aL_65, aL_67, aL_69, aL_70, aL_73, aL_75, aL_76, aL_77, aL_78, aL_79, aL_80, aL_82, pI_0, pI_1, pI_2, pI_4, pI_7, pI_15, pI_59, pI_61, pI_62, pI_66, pI_68, pI_71, pI_72, pI_74, ld_81, ld_16, aL_16, if_pos o74, hm, s, n1, u2_off, e1]
  · by_cases h112 : sg b Y i = 112
    · have hok : okS (sg b Y i) = 1 := if_pos (by omega)
      rw [hok, if_pos rfl]
      unfold fX11_readPart bX11_readPart lX11_readPart_55 lX11_readPart_60
      generalize lX11_readPart_103 oS FU = K
      generalize lX11_readPart_153 oS = G
      unfold mp
      simp (disch := omega) only [Option.bind_some, km1, k0, k1, k2, k3, k4, k5, k6, k7, k8, k9, k10, k11, k15, k16, k20, k32, k33, k39, k40, k43, k44, k45, k48, k49, k50, k51, k52, k57, k59, k60, k63, k64, k80, k97, k100, k101, k108, k112, k114, k117, k126, k130, k650, k100000, k1000000, ii_add, ii_sub, ii_neg, ii_mul, ii_lt, ii_le, ii_eq, if_true, if_false, if_pos, if_neg, gI_0, gI_1, gI_2, gI_4, gI_7, gI_15, gI_59, gI_61, gI_62, gI_66, gI_68, gI_71, gI_72, gI_74, gR_0_0, gR_0_1, gR_0_3, gR_0_4, gR_0_5, gR_0_6, gR_0_7, gR_0_8, gR_1_0, gR_1_1, gR_1_2, gR_2_0, gR_4_0, gR_4_1, gR_15_0, gR_59_0, gR_61_0, gR_61_1, gR_61_2, gR_62_0, gR_62_1, gR_62_2, gR_66_0, gR_66_1, gR_68_0, gR_68_1, gR_71_0, gR_72_0, gR_74_0, gR_74_1, gR_74_3, gR_74_5, gR_74_7, gR_74_8, gR_74_9, gR_74_15, ld_3, ld_5, ld_6, ld_60, ld_63, ld_64, ld_65, ld_67, ld_69, ld_70, ld_73, ld_75, ld_76, ld_77, ld_78, ld_79, ld_80, ld_82, st_3, st_5, st_6, st_60, st_63, st_64, st_65, st_67, st_69, st_70, st_73, st_75, st_76, st_77, st_78, st_79, st_80, st_82, aL_3, aL_5, aL_6, aL_60, aL_63, aL_64, aL_65, aL_67, aL_69, aL_70, aL_73, aL_75, aL_76, aL_77, aL_78, aL_79, aL_80, aL_82, pI_0, pI_1, pI_2, pI_4, pI_7, pI_15, pI_59, pI_61, pI_62, pI_66, pI_68, pI_71, pI_72, pI_74, ld_81, ld_16, aL_16, if_pos o74, hm, s, n1, u2_off, e1]
    · by_cases h117 : sg b Y i = 117
      · have hok : okS (sg b Y i) = 1 := if_pos (by omega)
        rw [hok, if_pos rfl]
        unfold fX11_readPart bX11_readPart lX11_readPart_55 lX11_readPart_60
        generalize lX11_readPart_103 oS FU = K
        generalize lX11_readPart_153 oS = G
        unfold mp
        simp (disch := omega) only [Option.bind_some, km1, k0, k1, k2, k3, k4, k5, k6, k7, k8, k9, k10, k11, k15, k16, k20, k32, k33, k39, k40, k43, k44, k45, k48, k49, k50, k51, k52, k57, k59, k60, k63, k64, k80, k97, k100, k101, k108, k112, k114, k117, k126, k130, k650, k100000, k1000000, ii_add, ii_sub, ii_neg, ii_mul, ii_lt, ii_le, ii_eq, if_true, if_false, if_pos, if_neg, gI_0, gI_1, gI_2, gI_4, gI_7, gI_15, gI_59, gI_61, gI_62, gI_66, gI_68, gI_71, gI_72, gI_74, gR_0_0, gR_0_1, gR_0_3, gR_0_4, gR_0_5, gR_0_6, gR_0_7, gR_0_8, gR_1_0, gR_1_1, gR_1_2, gR_2_0, gR_4_0, gR_4_1, gR_15_0, gR_59_0, gR_61_0, gR_61_1, gR_61_2, gR_62_0, gR_62_1, gR_62_2, gR_66_0, gR_66_1, gR_68_0, gR_68_1, gR_71_0, gR_72_0, gR_74_0, gR_74_1, gR_74_3, gR_74_5, gR_74_7, gR_74_8, gR_74_9, gR_74_15, ld_3, ld_5, ld_6, ld_60, ld_63, ld_64, ld_65, ld_67, ld_69, ld_70, ld_73, ld_75, ld_76, ld_77, ld_78, ld_79, ld_80, ld_82, st_3, st_5, st_6, st_60, st_63, st_64, st_65, st_67, st_69, st_70, st_73, st_75, st_76, st_77, st_78, st_79, st_80, st_82, aL_3, aL_5, aL_6, aL_60, aL_63, aL_64, aL_65, aL_67, aL_69, aL_70, aL_73, aL_75, aL_76, aL_77, aL_78, aL_79, aL_80, aL_82, pI_0, pI_1, pI_2, pI_4, pI_7, pI_15, pI_59, pI_61, pI_62, pI_66, pI_68, pI_71, pI_72, pI_74, ld_81, ld_16, aL_16, if_pos o74, hm, s, n1, u2_off, e1]
      · by_cases h101 : sg b Y i = 101
        · have hok : okS (sg b Y i) = 1 := if_pos (by omega)
          rw [hok, if_pos rfl]
          unfold fX11_readPart bX11_readPart lX11_readPart_55 lX11_readPart_60
          generalize lX11_readPart_103 oS FU = K
          generalize lX11_readPart_153 oS = G
          unfold mp
          simp (disch := omega) only [Option.bind_some, km1, k0, k1, k2, k3, k4, k5, k6, k7, k8, k9, k10, k11, k15, k16, k20, k32, k33, k39, k40, k43, k44, k45, k48, k49, k50, k51, k52, k57, k59, k60, k63, k64, k80, k97, k100, k101, k108, k112, k114, k117, k126, k130, k650, k100000, k1000000, ii_add, ii_sub, ii_neg, ii_mul, ii_lt, ii_le, ii_eq, if_true, if_false, if_pos, if_neg, gI_0, gI_1, gI_2, gI_4, gI_7, gI_15, gI_59, gI_61, gI_62, gI_66, gI_68, gI_71, gI_72, gI_74, gR_0_0, gR_0_1, gR_0_3, gR_0_4, gR_0_5, gR_0_6, gR_0_7, gR_0_8, gR_1_0, gR_1_1, gR_1_2, gR_2_0, gR_4_0, gR_4_1, gR_15_0, gR_59_0, gR_61_0, gR_61_1, gR_61_2, gR_62_0, gR_62_1, gR_62_2, gR_66_0, gR_66_1, gR_68_0, gR_68_1, gR_71_0, gR_72_0, gR_74_0, gR_74_1, gR_74_3, gR_74_5, gR_74_7, gR_74_8, gR_74_9, gR_74_15, ld_3, ld_5, ld_6, ld_60, ld_63, ld_64, ld_65, ld_67, ld_69, ld_70, ld_73, ld_75, ld_76, ld_77, ld_78, ld_79, ld_80, ld_82, st_3, st_5, st_6, st_60, st_63, st_64, st_65, st_67, st_69, st_70, st_73, st_75, st_76, st_77, st_78, st_79, st_80, st_82, aL_3, aL_5, aL_6, aL_60, aL_63, aL_64, aL_65, aL_67, aL_69, aL_70, aL_73, aL_75, aL_76, aL_77, aL_78, aL_79, aL_80, aL_82, pI_0, pI_1, pI_2, pI_4, pI_7, pI_15, pI_59, pI_61, pI_62, pI_66, pI_68, pI_71, pI_72, pI_74, ld_81, ld_16, aL_16, if_pos o74, hm, s, n1, u2_off, e1]
        · by_cases h108 : sg b Y i = 108
          · have hok : okS (sg b Y i) = 1 := if_pos (by omega)
            rw [hok, if_pos rfl]
            unfold fX11_readPart bX11_readPart lX11_readPart_55 lX11_readPart_60
            generalize lX11_readPart_103 oS FU = K
            generalize lX11_readPart_153 oS = G
            unfold mp
            simp (disch := omega) only [Option.bind_some, km1, k0, k1, k2, k3, k4, k5, k6, k7, k8, k9, k10, k11, k15, k16, k20, k32, k33, k39, k40, k43, k44, k45, k48, k49, k50, k51, k52, k57, k59, k60, k63, k64, k80, k97, k100, k101, k108, k112, k114, k117, k126, k130, k650, k100000, k1000000, ii_add, ii_sub, ii_neg, ii_mul, ii_lt, ii_le, ii_eq, if_true, if_false, if_pos, if_neg, gI_0, gI_1, gI_2, gI_4, gI_7, gI_15, gI_59, gI_61, gI_62, gI_66, gI_68, gI_71, gI_72, gI_74, gR_0_0, gR_0_1, gR_0_3, gR_0_4, gR_0_5, gR_0_6, gR_0_7, gR_0_8, gR_1_0, gR_1_1, gR_1_2, gR_2_0, gR_4_0, gR_4_1, gR_15_0, gR_59_0, gR_61_0, gR_61_1, gR_61_2, gR_62_0, gR_62_1, gR_62_2, gR_66_0, gR_66_1, gR_68_0, gR_68_1, gR_71_0, gR_72_0, gR_74_0, gR_74_1, gR_74_3, gR_74_5, gR_74_7, gR_74_8, gR_74_9, gR_74_15, ld_3, ld_5, ld_6, ld_60, ld_63, ld_64, ld_65, ld_67, ld_69, ld_70, ld_73, ld_75, ld_76, ld_77, ld_78, ld_79, ld_80, ld_82, st_3, st_5, st_6, st_60, st_63, st_64, st_65, st_67, st_69, st_70, st_73, st_75, st_76, st_77, st_78, st_79, st_80, st_82, aL_3, aL_5, aL_6, aL_60, aL_63, aL_64, aL_65, aL_67, aL_69, aL_70, aL_73, aL_75, aL_76, aL_77, aL_78, aL_79, aL_80, aL_82, pI_0, pI_1, pI_2, pI_4, pI_7, pI_15, pI_59, pI_61, pI_62, pI_66, pI_68, pI_71, pI_72, pI_74, ld_81, ld_16, aL_16, if_pos o74, hm, s, n1, u2_off, e1]
          · by_cases h114 : sg b Y i = 114
            · have hok : okS (sg b Y i) = 1 := if_pos (by omega)
              rw [hok, if_pos rfl]
              unfold fX11_readPart bX11_readPart lX11_readPart_55 lX11_readPart_60
              generalize lX11_readPart_103 oS FU = K
              generalize lX11_readPart_153 oS = G
              unfold mp
              simp (disch := omega) only [Option.bind_some, km1, k0, k1, k2, k3, k4, k5, k6, k7, k8, k9, k10, k11, k15, k16, k20, k32, k33, k39, k40, k43, k44, k45, k48, k49, k50, k51, k52, k57, k59, k60, k63, k64, k80, k97, k100, k101, k108, k112, k114, k117, k126, k130, k650, k100000, k1000000, ii_add, ii_sub, ii_neg, ii_mul, ii_lt, ii_le, ii_eq, if_true, if_false, if_pos, if_neg, gI_0, gI_1, gI_2, gI_4, gI_7, gI_15, gI_59, gI_61, gI_62, gI_66, gI_68, gI_71, gI_72, gI_74, gR_0_0, gR_0_1, gR_0_3, gR_0_4, gR_0_5, gR_0_6, gR_0_7, gR_0_8, gR_1_0, gR_1_1, gR_1_2, gR_2_0, gR_4_0, gR_4_1, gR_15_0, gR_59_0, gR_61_0, gR_61_1, gR_61_2, gR_62_0, gR_62_1, gR_62_2, gR_66_0, gR_66_1, gR_68_0, gR_68_1, gR_71_0, gR_72_0, gR_74_0, gR_74_1, gR_74_3, gR_74_5, gR_74_7, gR_74_8, gR_74_9, gR_74_15, ld_3, ld_5, ld_6, ld_60, ld_63, ld_64, ld_65, ld_67, ld_69, ld_70, ld_73, ld_75, ld_76, ld_77, ld_78, ld_79, ld_80, ld_82, st_3, st_5, st_6, st_60, st_63, st_64, st_65, st_67, st_69, st_70, st_73, st_75, st_76, st_77, st_78, st_79, st_80, st_82, aL_3, aL_5, aL_6, aL_60, aL_63, aL_64, aL_65, aL_67, aL_69, aL_70, aL_73, aL_75, aL_76, aL_77, aL_78, aL_79, aL_80, aL_82, pI_0, pI_1, pI_2, pI_4, pI_7, pI_15, pI_59, pI_61, pI_62, pI_66, pI_68, pI_71, pI_72, pI_74, ld_81, ld_16, aL_16, if_pos o74, hm, s, n1, u2_off, e1]
            · have hok : okS (sg b Y i) = 0 := if_neg (by omega)
              rw [hok, if_neg (by omega)]
              unfold fX11_readPart bX11_readPart lX11_readPart_55 lX11_readPart_60
              generalize lX11_readPart_103 oS FU = K
              generalize lX11_readPart_153 oS = G
              unfold mp
              simp (disch := omega) only [Option.bind_some, km1, k0, k1, k2, k3, k4, k5, k6, k7, k8, k9, k10, k11, k15, k16, k20, k32, k33, k39, k40, k43, k44, k45, k48, k49, k50, k51, k52, k57, k59, k60, k63, k64, k80, k97, k100, k101, k108, k112, k114, k117, k126, k130, k650, k100000, k1000000, ii_add, ii_sub, ii_neg, ii_mul, ii_lt, ii_le, ii_eq, if_true, if_false, if_pos, if_neg, gI_0, gI_1, gI_2, gI_4, gI_7, gI_15, gI_59, gI_61, gI_62, gI_66, gI_68, gI_71, gI_72, gI_74, gR_0_0, gR_0_1, gR_0_3, gR_0_4, gR_0_5, gR_0_6, gR_0_7, gR_0_8, gR_1_0, gR_1_1, gR_1_2, gR_2_0, gR_4_0, gR_4_1, gR_15_0, gR_59_0, gR_61_0, gR_61_1, gR_61_2, gR_62_0, gR_62_1, gR_62_2, gR_66_0, gR_66_1, gR_68_0, gR_68_1, gR_71_0, gR_72_0, gR_74_0, gR_74_1, gR_74_3, gR_74_5, gR_74_7, gR_74_8, gR_74_9, gR_74_15, ld_3, ld_5, ld_6, ld_60, ld_63, ld_64, ld_65, ld_67, ld_69, ld_70, ld_73, ld_75, ld_76, ld_77, ld_78, ld_79, ld_80, ld_82, st_3, st_5, st_6, st_60, st_63, st_64, st_65, st_67, st_69, st_70, st_73, st_75, st_76, st_77, st_78, st_79, st_80, st_82, aL_3, aL_5, aL_6, aL_60, aL_63, aL_64, aL_65, aL_67, aL_69, aL_70, aL_73, aL_75, aL_76, aL_77, aL_78, aL_79, aL_80, aL_82, pI_0, pI_1, pI_2, pI_4, pI_7, pI_15, pI_59, pI_61, pI_62, pI_66, pI_68, pI_71, pI_72, pI_74, ld_81, ld_16, aL_16, if_pos o74, hm, s, n0, u2_off, e0]
