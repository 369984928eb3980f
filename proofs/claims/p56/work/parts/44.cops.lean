/-! more calls of the class -/
theorem sSk_n {v : Int → Int} {n k : Int} {D V : Int → Int} (h6 : k ≠ 6) (h : k < 50) : setSk v n D V k = v k := by
  unfold setSk
  rw [if_neg h6, if_neg (by omega)]
theorem sSk_6 {v : Int → Int} {n : Int} {D V : Int → Int} : setSk v n D V 6 = n := if_pos rfl
theorem sSk_d {v : Int → Int} {n t : Int} {D V : Int → Int} (h0 : 0 ≤ t) (h : t < n) : tkD (setSk v n D V) t = D t := by
  unfold tkD setSk rwv
  rw [if_neg (by omega), if_pos (by omega), if_pos (by omega), if_pos (by omega)]
  exact congrArg D (by omega)
theorem sSk_v {v : Int → Int} {n t : Int} {D V : Int → Int} (h0 : 0 ≤ t) (h : t < n) : tkV (setSk v n D V) t = V t := by
  unfold tkV setSk rwv
  rw [if_neg (by omega), if_pos (by omega), if_pos (by omega), if_neg (by omega)]
  exact congrArg V (by omega)
theorem sSk_x {v : Int → Int} {n k : Int} {D V : Int → Int} (h0 : 0 ≤ k) (h : k < 40) : tx (setSk v n D V) k = tx v k := sSk_n (by omega) (by omega)
theorem WF_pkv {v : Int → Int} (h : WF v) (way : Int) : WF (pkv v way) := by
  have g0 := wf_0 h; have g1 := wf_1 h; have g2 := wf_2 h; have g3 := wf_3 h; have g4 := wf_4 h; have g5 := wf_5 h
  obtain ⟨b0, b1, b2⟩ := pkR_b h way
  unfold pkv
  refine WF_of h (by rw [sSk_n (by omega) (by omega)]; exact g0) (by rw [sSk_n (by omega) (by omega)]; exact g1) (by rw [sSk_n (by omega) (by omega)]; exact g2) (by rw [sSk_n (by omega) (by omega)]; exact g3) (by rw [sSk_n (by omega) (by omega)]; exact g4) (by rw [sSk_n (by omega) (by omega)]; exact g5) (by rw [sSk_6]; omega) (sSk_n (by omega) (by omega)) (sSk_n (by omega) (by omega)) (sSk_n (by omega) (by omega)) (fun k h2 h3 => ?_) (fun t h2 h3 => ?_)
  · rw [sSk_n (by omega) (by omega)] at h3
    rw [sSk_x h2 (by omega)]
    exact wf_t h h2 h3
  · rw [sSk_6] at h3
    unfold tkOk
    rw [sSk_d h2 h3, sSk_v h2 h3]
    exact b2 t h2 h3
theorem RS_pkv {m m' : Nat → Nat → Int32} {v : Int → Int} {way : Int} (h : RS m 1 v) (hW : WF v) (hf : ∀ b, b = 1 ∨ b = 2 ∨ b = 3 ∨ b = 7 → m' b = m b) (hS : SK m' 4 (pkN v way) (pkD v way) (pkV v way)) : RS m' 1 (pkv v way) := by
  have g0 := wf_0 hW
  have hh := h
  obtain ⟨c0, ⟨c1, c2, c3, c4, c5⟩, c6, _, cl, ct⟩ := hh
  unfold pkv
  have f2 := hf 2 (by omega)
  have f3 := hf 3 (by omega)
  have f7 := hf 7 (by omega)
  refine RS_of h (hf 1 (by omega)) (sSk_n (by omega) (by omega)) (sSk_n (by omega) (by omega)) (by rw [f2, sSk_n (by omega) (by omega)]; exact c0) ⟨by rw [f7, sSk_n (by omega) (by omega)]; exact c1, by rw [f7, sSk_n (by omega) (by omega)]; exact c2, by rw [f7, sSk_n (by omega) (by omega)]; exact c3, by rw [f7, sSk_n (by omega) (by omega)]; exact c4, by rw [f7, sSk_n (by omega) (by omega)]; exact c5⟩ (by rw [sSk_6]; exact hS.1) (fun k h2 h3 => ?_) (fun t h2 h3 => ?_)
  · rw [sSk_n (by omega) (by omega)] at h3
    rw [f3, sSk_x h2 (by omega)]
    exact cl k h2 h3
  · rw [sSk_6] at h3
    rw [sSk_d h2 h3, sSk_v h2 h3]
    exact hS.2 t h2 h3
theorem sTx_n {v : Int → Int} {n k : Int} {U : Int → Int} (h0 : k ≠ 0) (h : k < 10 ∨ 50 ≤ k) : setTx v n U k = v k := by
  unfold setTx
  rw [if_neg h0, if_neg (by omega)]
theorem sTx_0 {v : Int → Int} {n : Int} {U : Int → Int} : setTx v n U 0 = n := if_pos rfl
theorem sTx_x {v : Int → Int} {n k : Int} {U : Int → Int} (h0 : 0 ≤ k) (h : k < n) (hn : n ≤ 40) : tx (setTx v n U) k = U k := by
  unfold tx setTx
  rw [if_neg (by omega), if_pos (by omega), if_pos (by omega)]
  exact congrArg U (by omega)
theorem sTx_k {v : Int → Int} {n t : Int} {U : Int → Int} (h0 : 0 ≤ t) : tkD (setTx v n U) t = tkD v t ∧ tkV (setTx v n U) t = tkV v t := ⟨sTx_n (by omega) (by omega), sTx_n (by omega) (by omega)⟩
theorem WF_setTx {v : Int → Int} {n : Int} {U : Int → Int} (h : WF v) (h0 : 0 ≤ n) (h1 : n ≤ 40) (hU : UB n U) : WF (setTx v n U) := by
  have g6 := wf_6 h; have g1 := wf_1 h; have g2 := wf_2 h; have g3 := wf_3 h; have g4 := wf_4 h; have g5 := wf_5 h
  refine WF_of h (by rw [sTx_0]; omega) (by rw [sTx_n (by omega) (by omega)]; exact g1) (by rw [sTx_n (by omega) (by omega)]; exact g2) (by rw [sTx_n (by omega) (by omega)]; exact g3) (by rw [sTx_n (by omega) (by omega)]; exact g4) (by rw [sTx_n (by omega) (by omega)]; exact g5) (by rw [sTx_n (by omega) (by omega)]; exact g6) (sTx_n (by omega) (by omega)) (sTx_n (by omega) (by omega)) (sTx_n (by omega) (by omega)) (fun k h2 h3 => ?_) (fun t h2 h3 => ?_)
  · rw [sTx_0] at h3
    rw [sTx_x h2 h3 h1]
    exact hU k h2 h3
  · rw [sTx_n (by omega) (by omega)] at h3
    unfold tkOk
    rw [(sTx_k h2).1, (sTx_k h2).2]
    exact wf_k h h2 h3
theorem RS_setTx {m m' : Nat → Nat → Int32} {v : Int → Int} {n : Int} {U : Int → Int} (h : RS m 1 v) (h1 : n ≤ 40) (hf : ∀ b, b = 1 ∨ b = 4 ∨ b = 5 ∨ b = 6 ∨ b = 7 → m' b = m b) (hc : m' 2 1 = ii n) (hU : ∀ i, 0 ≤ i → i < n → m' 3 i.toNat = ii (U i)) : RS m' 1 (setTx v n U) := by
  have hh := h
  obtain ⟨c0, ⟨c1, c2, c3, c4, c5⟩, c6, _, cl, ct⟩ := hh
  have f4 := hf 4 (by omega)
  have f5 := hf 5 (by omega)
  have f6 := hf 6 (by omega)
  have f7 := hf 7 (by omega)
  refine RS_of h (hf 1 (by omega)) (sTx_n (by omega) (by omega)) (sTx_n (by omega) (by omega)) (by rw [sTx_0]; exact hc) ⟨by rw [f7, sTx_n (by omega) (by omega)]; exact c1, by rw [f7, sTx_n (by omega) (by omega)]; exact c2, by rw [f7, sTx_n (by omega) (by omega)]; exact c3, by rw [f7, sTx_n (by omega) (by omega)]; exact c4, by rw [f7, sTx_n (by omega) (by omega)]; exact c5⟩ (by rw [f4, sTx_n (by omega) (by omega)]; exact c6) (fun k h2 h3 => ?_) (fun t h2 h3 => ?_)
  · rw [sTx_0] at h3
    rw [sTx_x h2 h3 h1]
    exact hU k h2 h3
  · rw [sTx_n (by omega) (by omega)] at h3
    rw [f5, f6, (sTx_k h2).1, (sTx_k h2).2]
    exact ct t h2 h3
variable {μ : mMm} {A : AS} {q q2 : Int}
theorem cPack_0 (hC : CI μ.1 A) (h0 : -2147483648 ≤ q) (h1 : q < 2147483648) (hq : ¬ (0 ≤ q ∧ q ≤ 2)) : CS (fX10_pack oS μ 0 (ii q)) μ (.inr 0) A := by
  have r := isW_at h0 h1
  rw [if_neg hq] at r
  refine CS_no hC ?_
  unfold fX10_pack bX10_pack
  simp (disch := omega) only [Option.bind_some, km1, k0, k1, k2, k3, k4, k5, k6, k7, k8, k9, k10, k11, k15, k16, k20, k32, k33, k39, k40, k43, k44, k45, k48, k49, k50, k51, k52, k57, k59, k60, k63, k64, k80, k97, k100, k101, k108, k112, k114, k117, k126, k130, k650, k100000, k1000000, ii_add, ii_sub, ii_neg, ii_mul, ii_lt, ii_le, ii_eq, if_true, if_false, if_pos, if_neg, gI_0, gI_1, gI_2, gI_4, gI_7, gI_15, gI_59, gI_61, gI_62, gI_66, gI_68, gI_71, gI_72, gR_0_0, gR_0_1, gR_0_3, gR_0_4, gR_0_5, gR_0_6, gR_0_7, gR_0_8, gR_1_0, gR_1_1, gR_1_2, gR_2_0, gR_4_0, gR_4_1, gR_15_0, gR_59_0, gR_61_0, gR_61_1, gR_61_2, gR_62_0, gR_62_1, gR_62_2, gR_66_0, gR_66_1, gR_68_0, gR_68_1, gR_71_0, gR_72_0, ld_3, ld_5, ld_6, ld_60, ld_63, ld_64, ld_65, ld_67, ld_69, ld_70, ld_73, st_3, st_5, st_6, st_60, st_63, st_64, st_65, st_67, st_69, st_70, st_73, aL_3, aL_5, aL_6, aL_60, aL_63, aL_64, aL_65, aL_67, aL_69, aL_70, aL_73, pI_0, pI_1, pI_2, pI_4, pI_7, pI_15, pI_59, pI_61, pI_62, pI_66, pI_68, pI_71, pI_72, ld_16, aL_16, if_pos o0, r]
theorem cPack (hA : AW A) (hC : CI μ.1 A) (hq : 0 ≤ q ∧ q ≤ 2) : CS (fX10_pack oS μ 0 (ii q)) μ (.inl (ii (pkN A.v q))) (chg A (pkv A.v q)) := by
  have r := isW_at (q := q) (by omega) (by omega)
  rw [if_pos hq] at r
  obtain ⟨m1, i1, i2, i3⟩ := cpush hA hC
  obtain ⟨m2, j1, j2, j3⟩ := packBy_at (μ := (m1, μ.2)) (RS_T i3.1) hA.1 oSk_4 (Or.inl rfl) hq.1 hq.2
  have hn : m2 4 2 = ii (pkN A.v q) := j3.1
  obtain ⟨l1, l2⟩ := CI_chg (v := pkv A.v q) (m' := m2) i2 i3 (fun b h7 h8 => j2 b (by omega) (by omega) (by omega) (by omega)) (RS_pkv i3.1 hA.1 (fun b hb => j2 b (by omega) (by omega) (by omega) (by omega)) j3)
  refine ⟨m2, ?_, l1, l2⟩
  unfold fX10_pack bX10_pack
  simp (disch := omega) only [Option.bind_some, km1, k0, k1, k2, k3, k4, k5, k6, k7, k8, k9, k10, k11, k15, k16, k20, k32, k33, k39, k40, k43, k44, k45, k48, k49, k50, k51, k52, k57, k59, k60, k63, k64, k80, k97, k100, k101, k108, k112, k114, k117, k126, k130, k650, k100000, k1000000, ii_add, ii_sub, ii_neg, ii_mul, ii_lt, ii_le, ii_eq, if_true, if_false, if_pos, if_neg, gI_0, gI_1, gI_2, gI_4, gI_7, gI_15, gI_59, gI_61, gI_62, gI_66, gI_68, gI_71, gI_72, gR_0_0, gR_0_1, gR_0_3, gR_0_4, gR_0_5, gR_0_6, gR_0_7, gR_0_8, gR_1_0, gR_1_1, gR_1_2, gR_2_0, gR_4_0, gR_4_1, gR_15_0, gR_59_0, gR_61_0, gR_61_1, gR_61_2, gR_62_0, gR_62_1, gR_62_2, gR_66_0, gR_66_1, gR_68_0, gR_68_1, gR_71_0, gR_72_0, ld_3, ld_5, ld_6, ld_60, ld_63, ld_64, ld_65, ld_67, ld_69, ld_70, ld_73, st_3, st_5, st_6, st_60, st_63, st_64, st_65, st_67, st_69, st_70, st_73, aL_3, aL_5, aL_6, aL_60, aL_63, aL_64, aL_65, aL_67, aL_69, aL_70, aL_73, pI_0, pI_1, pI_2, pI_4, pI_7, pI_15, pI_59, pI_61, pI_62, pI_66, pI_68, pI_71, pI_72, ld_16, aL_16, if_pos o0, r, i1, j1, hn]
theorem cUnpack_1 (hA : AW A) (hC : CI μ.1 A) (hq : ¬ (unp A.v).2.2.2 = 0) : CS (fX10_unpack oS μ 0) μ (.inr 1) A := by
  obtain ⟨m', j1, j2, j3⟩ := run_at (μ := μ) hC.1 hA.1
  obtain ⟨b1, b2, b3, b4⟩ := unp_b hA.1
  have hy := j3.2.2.2
  refine ⟨m', ?_, fun a ha => j2 a (by omega) (by omega) (by omega), CI_fr (fun a ha => j2 a (by omega) (by omega) (by omega)) hC⟩
  unfold fX10_unpack bX10_unpack
  simp (disch := omega) only [Option.bind_some, km1, k0, k1, k2, k3, k4, k5, k6, k7, k8, k9, k10, k11, k15, k16, k20, k32, k33, k39, k40, k43, k44, k45, k48, k49, k50, k51, k52, k57, k59, k60, k63, k64, k80, k97, k100, k101, k108, k112, k114, k117, k126, k130, k650, k100000, k1000000, ii_add, ii_sub, ii_neg, ii_mul, ii_lt, ii_le, ii_eq, if_true, if_false, if_pos, if_neg, gI_0, gI_1, gI_2, gI_4, gI_7, gI_15, gI_59, gI_61, gI_62, gI_66, gI_68, gI_71, gI_72, gR_0_0, gR_0_1, gR_0_3, gR_0_4, gR_0_5, gR_0_6, gR_0_7, gR_0_8, gR_1_0, gR_1_1, gR_1_2, gR_2_0, gR_4_0, gR_4_1, gR_15_0, gR_59_0, gR_61_0, gR_61_1, gR_61_2, gR_62_0, gR_62_1, gR_62_2, gR_66_0, gR_66_1, gR_68_0, gR_68_1, gR_71_0, gR_72_0, ld_3, ld_5, ld_6, ld_60, ld_63, ld_64, ld_65, ld_67, ld_69, ld_70, ld_73, st_3, st_5, st_6, st_60, st_63, st_64, st_65, st_67, st_69, st_70, st_73, aL_3, aL_5, aL_6, aL_60, aL_63, aL_64, aL_65, aL_67, aL_69, aL_70, aL_73, pI_0, pI_1, pI_2, pI_4, pI_7, pI_15, pI_59, pI_61, pI_62, pI_66, pI_68, pI_71, pI_72, ld_16, aL_16, if_pos o0, j1, hy]
theorem cUnpack (hA : AW A) (hC : CI μ.1 A) (hq : (unp A.v).2.2.2 = 0) : CS (fX10_unpack oS μ 0) μ (.inl (ii (unp A.v).1)) (chg A (setTx A.v (unp A.v).1 (unp A.v).2.1)) := by
  obtain ⟨m', j1, j2, j3⟩ := run_at (μ := μ) hC.1 hA.1
  obtain ⟨b1, b2, b3, b4⟩ := unp_b hA.1
  have hy := j3.2.2.2
  rw [hq] at hy
  obtain ⟨m1, i1, i2, i3⟩ := cpush (μ := (m', μ.2)) hA (CI_fr (fun a ha => j2 a (by omega) (by omega) (by omega)) hC)
  obtain ⟨m2, l1, l2, l3, l4⟩ := lcopy_at (μ := (m1, μ.2)) oLt_2 oLt_72 (by omega)
  have e72 : m1 72 = m' 72 := i2 72 (by omega)
  have e73 : m1 73 = m' 73 := i2 73 (by omega)
  have hn : m2 2 1 = ii (unp A.v).1 := l3.trans ((congrFun e72 1).trans j3.1)
  obtain ⟨n1, n2⟩ := CI_chg (v := setTx A.v (unp A.v).1 (unp A.v).2.1) (m' := m2) i2 i3 (fun b h7 h8 => l2 b (by omega) (by omega)) (RS_setTx i3.1 b1.2 (fun b hb => l2 b (by omega) (by omega)) hn (fun i h7 h8 => (l4 i h7 (by omega)).trans ((congrFun e73 _).trans (j3.2.1 i h7 h8))))
  refine ⟨m2, ?_, fun a ha => (n1 a ha).trans (j2 a (by omega) (by omega) (by omega)), n2⟩
  unfold fX10_unpack bX10_unpack
  simp (disch := omega) only [Option.bind_some, km1, k0, k1, k2, k3, k4, k5, k6, k7, k8, k9, k10, k11, k15, k16, k20, k32, k33, k39, k40, k43, k44, k45, k48, k49, k50, k51, k52, k57, k59, k60, k63, k64, k80, k97, k100, k101, k108, k112, k114, k117, k126, k130, k650, k100000, k1000000, ii_add, ii_sub, ii_neg, ii_mul, ii_lt, ii_le, ii_eq, if_true, if_false, if_pos, if_neg, gI_0, gI_1, gI_2, gI_4, gI_7, gI_15, gI_59, gI_61, gI_62, gI_66, gI_68, gI_71, gI_72, gR_0_0, gR_0_1, gR_0_3, gR_0_4, gR_0_5, gR_0_6, gR_0_7, gR_0_8, gR_1_0, gR_1_1, gR_1_2, gR_2_0, gR_4_0, gR_4_1, gR_15_0, gR_59_0, gR_61_0, gR_61_1, gR_61_2, gR_62_0, gR_62_1, gR_62_2, gR_66_0, gR_66_1, gR_68_0, gR_68_1, gR_71_0, gR_72_0, ld_3, ld_5, ld_6, ld_60, ld_63, ld_64, ld_65, ld_67, ld_69, ld_70, ld_73, st_3, st_5, st_6, st_60, st_63, st_64, st_65, st_67, st_69, st_70, st_73, aL_3, aL_5, aL_6, aL_60, aL_63, aL_64, aL_65, aL_67, aL_69, aL_70, aL_73, pI_0, pI_1, pI_2, pI_4, pI_7, pI_15, pI_59, pI_61, pI_62, pI_66, pI_68, pI_71, pI_72, ld_16, aL_16, if_pos o0, j1, hy, i1, l1, hn]
theorem cAddToken_0 (hC : CI μ.1 A) (h0 : -2147483648 ≤ q) (h1 : q < 2147483648) (hq : ¬ (0 ≤ q ∧ q ≤ 3)) : CS (fX10_addToken oS μ 0 (ii q)) μ (.inr 0) A := by
  have r := isL_at h0 h1
  rw [if_neg hq] at r
  refine CS_no hC ?_
  unfold fX10_addToken bX10_addToken
  simp (disch := omega) only [Option.bind_some, km1, k0, k1, k2, k3, k4, k5, k6, k7, k8, k9, k10, k11, k15, k16, k20, k32, k33, k39, k40, k43, k44, k45, k48, k49, k50, k51, k52, k57, k59, k60, k63, k64, k80, k97, k100, k101, k108, k112, k114, k117, k126, k130, k650, k100000, k1000000, ii_add, ii_sub, ii_neg, ii_mul, ii_lt, ii_le, ii_eq, if_true, if_false, if_pos, if_neg, gI_0, gI_1, gI_2, gI_4, gI_7, gI_15, gI_59, gI_61, gI_62, gI_66, gI_68, gI_71, gI_72, gR_0_0, gR_0_1, gR_0_3, gR_0_4, gR_0_5, gR_0_6, gR_0_7, gR_0_8, gR_1_0, gR_1_1, gR_1_2, gR_2_0, gR_4_0, gR_4_1, gR_15_0, gR_59_0, gR_61_0, gR_61_1, gR_61_2, gR_62_0, gR_62_1, gR_62_2, gR_66_0, gR_66_1, gR_68_0, gR_68_1, gR_71_0, gR_72_0, ld_3, ld_5, ld_6, ld_60, ld_63, ld_64, ld_65, ld_67, ld_69, ld_70, ld_73, st_3, st_5, st_6, st_60, st_63, st_64, st_65, st_67, st_69, st_70, st_73, aL_3, aL_5, aL_6, aL_60, aL_63, aL_64, aL_65, aL_67, aL_69, aL_70, aL_73, pI_0, pI_1, pI_2, pI_4, pI_7, pI_15, pI_59, pI_61, pI_62, pI_66, pI_68, pI_71, pI_72, ld_16, aL_16, if_pos o0, r]
theorem cfull (hA : AW A) (hC : CI μ.1 A) : fX5_isFull oS μ 4 = some (if A.v 6 < 40 then 0 else 1) := full_at oSk_4 (rs_k hC.1) (wf_6 hA.1).1 (wf_6 hA.1).2
theorem cAddToken_1 (hA : AW A) (hC : CI μ.1 A) (hq : 0 ≤ q ∧ q ≤ 3) (hf : ¬ A.v 6 < 40) : CS (fX10_addToken oS μ 0 (ii q)) μ (.inr 1) A := by
  have r := isL_at (q := q) (by omega) (by omega)
  have r2 := cfull hA hC
  rw [if_pos hq] at r
  rw [if_neg hf] at r2
  refine CS_no hC ?_
  unfold fX10_addToken bX10_addToken
  simp (disch := omega) only [Option.bind_some, km1, k0, k1, k2, k3, k4, k5, k6, k7, k8, k9, k10, k11, k15, k16, k20, k32, k33, k39, k40, k43, k44, k45, k48, k49, k50, k51, k52, k57, k59, k60, k63, k64, k80, k97, k100, k101, k108, k112, k114, k117, k126, k130, k650, k100000, k1000000, ii_add, ii_sub, ii_neg, ii_mul, ii_lt, ii_le, ii_eq, if_true, if_false, if_pos, if_neg, gI_0, gI_1, gI_2, gI_4, gI_7, gI_15, gI_59, gI_61, gI_62, gI_66, gI_68, gI_71, gI_72, gR_0_0, gR_0_1, gR_0_3, gR_0_4, gR_0_5, gR_0_6, gR_0_7, gR_0_8, gR_1_0, gR_1_1, gR_1_2, gR_2_0, gR_4_0, gR_4_1, gR_15_0, gR_59_0, gR_61_0, gR_61_1, gR_61_2, gR_62_0, gR_62_1, gR_62_2, gR_66_0, gR_66_1, gR_68_0, gR_68_1, gR_71_0, gR_72_0, ld_3, ld_5, ld_6, ld_60, ld_63, ld_64, ld_65, ld_67, ld_69, ld_70, ld_73, st_3, st_5, st_6, st_60, st_63, st_64, st_65, st_67, st_69, st_70, st_73, aL_3, aL_5, aL_6, aL_60, aL_63, aL_64, aL_65, aL_67, aL_69, aL_70, aL_73, pI_0, pI_1, pI_2, pI_4, pI_7, pI_15, pI_59, pI_61, pI_62, pI_66, pI_68, pI_71, pI_72, ld_16, aL_16, if_pos o0, r, r2]
theorem csput (hA : AW A) (hC : CI μ.1 A) (hf : A.v 6 < 40) {d x : Int} : ∃ m1, fX1_push oS μ 15 1 = some (m1, μ.2) ∧ fX5_put oS (m1, μ.2) 4 (ii d) (ii x) = some (u2 (u2 (u2 m1 5 (A.v 6).toNat (ii d)) 6 (A.v 6).toNat (ii x)) 4 2 (ii (A.v 6 + 1)), μ.2) ∧ (∀ a, 74 ≤ a → (u2 (u2 (u2 m1 5 (A.v 6).toNat (ii d)) 6 (A.v 6).toNat (ii x)) 4 2 (ii (A.v 6 + 1))) a = μ.1 a) ∧ CI (u2 (u2 (u2 m1 5 (A.v 6).toNat (ii d)) 6 (A.v 6).toNat (ii x)) 4 2 (ii (A.v 6 + 1))) (chg A (upI (upI (upI A.v (50 + 2 * A.v 6) d) (50 + 2 * A.v 6 + 1) x) 6 (A.v 6 + 1))) := by
  obtain ⟨m1, i1, i2, i3⟩ := cpush hA hC
  have g6 := wf_6 hA.1
  have hc1 : m1 4 2 = ii (A.v 6) := rs_k i3.1
  obtain ⟨n1, n2⟩ := CI_chg i2 i3 (fun b h7 h8 => by simp (disch := omega) only [u2_offr]) (RS_sput (d := d) (x := x) i3.1 hA.1)
  exact ⟨m1, i1, sput_at oSk_4 hc1 g6.1 hf, n1, n2⟩
theorem cAddToken (hA : AW A) (hC : CI μ.1 A) (hq : 0 ≤ q ∧ q ≤ 3) (hf : A.v 6 < 40) : CS (fX10_addToken oS μ 0 (ii q)) μ (.inl (ii (A.v 6 + 1))) (chg A (upI (upI (upI A.v (50 + 2 * A.v 6) 0) (50 + 2 * A.v 6 + 1) q) 6 (A.v 6 + 1))) := by
  have r := isL_at (q := q) (by omega) (by omega)
  have r2 := cfull hA hC
  rw [if_pos hq] at r
  rw [if_pos hf] at r2
  obtain ⟨m1, i1, i2, i3, i4⟩ := csput hA hC hf (d := 0) (x := q)
  refine ⟨_, ?_, i3, i4⟩
  unfold fX10_addToken bX10_addToken
  simp (disch := omega) only [Option.bind_some, km1, k0, k1, k2, k3, k4, k5, k6, k7, k8, k9, k10, k11, k15, k16, k20, k32, k33, k39, k40, k43, k44, k45, k48, k49, k50, k51, k52, k57, k59, k60, k63, k64, k80, k97, k100, k101, k108, k112, k114, k117, k126, k130, k650, k100000, k1000000, ii_add, ii_sub, ii_neg, ii_mul, ii_lt, ii_le, ii_eq, if_true, if_false, if_pos, if_neg, gI_0, gI_1, gI_2, gI_4, gI_7, gI_15, gI_59, gI_61, gI_62, gI_66, gI_68, gI_71, gI_72, gR_0_0, gR_0_1, gR_0_3, gR_0_4, gR_0_5, gR_0_6, gR_0_7, gR_0_8, gR_1_0, gR_1_1, gR_1_2, gR_2_0, gR_4_0, gR_4_1, gR_15_0, gR_59_0, gR_61_0, gR_61_1, gR_61_2, gR_62_0, gR_62_1, gR_62_2, gR_66_0, gR_66_1, gR_68_0, gR_68_1, gR_71_0, gR_72_0, ld_3, ld_5, ld_6, ld_60, ld_63, ld_64, ld_65, ld_67, ld_69, ld_70, ld_73, st_3, st_5, st_6, st_60, st_63, st_64, st_65, st_67, st_69, st_70, st_73, aL_3, aL_5, aL_6, aL_60, aL_63, aL_64, aL_65, aL_67, aL_69, aL_70, aL_73, pI_0, pI_1, pI_2, pI_4, pI_7, pI_15, pI_59, pI_61, pI_62, pI_66, pI_68, pI_71, pI_72, ld_16, aL_16, if_pos o0, r, r2, i1, i2, u2_at]
theorem cAddRepeat_0 (hC : CI μ.1 A) (h0 : -2147483648 ≤ q) (h1 : q < 2147483648) (h2 : -2147483648 ≤ q2) (h3 : q2 < 2147483648) (hq : ¬ ((1 ≤ q ∧ q ≤ 39) ∧ 1 ≤ q2 ∧ q2 ≤ 40)) : CS (fX10_addRepeat oS μ 0 (ii q) (ii q2)) μ (.inr 0) A := by
  have r : fX10_isBetween (ii q) (ii 1) (ii 39) = _ := isB_at h0 h1 (by omega) (by omega) (by omega)
  have r2 : fX10_isBetween (ii q2) (ii 1) (ii 40) = _ := isB_at h2 h3 (by omega) (by omega) (by omega)
  refine CS_no hC ?_
  unfold fX10_addRepeat bX10_addRepeat lX10_addRepeat_20
  by_cases hq1 : 1 ≤ q ∧ q ≤ 39
  · rw [if_pos hq1] at r
    rw [if_neg (fun h => hq ⟨hq1, h⟩)] at r2
    simp (disch := omega) only [Option.bind_some, km1, k0, k1, k2, k3, k4, k5, k6, k7, k8, k9, k10, k11, k15, k16, k20, k32, k33, k39, k40, k43, k44, k45, k48, k49, k50, k51, k52, k57, k59, k60, k63, k64, k80, k97, k100, k101, k108, k112, k114, k117, k126, k130, k650, k100000, k1000000, ii_add, ii_sub, ii_neg, ii_mul, ii_lt, ii_le, ii_eq, if_true, if_false, if_pos, if_neg, gI_0, gI_1, gI_2, gI_4, gI_7, gI_15, gI_59, gI_61, gI_62, gI_66, gI_68, gI_71, gI_72, gR_0_0, gR_0_1, gR_0_3, gR_0_4, gR_0_5, gR_0_6, gR_0_7, gR_0_8, gR_1_0, gR_1_1, gR_1_2, gR_2_0, gR_4_0, gR_4_1, gR_15_0, gR_59_0, gR_61_0, gR_61_1, gR_61_2, gR_62_0, gR_62_1, gR_62_2, gR_66_0, gR_66_1, gR_68_0, gR_68_1, gR_71_0, gR_72_0, ld_3, ld_5, ld_6, ld_60, ld_63, ld_64, ld_65, ld_67, ld_69, ld_70, ld_73, st_3, st_5, st_6, st_60, st_63, st_64, st_65, st_67, st_69, st_70, st_73, aL_3, aL_5, aL_6, aL_60, aL_63, aL_64, aL_65, aL_67, aL_69, aL_70, aL_73, pI_0, pI_1, pI_2, pI_4, pI_7, pI_15, pI_59, pI_61, pI_62, pI_66, pI_68, pI_71, pI_72, ld_16, aL_16, if_pos o0, r, r2]
  · rw [if_neg hq1] at r
    simp (disch := omega) only [Option.bind_some, km1, k0, k1, k2, k3, k4, k5, k6, k7, k8, k9, k10, k11, k15, k16, k20, k32, k33, k39, k40, k43, k44, k45, k48, k49, k50, k51, k52, k57, k59, k60, k63, k64, k80, k97, k100, k101, k108, k112, k114, k117, k126, k130, k650, k100000, k1000000, ii_add, ii_sub, ii_neg, ii_mul, ii_lt, ii_le, ii_eq, if_true, if_false, if_pos, if_neg, gI_0, gI_1, gI_2, gI_4, gI_7, gI_15, gI_59, gI_61, gI_62, gI_66, gI_68, gI_71, gI_72, gR_0_0, gR_0_1, gR_0_3, gR_0_4, gR_0_5, gR_0_6, gR_0_7, gR_0_8, gR_1_0, gR_1_1, gR_1_2, gR_2_0, gR_4_0, gR_4_1, gR_15_0, gR_59_0, gR_61_0, gR_61_1, gR_61_2, gR_62_0, gR_62_1, gR_62_2, gR_66_0, gR_66_1, gR_68_0, gR_68_1, gR_71_0, gR_72_0, ld_3, ld_5, ld_6, ld_60, ld_63, ld_64, ld_65, ld_67, ld_69, ld_70, ld_73, st_3, st_5, st_6, st_60, st_63, st_64, st_65, st_67, st_69, st_70, st_73, aL_3, aL_5, aL_6, aL_60, aL_63, aL_64, aL_65, aL_67, aL_69, aL_70, aL_73, pI_0, pI_1, pI_2, pI_4, pI_7, pI_15, pI_59, pI_61, pI_62, pI_66, pI_68, pI_71, pI_72, ld_16, aL_16, if_pos o0, r]
theorem cAddRepeat_1 (hA : AW A) (hC : CI μ.1 A) (hq : 1 ≤ q ∧ q ≤ 39) (hq2 : 1 ≤ q2 ∧ q2 ≤ 40) (hf : ¬ A.v 6 < 40) : CS (fX10_addRepeat oS μ 0 (ii q) (ii q2)) μ (.inr 1) A := by
  have r : fX10_isBetween (ii q) (ii 1) (ii 39) = _ := isB_at (by omega) (by omega) (by omega) (by omega) (by omega)
  have r2 : fX10_isBetween (ii q2) (ii 1) (ii 40) = _ := isB_at (by omega) (by omega) (by omega) (by omega) (by omega)
  have r3 := cfull hA hC
  rw [if_pos hq] at r
  rw [if_pos hq2] at r2
  rw [if_neg hf] at r3
  refine CS_no hC ?_
  unfold fX10_addRepeat bX10_addRepeat
  simp (disch := omega) only [Option.bind_some, km1, k0, k1, k2, k3, k4, k5, k6, k7, k8, k9, k10, k11, k15, k16, k20, k32, k33, k39, k40, k43, k44, k45, k48, k49, k50, k51, k52, k57, k59, k60, k63, k64, k80, k97, k100, k101, k108, k112, k114, k117, k126, k130, k650, k100000, k1000000, ii_add, ii_sub, ii_neg, ii_mul, ii_lt, ii_le, ii_eq, if_true, if_false, if_pos, if_neg, gI_0, gI_1, gI_2, gI_4, gI_7, gI_15, gI_59, gI_61, gI_62, gI_66, gI_68, gI_71, gI_72, gR_0_0, gR_0_1, gR_0_3, gR_0_4, gR_0_5, gR_0_6, gR_0_7, gR_0_8, gR_1_0, gR_1_1, gR_1_2, gR_2_0, gR_4_0, gR_4_1, gR_15_0, gR_59_0, gR_61_0, gR_61_1, gR_61_2, gR_62_0, gR_62_1, gR_62_2, gR_66_0, gR_66_1, gR_68_0, gR_68_1, gR_71_0, gR_72_0, ld_3, ld_5, ld_6, ld_60, ld_63, ld_64, ld_65, ld_67, ld_69, ld_70, ld_73, st_3, st_5, st_6, st_60, st_63, st_64, st_65, st_67, st_69, st_70, st_73, aL_3, aL_5, aL_6, aL_60, aL_63, aL_64, aL_65, aL_67, aL_69, aL_70, aL_73, pI_0, pI_1, pI_2, pI_4, pI_7, pI_15, pI_59, pI_61, pI_62, pI_66, pI_68, pI_71, pI_72, ld_16, aL_16, if_pos o0, r, r2, r3]
theorem cAddRepeat (hA : AW A) (hC : CI μ.1 A) (hq : 1 ≤ q ∧ q ≤ 39) (hq2 : 1 ≤ q2 ∧ q2 ≤ 40) (hf : A.v 6 < 40) : CS (fX10_addRepeat oS μ 0 (ii q) (ii q2)) μ (.inl (ii (A.v 6 + 1))) (chg A (upI (upI (upI A.v (50 + 2 * A.v 6) q) (50 + 2 * A.v 6 + 1) q2) 6 (A.v 6 + 1))) := by
  have r : fX10_isBetween (ii q) (ii 1) (ii 39) = _ := isB_at (by omega) (by omega) (by omega) (by omega) (by omega)
  have r2 : fX10_isBetween (ii q2) (ii 1) (ii 40) = _ := isB_at (by omega) (by omega) (by omega) (by omega) (by omega)
  have r3 := cfull hA hC
  rw [if_pos hq] at r
  rw [if_pos hq2] at r2
  rw [if_pos hf] at r3
  obtain ⟨m1, i1, i2, i3, i4⟩ := csput hA hC hf (d := q) (x := q2)
  refine ⟨_, ?_, i3, i4⟩
  unfold fX10_addRepeat bX10_addRepeat
  simp (disch := omega) only [Option.bind_some, km1, k0, k1, k2, k3, k4, k5, k6, k7, k8, k9, k10, k11, k15, k16, k20, k32, k33, k39, k40, k43, k44, k45, k48, k49, k50, k51, k52, k57, k59, k60, k63, k64, k80, k97, k100, k101, k108, k112, k114, k117, k126, k130, k650, k100000, k1000000, ii_add, ii_sub, ii_neg, ii_mul, ii_lt, ii_le, ii_eq, if_true, if_false, if_pos, if_neg, gI_0, gI_1, gI_2, gI_4, gI_7, gI_15, gI_59, gI_61, gI_62, gI_66, gI_68, gI_71, gI_72, gR_0_0, gR_0_1, gR_0_3, gR_0_4, gR_0_5, gR_0_6, gR_0_7, gR_0_8, gR_1_0, gR_1_1, gR_1_2, gR_2_0, gR_4_0, gR_4_1, gR_15_0, gR_59_0, gR_61_0, gR_61_1, gR_61_2, gR_62_0, gR_62_1, gR_62_2, gR_66_0, gR_66_1, gR_68_0, gR_68_1, gR_71_0, gR_72_0, ld_3, ld_5, ld_6, ld_60, ld_63, ld_64, ld_65, ld_67, ld_69, ld_70, ld_73, st_3, st_5, st_6, st_60, st_63, st_64, st_65, st_67, st_69, st_70, st_73, aL_3, aL_5, aL_6, aL_60, aL_63, aL_64, aL_65, aL_67, aL_69, aL_70, aL_73, pI_0, pI_1, pI_2, pI_4, pI_7, pI_15, pI_59, pI_61, pI_62, pI_66, pI_68, pI_71, pI_72, ld_16, aL_16, if_pos o0, r, r2, r3, i1, i2, u2_at]
theorem cTakeLast_1 (hA : AW A) (hC : CI μ.1 A) (hf : ¬ 0 < A.v 6) : CS (fX10_takeLast oS μ 0) μ (.inr 1) A := by
  have g6 := wf_6 hA.1
  have hc := rs_k hC.1
  refine CS_no hC ?_
  unfold fX10_takeLast bX10_takeLast
  simp (disch := omega) only [Option.bind_some, km1, k0, k1, k2, k3, k4, k5, k6, k7, k8, k9, k10, k11, k15, k16, k20, k32, k33, k39, k40, k43, k44, k45, k48, k49, k50, k51, k52, k57, k59, k60, k63, k64, k80, k97, k100, k101, k108, k112, k114, k117, k126, k130, k650, k100000, k1000000, ii_add, ii_sub, ii_neg, ii_mul, ii_lt, ii_le, ii_eq, if_true, if_false, if_pos, if_neg, gI_0, gI_1, gI_2, gI_4, gI_7, gI_15, gI_59, gI_61, gI_62, gI_66, gI_68, gI_71, gI_72, gR_0_0, gR_0_1, gR_0_3, gR_0_4, gR_0_5, gR_0_6, gR_0_7, gR_0_8, gR_1_0, gR_1_1, gR_1_2, gR_2_0, gR_4_0, gR_4_1, gR_15_0, gR_59_0, gR_61_0, gR_61_1, gR_61_2, gR_62_0, gR_62_1, gR_62_2, gR_66_0, gR_66_1, gR_68_0, gR_68_1, gR_71_0, gR_72_0, ld_3, ld_5, ld_6, ld_60, ld_63, ld_64, ld_65, ld_67, ld_69, ld_70, ld_73, st_3, st_5, st_6, st_60, st_63, st_64, st_65, st_67, st_69, st_70, st_73, aL_3, aL_5, aL_6, aL_60, aL_63, aL_64, aL_65, aL_67, aL_69, aL_70, aL_73, pI_0, pI_1, pI_2, pI_4, pI_7, pI_15, pI_59, pI_61, pI_62, pI_66, pI_68, pI_71, pI_72, ld_16, aL_16, if_pos o0, hc]
theorem cTakeLast (hA : AW A) (hC : CI μ.1 A) (hf : 0 < A.v 6) : CS (fX10_takeLast oS μ 0) μ (.inl (ii (A.v 6 - 1))) (chg A (upI (upI (upI A.v 6 (A.v 6 - 1)) (50 + 2 * (A.v 6 - 1)) 0) (50 + 2 * (A.v 6 - 1) + 1) 0)) := by
  have g6 := wf_6 hA.1
  have hc := rs_k hC.1
  obtain ⟨m1, i1, i2, i3⟩ := cpush hA hC
  have hc1 : m1 4 2 = ii (A.v 6) := rs_k i3.1
  refine ⟨u2 m1 4 2 (ii (A.v 6 - 1)), ?_, CI_chg i2 i3 (fun b h7 h8 => by simp (disch := omega) only [u2_offr]) (RS_slast i3.1 hA.1 hf)⟩
  unfold fX10_takeLast bX10_takeLast
  simp (disch := omega) only [Option.bind_some, km1, k0, k1, k2, k3, k4, k5, k6, k7, k8, k9, k10, k11, k15, k16, k20, k32, k33, k39, k40, k43, k44, k45, k48, k49, k50, k51, k52, k57, k59, k60, k63, k64, k80, k97, k100, k101, k108, k112, k114, k117, k126, k130, k650, k100000, k1000000, ii_add, ii_sub, ii_neg, ii_mul, ii_lt, ii_le, ii_eq, if_true, if_false, if_pos, if_neg, gI_0, gI_1, gI_2, gI_4, gI_7, gI_15, gI_59, gI_61, gI_62, gI_66, gI_68, gI_71, gI_72, gR_0_0, gR_0_1, gR_0_3, gR_0_4, gR_0_5, gR_0_6, gR_0_7, gR_0_8, gR_1_0, gR_1_1, gR_1_2, gR_2_0, gR_4_0, gR_4_1, gR_15_0, gR_59_0, gR_61_0, gR_61_1, gR_61_2, gR_62_0, gR_62_1, gR_62_2, gR_66_0, gR_66_1, gR_68_0, gR_68_1, gR_71_0, gR_72_0, ld_3, ld_5, ld_6, ld_60, ld_63, ld_64, ld_65, ld_67, ld_69, ld_70, ld_73, st_3, st_5, st_6, st_60, st_63, st_64, st_65, st_67, st_69, st_70, st_73, aL_3, aL_5, aL_6, aL_60, aL_63, aL_64, aL_65, aL_67, aL_69, aL_70, aL_73, pI_0, pI_1, pI_2, pI_4, pI_7, pI_15, pI_59, pI_61, pI_62, pI_66, pI_68, pI_71, pI_72, ld_16, aL_16, if_pos o0, hc, i1, hc1, u2_at]
