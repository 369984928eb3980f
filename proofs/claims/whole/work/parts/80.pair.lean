/-! class and reference side by side -/
variable {μ : mMm} {A A' : AS} {w x : Int} {x4 : Int32} {cx : Nat} {K : mMm → Nat → Nat → Nat → Nat → Int32 → Option (Int32 × mSh × mMm × Nat)}
theorem st83 {m : Nat → Nat → Int32} {l : Nat → Nat → Int64} {y : Int64} : stL oS (m, l) 83 (0 : Int32) y = some (m, u2 l 83 0 y) := if_pos ⟨o83, by rw [n83]; decide⟩
theorem ld83 {m : Nat → Nat → Int32} {l : Nat → Nat → Int64} : ldL oS (m, l) 83 (0 : Int32) = some (l 83 0) := if_pos ⟨o83, by rw [n83]; decide⟩
theorem lgc (y : Int64) : lg_cmp y y = 0 := by simp [lg_cmp]
theorem thr {m : Nat → Nat → Int32} {l : Nat → Nat → Int64} (h : m 74 11 = ii w) : fX11_thrown oS (m, l) 74 = some (ii w) := by
  unfold fX11_thrown bX11_thrown
  rw [if_pos o74, gI_74, Option.bind_some]
  exact congrArg some h
def TP (F : Option (Int32 × mMm × Nat)) (G : mMm → Option (Int32 × mMm)) : Prop := ∃ (w : Int) (m1 : Nat → Nat → Int32) (l1 : Nat → Nat → Int64) (z : Nat) (x : Int) (m2 : Nat → Nat → Int32) (A' : AS), F = some (ii w, (m1, l1), z) ∧ z ≤ 1 ∧ (0 ≤ w ∧ w ≤ 2) ∧ G (m1, l1) = some (ii x, (m2, l1)) ∧ m2 74 11 = ii w ∧ (w = 0 → l1 83 0 = lo x) ∧ AW A' ∧ CI m2 A' ∧ RI m2 A'
def GO (f : Option (Int32 × mSh × mMm × Nat)) (K : mMm → Nat → Nat → Nat → Nat → Int32 → Option (Int32 × mSh × mMm × Nat)) (cx : Nat) (x4 : Int32) : Prop := ∃ (A' : AS) (μ' : mMm) (cx' : Nat), f = K μ' cx' 0 74 83 (x4 + (3 : Int32)) ∧ cx' ≤ cx + 1 ∧ AW A' ∧ CI μ'.1 A' ∧ RI μ'.1 A'
theorem CS_map {f : Option (Int32 ⊕ Nat)} {r : Int32 ⊕ Nat} (hC : CI μ.1 A) (hf : f = some r) : CS (f.map fun x => (x, μ)) μ r A := CS_no hC (by rw [hf]; rfl)
theorem RI_h {m m1 : Nat → Nat → Int32} (hI : RI m A) (h : ∀ a, 74 ≤ a → m1 a = m a) : RI m1 A := RI_fr (fun b hb => h b (by omega)) (fun k hk => by rw [h 74 (by omega)]) hI
theorem CI_l {m m1 : Nat → Nat → Int32} (hC : CI m A) (h : ∀ a, a < 74 → m1 a = m a) : CI m1 A := CI_fr (fun b hb => h b (by omega)) hC
theorem hTry_l {v : Int32} {m : mMm} {kn : Int32 → mMm → Option (Int32 × mMm × Nat)} {kx : Nat → mMm → Option (Int32 × mMm × Nat)} : hTry (Sum.inl v, m) kn kx = kn v m := rfl
theorem hTry_r {E : Nat} {m : mMm} {kn : Int32 → mMm → Option (Int32 × mMm × Nat)} {kx : Nat → mMm → Option (Int32 × mMm × Nat)} : hTry (Sum.inr E, m) kn kx = kx E m := rfl
theorem TP_ok {F : Option ((Int32 ⊕ Nat) × mMm)} {G : mMm → Option (Int32 × mMm)} {kx : Nat → mMm → Option (Int32 × mMm × Nat)} (hI : RI μ.1 A) (hW : AW A') (hS : CS F μ (.inl (ii x)) A') (hG : ∀ μ' : mMm, RI μ'.1 A → RV (G μ') μ' 0 x A') : TP (F.bind fun r => hTry r (fun v1 m1 => (stL oS m1 83 (0 : Int32) v1.toInt64).bind fun m1 => some ((0 : Int32), m1, 0)) kx) G := by
  obtain ⟨m1, h1, h2, h3⟩ := hS
  obtain ⟨m2, g1, g2, g3, g4⟩ := hG (m1, u2 μ.2 83 0 (lo x)) (RI_h hI h2)
  refine ⟨0, m1, u2 μ.2 83 0 (lo x), 0, x, m2, A', ?_, by omega, by omega, g1, g3, fun _ => u2_same, hW, CI_l h3 g2, g4⟩
  rw [h1, Option.bind_some, hTry_l, st83, Option.bind_some, lo_eq, k0]
theorem TP_no {F : Option ((Int32 ⊕ Nat) × mMm)} {G : mMm → Option (Int32 × mMm)} {E : Nat} {kn : Int32 → mMm → Option (Int32 × mMm × Nat)} {kx : Nat → mMm → Option (Int32 × mMm × Nat)} (hI : RI μ.1 A) (hW : AW A) (hx : ∀ m1, kx E m1 = some (ii w, m1, 1)) (hw : 1 ≤ w ∧ w ≤ 2) (hS : CS F μ (.inr E) A) (hG : ∀ μ' : mMm, RI μ'.1 A → RV (G μ') μ' w 0 A) : TP (F.bind fun r => hTry r kn kx) G := by
  obtain ⟨m1, h1, h2, h3⟩ := hS
  obtain ⟨m2, g1, g2, g3, g4⟩ := hG (m1, μ.2) (RI_h hI h2)
  refine ⟨w, m1, μ.2, 1, 0, m2, A, ?_, by omega, by omega, g1, g3, fun hh => by omega, hW, CI_l h3 g2, g4⟩
  rw [h1, Option.bind_some, hTry_r]
  exact hx _
theorem bodyT {F : Option (Int32 × mMm × Nat)} {G : mMm → Option (Int32 × mMm)} (h : TP F G) : GO (F.bind fun r8 => (G r8.2.1).bind fun r10 => (fX11_thrown oS r10.2 74).bind fun v11 => if v11 = r8.1 then (if r8.1 = 0 then ((ldL oS r10.2 83 (0 : Int32)).bind fun v12 => if (lg_cmp v12 r10.1.toInt64) = 0 then (K r10.2 (cx + r8.2.2) 0 74 83 (x4 + (3 : Int32))) else (some ((0 : Int32), oS, r10.2, cx + r8.2.2))) else (K r10.2 (cx + r8.2.2) 0 74 83 (x4 + (3 : Int32)))) else (some ((0 : Int32), oS, r10.2, cx + r8.2.2))) K cx x4 := by
  obtain ⟨w, m1, l1, z, x, m2, A', h1, h2, h3, h4, h5, h6, h7, h8, h9⟩ := h
  refine ⟨A', (m2, l1), cx + z, ?_, by omega, h7, h8, h9⟩
  rw [h1, Option.bind_some]
  dsimp only
  rw [h4, Option.bind_some]
  dsimp only
  rw [thr h5, Option.bind_some, if_pos rfl]
  by_cases hw : w = 0
  · rw [if_pos (show ii w = 0 by rw [hw]; rfl), ld83, Option.bind_some, h6 hw, lo_eq, if_pos (lgc _)]
  · rw [if_neg (show ¬ ii w = 0 from fun hh => hw ((ii_eq (by omega) (by omega) (by omega) (by omega)).mp (hh.trans k0)))]
theorem bodyP {F : Option (Int32 × mMm)} {G : mMm → Option (Int32 × mMm)} (hI : RI μ.1 A) (hW : AW A') (hV : CV F μ x A') (hG : ∀ μ' : mMm, RI μ'.1 A → RV (G μ') μ' 0 x A') : GO (F.bind fun r21 => (G r21.2).bind fun r22 => if r21.1 = r22.1 then (K r22.2 cx 0 74 83 (x4 + (3 : Int32))) else (some ((0 : Int32), oS, r22.2, cx))) K cx x4 := by
  obtain ⟨m1, h1, h2, h3⟩ := hV
  obtain ⟨m2, g1, g2, g3, g4⟩ := hG (m1, μ.2) (RI_h hI h2)
  refine ⟨A', (m2, μ.2), cx, ?_, by omega, hW, CI_l h3 g2, g4⟩
  rw [h1, Option.bind_some]
  dsimp only
  rw [g1, Option.bind_some, if_pos rfl]
theorem bodyQ {F : Option Int32} {G : Option (Int32 × mMm)} (hW : AW A) (hC : CI μ.1 A) (hF : F = some (ii x)) (hG : RV G μ 0 x A) : GO (F.bind fun v91 => G.bind fun r92 => if v91 = r92.1 then (K r92.2 cx 0 74 83 (x4 + (3 : Int32))) else (some ((0 : Int32), oS, r92.2, cx))) K cx x4 := by
  obtain ⟨m2, g1, g2, g3, g4⟩ := hG
  refine ⟨A, (m2, μ.2), cx, ?_, by omega, hW, CI_l hC g2, g4⟩
  rw [hF, Option.bind_some, g1, Option.bind_some, if_pos rfl]
/-- a call that answers true or false, and may throw -/
theorem bodyR (hA : AW A) (hC : CI μ.1 A) (hI : RI μ.1 A) (p : Int32) : GO ((fL_isRepeat oS μ 0 p 83).bind fun r136 => (fX11_isRepeat oS r136.2.1 74 p).bind fun r138 => (fX11_thrown oS r138.2 74).bind fun v139 => if v139 = r136.1 then (if r136.1 = 0 then ((ldL oS r138.2 83 (0 : Int32)).bind fun v140 => if r138.1 = 0 then (if (lg_cmp v140 (0 : Int64)) = 0 then (K r138.2 (cx + r136.2.2) 0 74 83 (x4 + (3 : Int32))) else (some ((0 : Int32), oS, r138.2, cx + r136.2.2))) else (if (lg_cmp v140 (1 : Int64)) = 0 then (K r138.2 (cx + r136.2.2) 0 74 83 (x4 + (3 : Int32))) else (some ((0 : Int32), oS, r138.2, cx + r136.2.2)))) else (K r138.2 (cx + r136.2.2) 0 74 83 (x4 + (3 : Int32)))) else (some ((0 : Int32), oS, r138.2, cx + r136.2.2))) K cx x4 := by
  obtain ⟨q, rfl, h0, h1⟩ := ii_all p
  by_cases c : 0 ≤ q ∧ q < A.v 6
  · have r := cIsRepeat hA hC c
    obtain ⟨m2, g1, g2, g3, g4⟩ := rIsRepeat (μ := (μ.1, u2 μ.2 83 0 (tr (tkD A.v q)))) hA hI c
    have hF : fL_isRepeat oS μ 0 (ii q) 83 = some ((0 : Int32), (μ.1, u2 μ.2 83 0 (tr (tkD A.v q))), 0) := by
      unfold fL_isRepeat lL_isRepeat_15
      rw [r, Option.map_some, Option.bind_some, hTry_l]
      by_cases hd : tkD A.v q = 0
      · have q0 : tr (tkD A.v q) = 0 := if_pos hd
        rw [if_pos hd, q0, if_pos (show ii 0 = (0 : Int32) from k0.symm), st83, Option.bind_some]
      · have q0 : tr (tkD A.v q) = 1 := if_neg hd
        rw [if_neg hd, q0, if_neg (show ¬ ii 1 = (0 : Int32) by decide), st83, Option.bind_some]
    refine ⟨A, (m2, u2 μ.2 83 0 (tr (tkD A.v q))), cx, ?_, by omega, hA, CI_l hC g2, g4⟩
    rw [hF, Option.bind_some]
    dsimp only
    rw [g1, Option.bind_some]
    dsimp only
    rw [thr g3, Option.bind_some, if_pos (show ii 0 = (0 : Int32) from k0.symm), if_pos (show (0 : Int32) = 0 from rfl), ld83, Option.bind_some, u2_same]
    by_cases hd : tkD A.v q = 0
    · have q0 : tr (tkD A.v q) = 0 := if_pos hd
      rw [if_pos hd, if_pos (show ii 0 = (0 : Int32) from k0.symm), q0, if_pos (lgc _), Nat.add_zero]
    · have q0 : tr (tkD A.v q) = 1 := if_neg hd
      rw [if_neg hd, if_neg (show ¬ ii 1 = (0 : Int32) by decide), q0, if_pos (lgc _), Nat.add_zero]
  · have r := cIsRepeat_2 hA hC h0 h1 c
    obtain ⟨m2, g1, g2, g3, g4⟩ := rIsRepeat_2 (μ := μ) hA hI h0 h1 c
    have hF : fL_isRepeat oS μ 0 (ii q) 83 = some ((1 : Int32), μ, 1) := by
      unfold fL_isRepeat
      rw [r, Option.map_some, Option.bind_some, hTry_r]
      rfl
    refine ⟨A, (m2, μ.2), cx + 1, ?_, by omega, hA, CI_l hC g2, g4⟩
    rw [hF, Option.bind_some]
    dsimp only
    rw [g1, Option.bind_some]
    dsimp only
    rw [thr g3, Option.bind_some, if_pos (show ii 1 = (1 : Int32) from k1.symm), if_neg (show ¬ (1 : Int32) = 0 by decide)]
theorem bodyS (hA : AW A) (hC : CI μ.1 A) (hI : RI μ.1 A) : GO ((fX10_packedShare oS μ 0).bind fun v225 => (fX11_packedShare oS μ 74).bind fun r226 => if (Op.cmpValue (FP.dcmp v225 r226.1) .l) = 0 then (K r226.2 cx 0 74 83 (x4 + (3 : Int32))) else (if (Op.cmpValue (FP.dcmp v225 v225) .l) = 0 then (some ((0 : Int32), oS, r226.2, cx)) else (if (Op.cmpValue (FP.dcmp r226.1 r226.1) .l) = 0 then (some ((0 : Int32), oS, r226.2, cx)) else (K r226.2 cx 0 74 83 (x4 + (3 : Int32)))))) K cx x4 := by
  obtain ⟨c, e, hD, _⟩ := shr_DV hA.1
  have q : FP.dcmp (shr A.v) (shr A.v) = some .eq := FP.Core.dcmp_self (DV_ne hD)
  refine ⟨A, (u2 μ.1 74 11 (ii 0), μ.2), cx, ?_, by omega, hA, CI_l hC (fun a ha => by simp (disch := omega) only [u2_offr]), RI_w hI⟩
  rw [cShare hA hC, Option.bind_some, rPackedShare hA hI, Option.bind_some]
  dsimp only
  rw [q, if_pos (show Op.cmpValue (some .eq) .l = 0 from rfl)]
theorem bodyD (hA : AW A) (hC : CI μ.1 A) (hI : RI μ.1 A) : GO ((fX10_digest oS μ 0).bind fun r227 => (fX11_digest oS r227.2 74).bind fun r228 => if (lg_cmp r227.1 r228.1) = 0 then (K r228.2 cx 0 74 83 (x4 + (3 : Int32))) else (some ((0 : Int32), oS, r228.2, cx))) K cx x4 := by
  obtain ⟨m1, h1, h2, h3⟩ := cDigest hA hC
  obtain ⟨m2, l2, g1, g2, g3⟩ := rDigest (μ := (m1, μ.2)) hA (RI_h hI h2)
  refine ⟨A, (m2, l2), cx, ?_, by omega, hA, CI_l h3 g2, g3⟩
  rw [h1, Option.bind_some]
  dsimp only
  rw [g1, Option.bind_some]
  dsimp only
  rw [if_pos (lgc _)]
theorem AW_app {q : Int} (hA : AW A) (c : 33 ≤ q ∧ q ≤ 126) (c2 : A.b < 60) : AW (A.sb (A.b + 1) (upI A.Y A.b q)) := by
  have hb := hA.2.2.2.2
  refine AW_sb hA (by omega) (fun j h0 h1 => ?_)
  by_cases hj : j = A.b
  · rw [upI_at hj]
    exact c
  · rw [upI_n hj]
    exact hb.2 j h0 (by omega)
