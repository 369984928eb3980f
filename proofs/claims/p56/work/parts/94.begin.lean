/-! the law, from its start on -/
theorem zero_RQ {S : mSh} {μ : mMm} (h : mN S = 77) : RQ (nMm S μ).1 (fun _ => 0) := fun j _ _ => if_pos h.symm
theorem start_S : LSh (nSh (nSh (nSh (nSh oS 12 40 40) 12 40 40) 12 40 40) 12 7 7) := by
  have c1 := nSh_new (S := oS) (c := 12) (n := 40) (t := 40)
  have c2 := nSh_new (S := nSh oS 12 40 40) (c := 12) (n := 40) (t := 40)
  have c3 := nSh_new (S := nSh (nSh oS 12 40 40) 12 40 40) (c := 12) (n := 40) (t := 40)
  have c4 := nSh_new (S := nSh (nSh (nSh oS 12 40 40) 12 40 40) 12 40 40) (c := 12) (n := 7) (t := 7)
  have h1 : mN (nSh oS 12 40 40) = 75 := by rw [nSh_n, oMN.2.1]
  have h2 : mN (nSh (nSh oS 12 40 40) 12 40 40) = 76 := by rw [nSh_n, h1]
  have h3 : mN (nSh (nSh (nSh oS 12 40 40) 12 40 40) 12 40 40) = 77 := by rw [nSh_n, h2]
  have h4 : mN (nSh (nSh (nSh (nSh oS 12 40 40) 12 40 40) 12 40 40) 12 7 7) = 78 := by rw [nSh_n, h3]
  rw [oMN.2.1] at c1
  rw [h1] at c2
  rw [h2] at c3
  rw [h3] at c4
  exact ⟨mPf_new (mPf_new (mPf_new (mPf_new mPf_rf))), by rw [h4]; exact Nat.le_refl _, nSh_lk (nSh_lk (nSh_lk c1)), nSh_lk (nSh_lk c2), nSh_lk c3, c4⟩
theorem start_I : LI (nSh (nSh (nSh (nSh oS 12 40 40) 12 40 40) 12 40 40) 12 7 7) (u2 (u2 (u2 (u2 (u2 (nMm (nSh (nSh (nSh oS 12 40 40) 12 40 40) 12 40 40) (nMm (nSh (nSh oS 12 40 40) 12 40 40) (nMm (nSh oS 12 40 40) (nMm oS oM)))).1 77 (1 : Int).toNat (ii 16)) 77 (2 : Int).toNat (ii 3)) 77 (3 : Int).toNat (ii 8)) 77 (4 : Int).toNat (ii 3)) 77 (5 : Int).toNat (ii 5)) A0 := by
  have h0 : mN oS = 74 := oMN.2.1
  have h1 : mN (nSh oS 12 40 40) = 75 := by rw [nSh_n, oMN.2.1]
  have h2 : mN (nSh (nSh oS 12 40 40) 12 40 40) = 76 := by rw [nSh_n, h1]
  have h3 : mN (nSh (nSh (nSh oS 12 40 40) 12 40 40) 12 40 40) = 77 := by rw [nSh_n, h2]
  have q0 := zero_RQ (μ := nMm (nSh (nSh oS 12 40 40) 12 40 40) (nMm (nSh oS 12 40 40) (nMm oS oM))) h3
  have q1 := RQ_st (j0 := 1) (y := 16) (w := fun j => if j = 1 then 16 else 0) q0 (by omega) (if_pos rfl) (fun j _ _ jn => if_neg jn)
  have q2 := RQ_st (j0 := 2) (y := 3) (w := fun j => if j = 1 then 16 else if j = 2 then 3 else 0) q1 (by omega) rfl (fun j _ _ jn => by
    show (if j = 1 then (16 : Int) else if j = 2 then 3 else 0) = if j = 1 then 16 else 0
    rw [if_neg jn])
  have q3 := RQ_st (j0 := 3) (y := 8) (w := fun j => if j = 1 then 16 else if j = 2 then 3 else if j = 3 then 8 else 0) q2 (by omega) rfl (fun j _ _ jn => by
    show (if j = 1 then (16 : Int) else if j = 2 then 3 else if j = 3 then 8 else 0) = if j = 1 then 16 else if j = 2 then 3 else 0
    rw [if_neg jn])
  have q4 := RQ_st (j0 := 4) (y := 3) (w := fun j => if j = 1 then 16 else if j = 2 then 3 else if j = 3 then 8 else if j = 4 then 3 else 0) q3 (by omega) rfl (fun j _ _ jn => by
    show (if j = 1 then (16 : Int) else if j = 2 then 3 else if j = 3 then 8 else if j = 4 then 3 else 0) = if j = 1 then 16 else if j = 2 then 3 else if j = 3 then 8 else 0
    rw [if_neg jn])
  have q5 := RQ_st (j0 := 5) (y := 5) (w := A0.v) q4 (by omega) rfl (fun j _ _ jn => by
    show (if j = 1 then (16 : Int) else if j = 2 then 3 else if j = 3 then 8 else if j = 4 then 3 else if j = 5 then 5 else 0) = if j = 1 then 16 else if j = 2 then 3 else if j = 3 then 8 else if j = 4 then 3 else 0
    rw [if_neg jn])
  refine LI_mk (m1 := oM.1) start_S AW_0 CI_0 (fun a ha => ?_) q5 (fun k k0' k1' => ?_) (fun k k0' k1' => ?_)
  · refine (u2_offr (by omega)).trans ((u2_offr (by omega)).trans ((u2_offr (by omega)).trans ((u2_offr (by omega)).trans ((u2_offr (by omega)).trans ?_))))
    exact (nMm_1 (by omega)).trans ((nMm_1 (by omega)).trans ((nMm_1 (by omega)).trans (nMm_1 (by omega))))
  · have k1' : k < 0 := k1'
    omega
  · have k1' : k < 0 := k1'
    omega
set_option maxRecDepth 100000 in
theorem sv1 : mvk oS [some (.ref 1000), some (.ref 0), none, none, none, none, none, none, none, none, none, none, none, none] [] = true := by decide +kernel
set_option maxRecDepth 100000 in
theorem sv2 : mvk (nSh oS 12 40 40) [some (.ref 1000), some (.ref 0), some (.ref (mN oS)), none, none, none, none, none, none, none, none, none, none, none] [] = true := by decide +kernel
set_option maxRecDepth 100000 in
theorem sv3 : mvk (nSh (nSh oS 12 40 40) 12 40 40) [some (.ref 1000), some (.ref 0), some (.ref (mN oS)), some (.ref (mN (nSh oS 12 40 40))), none, none, none, none, none, none, none, none, none, none] [] = true := by decide +kernel
set_option maxRecDepth 100000 in
theorem sv4 : mvk (nSh (nSh (nSh oS 12 40 40) 12 40 40) 12 40 40) [some (.ref 1000), some (.ref 0), some (.ref (mN oS)), some (.ref (mN (nSh oS 12 40 40))), some (.ref (mN (nSh (nSh oS 12 40 40) 12 40 40))), none, none, none, none, none, none, none, none, none] [] = true := by decide +kernel
theorem law_eq (L : Nat) (xs : Nat → Int32) : fL_law L xs mS0 mM0 0 = lL_law_60 L xs FU (nSh (nSh (nSh (nSh oS 12 40 40) 12 40 40) 12 40 40) 12 7 7) (u2 (u2 (u2 (u2 (u2 (nMm (nSh (nSh (nSh oS 12 40 40) 12 40 40) 12 40 40) (nMm (nSh (nSh oS 12 40 40) 12 40 40) (nMm (nSh oS 12 40 40) (nMm oS oM)))).1 77 (1 : Int).toNat (ii 16)) 77 (2 : Int).toNat (ii 3)) 77 (3 : Int).toNat (ii 8)) 77 (4 : Int).toNat (ii 3)) 77 (5 : Int).toNat (ii 5), (nMm (nSh (nSh (nSh oS 12 40 40) 12 40 40) 12 40 40) (nMm (nSh (nSh oS 12 40 40) 12 40 40) (nMm (nSh oS 12 40 40) (nMm oS oM)))).2) 0 0 74 75 76 77 (ii 0) := by
  have h0 : mN oS = 74 := oMN.2.1
  have h1 : mN (nSh oS 12 40 40) = 75 := by rw [nSh_n, oMN.2.1]
  have h2 : mN (nSh (nSh oS 12 40 40) 12 40 40) = 76 := by rw [nSh_n, h1]
  have h3 : mN (nSh (nSh (nSh oS 12 40 40) 12 40 40) 12 40 40) = 77 := by rw [nSh_n, h2]
  obtain ⟨-, -, -, -, -, o77, n77⟩ := start_S
  unfold fL_law
  rw [oN1, Option.bind_some, oMN.1, if_pos oK1, oR2_eq, Option.bind_some]
  show (aN oS oM _ [] 12 40 40).bind _ = _
  rw [aN_at sv1 (by omega), Option.bind_some]
  show (aN (nSh oS 12 40 40) (nMm oS oM) [some (.ref 1000), some (.ref 0), some (.ref (mN oS)), none, none, none, none, none, none, none, none, none, none, none] [] 12 40 40).bind _ = _
  rw [aN_at sv2 (by omega), Option.bind_some]
  show (aN (nSh (nSh oS 12 40 40) 12 40 40) (nMm (nSh oS 12 40 40) (nMm oS oM)) [some (.ref 1000), some (.ref 0), some (.ref (mN oS)), some (.ref (mN (nSh oS 12 40 40))), none, none, none, none, none, none, none, none, none, none] [] 12 40 40).bind _ = _
  rw [aN_at sv3 (by omega), Option.bind_some]
  show (aN (nSh (nSh (nSh oS 12 40 40) 12 40 40) 12 40 40) (nMm (nSh (nSh oS 12 40 40) 12 40 40) (nMm (nSh oS 12 40 40) (nMm oS oM))) [some (.ref 1000), some (.ref 0), some (.ref (mN oS)), some (.ref (mN (nSh oS 12 40 40))), some (.ref (mN (nSh (nSh oS 12 40 40) 12 40 40))), none, none, none, none, none, none, none, none, none] [] 12 7 7).bind _ = _
  rw [aN_at sv4 (by omega), Option.bind_some]
  generalize nMm (nSh (nSh (nSh oS 12 40 40) 12 40 40) 12 40 40) (nMm (nSh (nSh oS 12 40 40) 12 40 40) (nMm (nSh oS 12 40 40) (nMm oS oM))) = M4
  show (stI (nSh (nSh (nSh (nSh oS 12 40 40) 12 40 40) 12 40 40) 12 7 7) M4 (mN (nSh (nSh (nSh oS 12 40 40) 12 40 40) 12 40 40)) 1 16).bind (fun m7 => (stI (nSh (nSh (nSh (nSh oS 12 40 40) 12 40 40) 12 40 40) 12 7 7) m7 (mN (nSh (nSh (nSh oS 12 40 40) 12 40 40) 12 40 40)) 2 3).bind fun m8 => (stI (nSh (nSh (nSh (nSh oS 12 40 40) 12 40 40) 12 40 40) 12 7 7) m8 (mN (nSh (nSh (nSh oS 12 40 40) 12 40 40) 12 40 40)) 3 8).bind fun m9 => (stI (nSh (nSh (nSh (nSh oS 12 40 40) 12 40 40) 12 40 40) 12 7 7) m9 (mN (nSh (nSh (nSh oS 12 40 40) 12 40 40) 12 40 40)) 4 3).bind fun m10 => (stI (nSh (nSh (nSh (nSh oS 12 40 40) 12 40 40) 12 40 40) 12 7 7) m10 (mN (nSh (nSh (nSh oS 12 40 40) 12 40 40) 12 40 40)) 5 5).bind fun m11 => lL_law_60 L xs FU (nSh (nSh (nSh (nSh oS 12 40 40) 12 40 40) 12 40 40) 12 7 7) m11 0 0 (mN oS) (mN (nSh oS 12 40 40)) (mN (nSh (nSh oS 12 40 40) 12 40 40)) (mN (nSh (nSh (nSh oS 12 40 40) 12 40 40) 12 40 40)) 0) = _
  rw [h0, h1, h2, h3]
  generalize nSh (nSh (nSh (nSh oS 12 40 40) 12 40 40) 12 40 40) 12 7 7 = S4 at *
  simp (disch := omega) only [Option.bind_some, km102, km101, km10, km1, k0, k1, k2, k3, k4, k5, k6, k7, k8, k9, k10, k11, k12, k13, k14, k15, k16, k17, k20, k22, k31, k32, k33, k39, k40, k43, k44, k45, k48, k49, k50, k51, k52, k57, k59, k60, k63, k64, k80, k90, k97, k100, k101, k108, k112, k114, k117, k126, k130, k650, k1000, k100000, k1000000, k15485863, k32452867, k2147483647, ii_add, ii_sub, ii_neg, ii_mul, ii_lt, ii_le, ii_eq, if_true, if_false, if_pos, if_neg, stI_at o77 n77]
theorem law_pure (L : Nat) (xs : Nat → Int32) (hL : L ≤ 260) : ∃ S μ cx, fL_law L xs mS0 mM0 0 = some (1, S, μ, cx) ∧ mN S + cx ≤ 600172 ∧ mTot S + 41 * cx ≤ 7300668 := by
  have h0 : mN oS = 74 := oMN.2.1
  have ht : mTot oS = 1409 := oMN.2.2
  obtain ⟨S, μ, cx, h1, h2, h3⟩ := law_rounds (xs := xs) hL 90 FU 0 (nSh (nSh (nSh (nSh oS 12 40 40) 12 40 40) 12 40 40) 12 7 7) (u2 (u2 (u2 (u2 (u2 (nMm (nSh (nSh (nSh oS 12 40 40) 12 40 40) 12 40 40) (nMm (nSh (nSh oS 12 40 40) 12 40 40) (nMm (nSh oS 12 40 40) (nMm oS oM)))).1 77 (1 : Int).toNat (ii 16)) 77 (2 : Int).toNat (ii 3)) 77 (3 : Int).toNat (ii 8)) 77 (4 : Int).toNat (ii 3)) 77 (5 : Int).toNat (ii 5), (nMm (nSh (nSh (nSh oS 12 40 40) 12 40 40) 12 40 40) (nMm (nSh (nSh oS 12 40 40) 12 40 40) (nMm (nSh oS 12 40 40) (nMm oS oM)))).2) 0 A0 (by omega) (by decide) (by omega) start_I (by rw [nSh_n, nSh_n, nSh_n, nSh_n, h0]; decide) (by rw [nSh_t, nSh_t, nSh_t, nSh_t, ht]; decide) (by omega)
  exact ⟨S, μ, cx, (law_eq L xs).trans h1, by omega, by omega⟩
