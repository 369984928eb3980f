/-! printed by gen.py: each method as a function of numbers, and that the machine does what it says -/
/-! SlideMillsLaw.law([I)Z -/
noncomputable def lL_law_1048 (k60 : mSh → mMm → Nat → Nat → Nat → Nat → Nat → Nat → Int32 → Option (Int32 × mSh × mMm × Nat)) (L : Nat) (xs : Nat → Int32) (S : mSh) (μ : mMm) (cx : Nat) (x1 : Nat) (x2 : Nat) (x3 : Nat) (x4 : Nat) (x5 : Nat) (x6 : Int32) : Option (Int32 × mSh × mMm × Nat) := k60 S μ cx x1 x2 x3 x4 x5 (x6 + (1 : Int32))
noncomputable def lL_law_988 (k60 : mSh → mMm → Nat → Nat → Nat → Nat → Nat → Nat → Int32 → Option (Int32 × mSh × mMm × Nat)) (L : Nat) (xs : Nat → Int32) (S : mSh) (μ : mMm) (cx : Nat) (x1 : Nat) (x2 : Nat) (x3 : Nat) (x4 : Nat) (x5 : Nat) (x6 : Int32) (x7 : Int32) (x10 : Int32) : Option (Int32 × mSh × mMm × Nat) := if x10 = 0 then (some ((0 : Int32), S, μ, cx)) else ((if mvk S [some (.ref 1000), some (.ref x1), some (.ref x2), some (.ref x3), some (.ref x4), some (.ref x5), some (.int x6), some (.int x7), none, none, none, none, none, none] [] = true then fgt S (fL_sack S μ cx x1 x2 x3 x4 x5) else none).bind fun r16 => if r16.1 = 0 then (some ((0 : Int32), S, r16.2.1, r16.2.2)) else ((dRem x6 (4 : Int32)).bind fun v17 => if v17 = (3 : Int32) then ((fL_text S r16.2.1 x1 x2 x5).bind fun r18 => if r18.1 = 0 then (some ((0 : Int32), S, r18.2, r16.2.2)) else ((fL_low (x7 >>> ((17 : Int32) &&& 31)) (32 : Int32)).bind fun v19 => (if mvk S [some (.ref 1000), some (.ref x1), some (.ref x2), some (.ref x3), some (.ref x4), some (.ref x5), some (.int x6), none, none, none, none, none, none, none] [] = true then fgt S (fL_costsOf S r18.2 r16.2.2 x1 x2 x5 ((1 : Int32) + v19)) else none).bind fun r20 => if r20.1 = 0 then (some ((0 : Int32), S, r20.2.1, r20.2.2)) else (lL_law_1048 k60 L xs S r20.2.1 r20.2.2 x1 x2 x3 x4 x5 x6))) else (lL_law_1048 k60 L xs S r16.2.1 r16.2.2 x1 x2 x3 x4 x5 x6)))
noncomputable def lL_law_987 (k60 : mSh → mMm → Nat → Nat → Nat → Nat → Nat → Nat → Int32 → Option (Int32 × mSh × mMm × Nat)) (L : Nat) (xs : Nat → Int32) (S : mSh) (μ : mMm) (cx : Nat) (x1 : Nat) (x2 : Nat) (x3 : Nat) (x4 : Nat) (x5 : Nat) (x6 : Int32) (x7 : Int32) (x10 : Int32) (t0 : Int32) (t1 : Int32) (t2 : Nat) : Option (Int32 × mSh × mMm × Nat) := (stI S μ t2 t1 t0).bind fun m29 => lL_law_988 k60 L xs S m29 cx x1 x2 x3 x4 x5 x6 x7 x10
noncomputable def lL_law_968 (k60 : mSh → mMm → Nat → Nat → Nat → Nat → Nat → Nat → Int32 → Option (Int32 × mSh × mMm × Nat)) (L : Nat) (xs : Nat → Int32) (S : mSh) (μ : mMm) (cx : Nat) (x1 : Nat) (x2 : Nat) (x3 : Nat) (x4 : Nat) (x5 : Nat) (x6 : Int32) (x7 : Int32) (x9 : Int32) (x10 : Int32) (t0 : Int32) (t1 : Int32) (t2 : Nat) : Option (Int32 × mSh × mMm × Nat) := (stI S μ t2 t1 t0).bind fun m27 => (dRem x9 (2 : Int32)).bind fun v28 => if v28 = 0 then ((ldI S m27 x5 (0 : Int32)).bind fun v30 => lL_law_987 k60 L xs S m27 cx x1 x2 x3 x4 x5 x6 x7 x10 v30 (0 : Int32) x5) else (lL_law_987 k60 L xs S m27 cx x1 x2 x3 x4 x5 x6 x7 x10 (0 : Int32) (0 : Int32) x5)
noncomputable def lL_law_946 (k60 : mSh → mMm → Nat → Nat → Nat → Nat → Nat → Nat → Int32 → Option (Int32 × mSh × mMm × Nat)) (L : Nat) (xs : Nat → Int32) (S : mSh) (μ : mMm) (cx : Nat) (x1 : Nat) (x2 : Nat) (x3 : Nat) (x4 : Nat) (x5 : Nat) (x6 : Int32) (x7 : Int32) (x9 : Int32) (t0 : Int32) : Option (Int32 × mSh × mMm × Nat) := (dRem x9 (2 : Int32)).bind fun v25 => if v25 = 0 then (lL_law_968 k60 L xs S μ cx x1 x2 x3 x4 x5 x6 x7 x9 t0 (0 : Int32) (6 : Int32) x5) else ((ldI S μ x5 (6 : Int32)).bind fun v26 => lL_law_968 k60 L xs S μ cx x1 x2 x3 x4 x5 x6 x7 x9 t0 v26 (6 : Int32) x5)
noncomputable def lL_law_938 (k60 : mSh → mMm → Nat → Nat → Nat → Nat → Nat → Nat → Int32 → Option (Int32 × mSh × mMm × Nat)) (L : Nat) (xs : Nat → Int32) (S : mSh) (μ : mMm) (cx : Nat) (x1 : Nat) (x2 : Nat) (x3 : Nat) (x4 : Nat) (x5 : Nat) (x6 : Int32) (x7 : Int32) (x9 : Int32) (t0 : Int32) (t1 : Int32) : Option (Int32 × mSh × mMm × Nat) := if t1 = t0 then (lL_law_946 k60 L xs S μ cx x1 x2 x3 x4 x5 x6 x7 x9 (1 : Int32)) else (lL_law_946 k60 L xs S μ cx x1 x2 x3 x4 x5 x6 x7 x9 (0 : Int32))
noncomputable def lL_law_919 (k60 : mSh → mMm → Nat → Nat → Nat → Nat → Nat → Nat → Int32 → Option (Int32 × mSh × mMm × Nat)) (L : Nat) (xs : Nat → Int32) (S : mSh) (μ : mMm) (cx : Nat) (x1 : Nat) (x2 : Nat) (x3 : Nat) (x4 : Nat) (x5 : Nat) (x6 : Int32) (x7 : Int32) (x9 : Int32) (t0 : Int32) : Option (Int32 × mSh × mMm × Nat) := (dRem x9 (2 : Int32)).bind fun v23 => if v23 = 0 then ((ldI S μ x5 (6 : Int32)).bind fun v31 => lL_law_938 k60 L xs S μ cx x1 x2 x3 x4 x5 x6 x7 x9 v31 t0) else ((ldI S μ x5 (0 : Int32)).bind fun v24 => lL_law_938 k60 L xs S μ cx x1 x2 x3 x4 x5 x6 x7 x9 v24 t0)
noncomputable def lL_law_884 (k60 : mSh → mMm → Nat → Nat → Nat → Nat → Nat → Nat → Int32 → Option (Int32 × mSh × mMm × Nat)) (L : Nat) (xs : Nat → Int32) (S : mSh) (μ : mMm) (cx : Nat) (x1 : Nat) (x2 : Nat) (x3 : Nat) (x4 : Nat) (x5 : Nat) (x6 : Int32) (x7 : Int32) (x10 : Int32) (t0 : Int32) (t1 : Int32) (t2 : Int32) (t3 : Nat) : Option (Int32 × mSh × mMm × Nat) := (stI S μ t3 t2 (t1 - t0)).bind fun m38 => lL_law_988 k60 L xs S m38 cx x1 x2 x3 x4 x5 x6 x7 x10
noncomputable def lL_law_863 (k60 : mSh → mMm → Nat → Nat → Nat → Nat → Nat → Nat → Int32 → Option (Int32 × mSh × mMm × Nat)) (L : Nat) (xs : Nat → Int32) (S : mSh) (μ : mMm) (cx : Nat) (x1 : Nat) (x2 : Nat) (x3 : Nat) (x4 : Nat) (x5 : Nat) (x6 : Int32) (x7 : Int32) (t0 : Int32) : Option (Int32 × mSh × mMm × Nat) := (ldI S μ x5 (6 : Int32)).bind fun v36 => (ldI S μ x5 (6 : Int32)).bind fun v37 => if v37 = 0 then (lL_law_884 k60 L xs S μ cx x1 x2 x3 x4 x5 x6 x7 t0 (0 : Int32) v36 (6 : Int32) x5) else (lL_law_884 k60 L xs S μ cx x1 x2 x3 x4 x5 x6 x7 t0 (1 : Int32) v36 (6 : Int32) x5)
noncomputable def lL_law_855 (k60 : mSh → mMm → Nat → Nat → Nat → Nat → Nat → Nat → Int32 → Option (Int32 × mSh × mMm × Nat)) (L : Nat) (xs : Nat → Int32) (S : mSh) (μ : mMm) (cx : Nat) (x1 : Nat) (x2 : Nat) (x3 : Nat) (x4 : Nat) (x5 : Nat) (x6 : Int32) (x7 : Int32) (t0 : Int32) (t1 : Int32) : Option (Int32 × mSh × mMm × Nat) := if t1 = t0 then (lL_law_863 k60 L xs S μ cx x1 x2 x3 x4 x5 x6 x7 (1 : Int32)) else (lL_law_863 k60 L xs S μ cx x1 x2 x3 x4 x5 x6 x7 (0 : Int32))
noncomputable def lL_law_821 (k60 : mSh → mMm → Nat → Nat → Nat → Nat → Nat → Nat → Int32 → Option (Int32 × mSh × mMm × Nat)) (L : Nat) (xs : Nat → Int32) (S : mSh) (μ : mMm) (cx : Nat) (x1 : Nat) (x2 : Nat) (x3 : Nat) (x4 : Nat) (x5 : Nat) (x6 : Int32) (x7 : Int32) (x10 : Int32) : Option (Int32 × mSh × mMm × Nat) := lL_law_988 k60 L xs S μ cx x1 x2 x3 x4 x5 x6 x7 x10
noncomputable def lL_law_786 (k60 : mSh → mMm → Nat → Nat → Nat → Nat → Nat → Nat → Int32 → Option (Int32 × mSh × mMm × Nat)) (L : Nat) (xs : Nat → Int32) (S : mSh) (μ : mMm) (cx : Nat) (x1 : Nat) (x2 : Nat) (x3 : Nat) (x4 : Nat) (x5 : Nat) (x6 : Int32) (x7 : Int32) (x11 : Int32) (x12 : Int32) (x13 : Int32) (t0 : Int32) : Option (Int32 × mSh × mMm × Nat) := if x13 = 0 then (lL_law_821 k60 L xs S μ cx x1 x2 x3 x4 x5 x6 x7 t0) else ((ldI S μ x5 (6 : Int32)).bind fun v44 => (stI S μ x3 v44 x11).bind fun m45 => (ldI S m45 x5 (6 : Int32)).bind fun v46 => (stI S m45 x4 v46 x12).bind fun m47 => (ldI S m47 x5 (6 : Int32)).bind fun v48 => (stI S m47 x5 (6 : Int32) (v48 + (1 : Int32))).bind fun m49 => lL_law_821 k60 L xs S m49 cx x1 x2 x3 x4 x5 x6 x7 t0)
noncomputable def lL_law_778 (k60 : mSh → mMm → Nat → Nat → Nat → Nat → Nat → Nat → Int32 → Option (Int32 × mSh × mMm × Nat)) (L : Nat) (xs : Nat → Int32) (S : mSh) (μ : mMm) (cx : Nat) (x1 : Nat) (x2 : Nat) (x3 : Nat) (x4 : Nat) (x5 : Nat) (x6 : Int32) (x7 : Int32) (x11 : Int32) (x12 : Int32) (x13 : Int32) (t0 : Int32) (t1 : Int32) : Option (Int32 × mSh × mMm × Nat) := if t1 = t0 then (lL_law_786 k60 L xs S μ cx x1 x2 x3 x4 x5 x6 x7 x11 x12 x13 (1 : Int32)) else (lL_law_786 k60 L xs S μ cx x1 x2 x3 x4 x5 x6 x7 x11 x12 x13 (0 : Int32))
noncomputable def lL_law_751 (k60 : mSh → mMm → Nat → Nat → Nat → Nat → Nat → Nat → Int32 → Option (Int32 × mSh × mMm × Nat)) (L : Nat) (xs : Nat → Int32) (S : mSh) (μ : mMm) (cx : Nat) (x1 : Nat) (x2 : Nat) (x3 : Nat) (x4 : Nat) (x5 : Nat) (x6 : Int32) (x7 : Int32) (x11 : Int32) (x12 : Int32) (t0 : Int32) : Option (Int32 × mSh × mMm × Nat) := (fL_token S μ x1 x11 x12).bind fun r43 => if t0 = 0 then (lL_law_778 k60 L xs S r43.2.1 (cx + r43.2.2) x1 x2 x3 x4 x5 x6 x7 x11 x12 t0 (-102 : Int32) r43.1) else ((ldI S r43.2.1 x5 (6 : Int32)).bind fun v50 => lL_law_778 k60 L xs S r43.2.1 (cx + r43.2.2) x1 x2 x3 x4 x5 x6 x7 x11 x12 t0 (v50 + (1 : Int32)) r43.1)
noncomputable def lL_law_734 (k60 : mSh → mMm → Nat → Nat → Nat → Nat → Nat → Nat → Int32 → Option (Int32 × mSh × mMm × Nat)) (L : Nat) (xs : Nat → Int32) (S : mSh) (μ : mMm) (cx : Nat) (x1 : Nat) (x2 : Nat) (x3 : Nat) (x4 : Nat) (x5 : Nat) (x6 : Int32) (x7 : Int32) (x11 : Int32) (t0 : Int32) : Option (Int32 × mSh × mMm × Nat) := (ldI S μ x5 (6 : Int32)).bind fun v42 => if (40 : Int32) ≤ v42 then (lL_law_751 k60 L xs S μ cx x1 x2 x3 x4 x5 x6 x7 x11 t0 (0 : Int32)) else (lL_law_751 k60 L xs S μ cx x1 x2 x3 x4 x5 x6 x7 x11 t0 (1 : Int32))
noncomputable def lL_law_708 (k60 : mSh → mMm → Nat → Nat → Nat → Nat → Nat → Nat → Int32 → Option (Int32 × mSh × mMm × Nat)) (L : Nat) (xs : Nat → Int32) (S : mSh) (μ : mMm) (cx : Nat) (x1 : Nat) (x2 : Nat) (x3 : Nat) (x4 : Nat) (x5 : Nat) (x6 : Int32) (x7 : Int32) (x9 : Int32) (t0 : Int32) : Option (Int32 × mSh × mMm × Nat) := if t0 = 0 then ((dRem x9 (4 : Int32)).bind fun v51 => lL_law_734 k60 L xs S μ cx x1 x2 x3 x4 x5 x6 x7 t0 v51) else ((fL_low (x7 >>> ((13 : Int32) &&& 31)) (9 : Int32)).bind fun v41 => lL_law_734 k60 L xs S μ cx x1 x2 x3 x4 x5 x6 x7 t0 ((1 : Int32) + v41))
noncomputable def lL_law_674 (k60 : mSh → mMm → Nat → Nat → Nat → Nat → Nat → Nat → Int32 → Option (Int32 × mSh × mMm × Nat)) (L : Nat) (xs : Nat → Int32) (S : mSh) (μ : mMm) (cx : Nat) (x1 : Nat) (x2 : Nat) (x3 : Nat) (x4 : Nat) (x5 : Nat) (x6 : Int32) (x7 : Int32) (x10 : Int32) (t0 : Int32) (t1 : Int32) (t2 : Nat) : Option (Int32 × mSh × mMm × Nat) := (stI S μ t2 t1 t0).bind fun m55 => lL_law_988 k60 L xs S m55 cx x1 x2 x3 x4 x5 x6 x7 x10
noncomputable def lL_law_635 (k60 : mSh → mMm → Nat → Nat → Nat → Nat → Nat → Nat → Int32 → Option (Int32 × mSh × mMm × Nat)) (L : Nat) (xs : Nat → Int32) : Nat → mSh → mMm → Nat → Nat → Nat → Nat → Nat → Nat → Int32 → Int32 → Int32 → Nat → Int32 → Int32 → Option (Int32 × mSh × mMm × Nat)
  | 0, _, _, _, _, _, _, _, _, _, _, _, _, _, _ => none
  | n + 1, S, μ, cx, x1, x2, x3, x4, x5, x6, x7, x10, x11, x12, x13 => if x12 ≤ x13 then (if 0 ≤ x12 then (lL_law_674 k60 L xs S μ cx x1 x2 x3 x4 x5 x6 x7 x10 x12 (0 : Int32) x5) else ((ldI S μ x5 (0 : Int32)).bind fun v56 => lL_law_674 k60 L xs S μ cx x1 x2 x3 x4 x5 x6 x7 x10 v56 (0 : Int32) x5)) else ((ldI S μ x11 x13).bind fun v57 => (stI S μ x2 x13 v57).bind fun m58 => lL_law_635 k60 L xs n S m58 cx x1 x2 x3 x4 x5 x6 x7 x10 x11 x12 (x13 + (1 : Int32)))
noncomputable def lL_law_630 (k60 : mSh → mMm → Nat → Nat → Nat → Nat → Nat → Nat → Int32 → Option (Int32 × mSh × mMm × Nat)) (L : Nat) (xs : Nat → Int32) (S : mSh) (μ : mMm) (cx : Nat) (x1 : Nat) (x2 : Nat) (x3 : Nat) (x4 : Nat) (x5 : Nat) (x6 : Int32) (x7 : Int32) (x11 : Nat) (x12 : Int32) (t0 : Int32) : Option (Int32 × mSh × mMm × Nat) := lL_law_635 k60 L xs FU S μ cx x1 x2 x3 x4 x5 x6 x7 t0 x11 x12 (0 : Int32)
noncomputable def lL_law_622 (k60 : mSh → mMm → Nat → Nat → Nat → Nat → Nat → Nat → Int32 → Option (Int32 × mSh × mMm × Nat)) (L : Nat) (xs : Nat → Int32) (S : mSh) (μ : mMm) (cx : Nat) (x1 : Nat) (x2 : Nat) (x3 : Nat) (x4 : Nat) (x5 : Nat) (x6 : Int32) (x7 : Int32) (x11 : Nat) (x12 : Int32) (t0 : Int32) (t1 : Int32) : Option (Int32 × mSh × mMm × Nat) := if t1 = t0 then (lL_law_630 k60 L xs S μ cx x1 x2 x3 x4 x5 x6 x7 x11 x12 (1 : Int32)) else (lL_law_630 k60 L xs S μ cx x1 x2 x3 x4 x5 x6 x7 x11 x12 (0 : Int32))
noncomputable def lL_law_576 (k60 : mSh → mMm → Nat → Nat → Nat → Nat → Nat → Nat → Int32 → Option (Int32 × mSh × mMm × Nat)) (L : Nat) (xs : Nat → Int32) (S : mSh) (μ : mMm) (cx : Nat) (x1 : Nat) (x2 : Nat) (x3 : Nat) (x4 : Nat) (x5 : Nat) (x6 : Int32) (x7 : Int32) (t0 : Int32) : Option (Int32 × mSh × mMm × Nat) := lL_law_988 k60 L xs S μ cx x1 x2 x3 x4 x5 x6 x7 t0
noncomputable def lL_law_491 (k60 : mSh → mMm → Nat → Nat → Nat → Nat → Nat → Nat → Int32 → Option (Int32 × mSh × mMm × Nat)) (L : Nat) (xs : Nat → Int32) (S : mSh) (μ : mMm) (cx : Nat) (x1 : Nat) (x2 : Nat) (x3 : Nat) (x4 : Nat) (x5 : Nat) (x6 : Int32) (x7 : Int32) (x9 : Int32) (t0 : Int32) : Option (Int32 × mSh × mMm × Nat) := (dRem x9 (9 : Int32)).bind fun v67 => (stI S μ x5 (4 : Int32) ((1 : Int32) + v67)).bind fun m68 => (fL_low (x7 >>> ((11 : Int32) &&& 31)) (20 : Int32)).bind fun v69 => (stI S m68 x5 (5 : Int32) ((1 : Int32) + v69)).bind fun m70 => lL_law_988 k60 L xs S m70 cx x1 x2 x3 x4 x5 x6 x7 t0
noncomputable def lL_law_490 (k60 : mSh → mMm → Nat → Nat → Nat → Nat → Nat → Nat → Int32 → Option (Int32 × mSh × mMm × Nat)) (L : Nat) (xs : Nat → Int32) (S : mSh) (μ : mMm) (cx : Nat) (x1 : Nat) (x2 : Nat) (x3 : Nat) (x4 : Nat) (x5 : Nat) (x6 : Int32) (x7 : Int32) (x9 : Int32) : Option (Int32 × mSh × mMm × Nat) := lL_law_491 k60 L xs S μ cx x1 x2 x3 x4 x5 x6 x7 x9 (0 : Int32)
noncomputable def lL_law_407 (k60 : mSh → mMm → Nat → Nat → Nat → Nat → Nat → Nat → Int32 → Option (Int32 × mSh × mMm × Nat)) (L : Nat) (xs : Nat → Int32) (S : mSh) (μ : mMm) (cx : Nat) (x1 : Nat) (x2 : Nat) (x3 : Nat) (x4 : Nat) (x5 : Nat) (x6 : Int32) (x7 : Int32) (x9 : Int32) (t0 : Int32) : Option (Int32 × mSh × mMm × Nat) := (dRem x9 (3 : Int32)).bind fun v77 => (stI S μ x5 (2 : Int32) ((2 : Int32) + v77)).bind fun m78 => (fL_low (x7 >>> ((11 : Int32) &&& 31)) (6 : Int32)).bind fun v79 => (stI S m78 x5 (3 : Int32) ((4 : Int32) + v79)).bind fun m80 => lL_law_988 k60 L xs S m80 cx x1 x2 x3 x4 x5 x6 x7 t0
noncomputable def lL_law_406 (k60 : mSh → mMm → Nat → Nat → Nat → Nat → Nat → Nat → Int32 → Option (Int32 × mSh × mMm × Nat)) (L : Nat) (xs : Nat → Int32) (S : mSh) (μ : mMm) (cx : Nat) (x1 : Nat) (x2 : Nat) (x3 : Nat) (x4 : Nat) (x5 : Nat) (x6 : Int32) (x7 : Int32) (x9 : Int32) : Option (Int32 × mSh × mMm × Nat) := lL_law_407 k60 L xs S μ cx x1 x2 x3 x4 x5 x6 x7 x9 (0 : Int32)
noncomputable def lL_law_339 (k60 : mSh → mMm → Nat → Nat → Nat → Nat → Nat → Nat → Int32 → Option (Int32 × mSh × mMm × Nat)) (L : Nat) (xs : Nat → Int32) (S : mSh) (μ : mMm) (cx : Nat) (x1 : Nat) (x2 : Nat) (x3 : Nat) (x4 : Nat) (x5 : Nat) (x6 : Int32) (x7 : Int32) (x9 : Int32) (t0 : Int32) : Option (Int32 × mSh × mMm × Nat) := (dRem x9 (32 : Int32)).bind fun v87 => (stI S μ x5 (1 : Int32) ((1 : Int32) + v87)).bind fun m88 => lL_law_988 k60 L xs S m88 cx x1 x2 x3 x4 x5 x6 x7 t0
noncomputable def lL_law_291 (k60 : mSh → mMm → Nat → Nat → Nat → Nat → Nat → Nat → Int32 → Option (Int32 × mSh × mMm × Nat)) (L : Nat) (xs : Nat → Int32) (S : mSh) (μ : mMm) (cx : Nat) (x1 : Nat) (x2 : Nat) (x3 : Nat) (x4 : Nat) (x5 : Nat) (x6 : Int32) (x7 : Int32) (x11 : Int32) (t0 : Int32) : Option (Int32 × mSh × mMm × Nat) := (fL_low (x7 >>> ((11 : Int32) &&& 31)) (4 : Int32)).bind fun v95 => (stI S μ x2 x11 v95).bind fun m96 => lL_law_988 k60 L xs S m96 cx x1 x2 x3 x4 x5 x6 x7 t0
noncomputable def lL_law_238 (k60 : mSh → mMm → Nat → Nat → Nat → Nat → Nat → Nat → Int32 → Option (Int32 × mSh × mMm × Nat)) (L : Nat) (xs : Nat → Int32) (S : mSh) (μ : mMm) (cx : Nat) (x1 : Nat) (x2 : Nat) (x3 : Nat) (x4 : Nat) (x5 : Nat) (x6 : Int32) (x7 : Int32) (x10 : Int32) : Option (Int32 × mSh × mMm × Nat) := lL_law_988 k60 L xs S μ cx x1 x2 x3 x4 x5 x6 x7 x10
noncomputable def lL_law_215 (k60 : mSh → mMm → Nat → Nat → Nat → Nat → Nat → Nat → Int32 → Option (Int32 × mSh × mMm × Nat)) (L : Nat) (xs : Nat → Int32) (S : mSh) (μ : mMm) (cx : Nat) (x1 : Nat) (x2 : Nat) (x3 : Nat) (x4 : Nat) (x5 : Nat) (x6 : Int32) (x7 : Int32) (x12 : Int32) (x13 : Int32) (t0 : Int32) : Option (Int32 × mSh × mMm × Nat) := if x13 = 0 then (lL_law_238 k60 L xs S μ cx x1 x2 x3 x4 x5 x6 x7 t0) else ((ldI S μ x5 (0 : Int32)).bind fun v102 => (stI S μ x2 v102 x12).bind fun m103 => (ldI S m103 x5 (0 : Int32)).bind fun v104 => (stI S m103 x5 (0 : Int32) (v104 + (1 : Int32))).bind fun m105 => lL_law_238 k60 L xs S m105 cx x1 x2 x3 x4 x5 x6 x7 t0)
noncomputable def lL_law_207 (k60 : mSh → mMm → Nat → Nat → Nat → Nat → Nat → Nat → Int32 → Option (Int32 × mSh × mMm × Nat)) (L : Nat) (xs : Nat → Int32) (S : mSh) (μ : mMm) (cx : Nat) (x1 : Nat) (x2 : Nat) (x3 : Nat) (x4 : Nat) (x5 : Nat) (x6 : Int32) (x7 : Int32) (x12 : Int32) (x13 : Int32) (t0 : Int32) (t1 : Int32) : Option (Int32 × mSh × mMm × Nat) := if t1 = t0 then (lL_law_215 k60 L xs S μ cx x1 x2 x3 x4 x5 x6 x7 x12 x13 (1 : Int32)) else (lL_law_215 k60 L xs S μ cx x1 x2 x3 x4 x5 x6 x7 x12 x13 (0 : Int32))
noncomputable def lL_law_183 (k60 : mSh → mMm → Nat → Nat → Nat → Nat → Nat → Nat → Int32 → Option (Int32 × mSh × mMm × Nat)) (L : Nat) (xs : Nat → Int32) (S : mSh) (μ : mMm) (cx : Nat) (x1 : Nat) (x2 : Nat) (x3 : Nat) (x4 : Nat) (x5 : Nat) (x6 : Int32) (x7 : Int32) (x12 : Int32) (t0 : Int32) : Option (Int32 × mSh × mMm × Nat) := (fL_add S μ x1 x12).bind fun r101 => if t0 = 0 then (lL_law_207 k60 L xs S r101.2.1 (cx + r101.2.2) x1 x2 x3 x4 x5 x6 x7 x12 t0 (-102 : Int32) r101.1) else ((ldI S r101.2.1 x5 (0 : Int32)).bind fun v106 => lL_law_207 k60 L xs S r101.2.1 (cx + r101.2.2) x1 x2 x3 x4 x5 x6 x7 x12 t0 (v106 + (1 : Int32)) r101.1)
noncomputable def lL_law_167 (k60 : mSh → mMm → Nat → Nat → Nat → Nat → Nat → Nat → Int32 → Option (Int32 × mSh × mMm × Nat)) (L : Nat) (xs : Nat → Int32) (S : mSh) (μ : mMm) (cx : Nat) (x1 : Nat) (x2 : Nat) (x3 : Nat) (x4 : Nat) (x5 : Nat) (x6 : Int32) (x7 : Int32) (t0 : Int32) : Option (Int32 × mSh × mMm × Nat) := (ldI S μ x5 (0 : Int32)).bind fun v100 => if (40 : Int32) ≤ v100 then (lL_law_183 k60 L xs S μ cx x1 x2 x3 x4 x5 x6 x7 t0 (0 : Int32)) else (lL_law_183 k60 L xs S μ cx x1 x2 x3 x4 x5 x6 x7 t0 (1 : Int32))
noncomputable def lL_law_163 (k60 : mSh → mMm → Nat → Nat → Nat → Nat → Nat → Nat → Int32 → Option (Int32 × mSh × mMm × Nat)) (L : Nat) (xs : Nat → Int32) (S : mSh) (μ : mMm) (cx : Nat) (x1 : Nat) (x2 : Nat) (x3 : Nat) (x4 : Nat) (x5 : Nat) (x6 : Int32) (x7 : Int32) (x9 : Int32) : Option (Int32 × mSh × mMm × Nat) := (dRem x9 (4 : Int32)).bind fun v99 => lL_law_167 k60 L xs S μ cx x1 x2 x3 x4 x5 x6 x7 v99
noncomputable def lL_law_93 (k60 : mSh → mMm → Nat → Nat → Nat → Nat → Nat → Nat → Int32 → Option (Int32 × mSh × mMm × Nat)) (L : Nat) (xs : Nat → Int32) (S : mSh) (μ : mMm) (cx : Nat) (x1 : Nat) (x2 : Nat) (x3 : Nat) (x4 : Nat) (x5 : Nat) (x6 : Int32) (x7 : Int32) (t0 : Int32) : Option (Int32 × mSh × mMm × Nat) := (fL_low (x7 >>> ((5 : Int32) &&& 31)) (64 : Int32)).bind fun v14 => if (9 : Int32) ≤ t0 then (if t0 = (9 : Int32) then ((ldI S μ x5 (0 : Int32)).bind fun v89 => if v89 ≤ 0 then (lL_law_988 k60 L xs S μ cx x1 x2 x3 x4 x5 x6 x7 (1 : Int32)) else ((ldI S μ x5 (0 : Int32)).bind fun v90 => (dRem v14 v90).bind fun v91 => (fL_low (x7 >>> ((11 : Int32) &&& 31)) (4 : Int32)).bind fun v92 => (cV oS S μ (fX10_setLetter oS μ x1 v91 v92)).bind fun r93 => (ldI S r93.2 x2 v91).bind fun v94 => if r93.1 = v94 then (lL_law_291 k60 L xs S r93.2 cx x1 x2 x3 x4 x5 x6 x7 v91 (1 : Int32)) else (lL_law_291 k60 L xs S r93.2 cx x1 x2 x3 x4 x5 x6 x7 v91 (0 : Int32)))) else (if t0 = (10 : Int32) then ((dRem v14 (32 : Int32)).bind fun v84 => (cV oS S μ (fX10_setWindow oS μ x1 ((1 : Int32) + v84))).bind fun r85 => (ldI S r85.2 x5 (1 : Int32)).bind fun v86 => if r85.1 = v86 then (lL_law_339 k60 L xs S r85.2 cx x1 x2 x3 x4 x5 x6 x7 v14 (1 : Int32)) else (lL_law_339 k60 L xs S r85.2 cx x1 x2 x3 x4 x5 x6 x7 v14 (0 : Int32))) else (if t0 = (11 : Int32) then ((dRem v14 (3 : Int32)).bind fun v74 => (cV oS S μ (fX10_setShortest oS μ x1 ((2 : Int32) + v74))).bind fun r75 => (ldI S r75.2 x5 (2 : Int32)).bind fun v76 => if r75.1 = v76 then ((fL_low (x7 >>> ((11 : Int32) &&& 31)) (6 : Int32)).bind fun v81 => (cV oS S r75.2 (fX10_setLongest oS r75.2 x1 ((4 : Int32) + v81))).bind fun r82 => (ldI S r82.2 x5 (3 : Int32)).bind fun v83 => if r82.1 = v83 then (lL_law_407 k60 L xs S r82.2 cx x1 x2 x3 x4 x5 x6 x7 v14 (1 : Int32)) else (lL_law_406 k60 L xs S r82.2 cx x1 x2 x3 x4 x5 x6 x7 v14)) else (lL_law_406 k60 L xs S r75.2 cx x1 x2 x3 x4 x5 x6 x7 v14)) else (if t0 = (12 : Int32) then ((dRem v14 (9 : Int32)).bind fun v64 => (cV oS S μ (fX10_setLetterPrice oS μ x1 ((1 : Int32) + v64))).bind fun r65 => (ldI S r65.2 x5 (4 : Int32)).bind fun v66 => if r65.1 = v66 then ((fL_low (x7 >>> ((11 : Int32) &&& 31)) (20 : Int32)).bind fun v71 => (cV oS S r65.2 (fX10_setRepeatPrice oS r65.2 x1 ((1 : Int32) + v71))).bind fun r72 => (ldI S r72.2 x5 (5 : Int32)).bind fun v73 => if r72.1 = v73 then (lL_law_491 k60 L xs S r72.2 cx x1 x2 x3 x4 x5 x6 x7 v14 (1 : Int32)) else (lL_law_490 k60 L xs S r72.2 cx x1 x2 x3 x4 x5 x6 x7 v14)) else (lL_law_490 k60 L xs S r65.2 cx x1 x2 x3 x4 x5 x6 x7 v14)) else (if (16 : Int32) ≤ t0 then (if t0 = (16 : Int32) then ((aN S μ [some (.ref 1000), some (.ref x1), some (.ref x2), some (.ref x3), some (.ref x4), some (.ref x5), some (.int x6), some (.int x7), none, none, none, none, none, none] [] 12 40 40).bind fun r52 => (fL_unpack r52.1 r52.2 x3 x4 x5 (mN S)).bind fun r53 => (fL_unpacks r52.1 r53.2 x1).bind fun r54 => if 0 ≤ r53.1 then (lL_law_622 k60 L xs r52.1 r54.2.1 (cx + r54.2.2) x1 x2 x3 x4 x5 x6 x7 (mN S) r53.1 r53.1 r54.1) else (lL_law_622 k60 L xs r52.1 r54.2.1 (cx + r54.2.2) x1 x2 x3 x4 x5 x6 x7 (mN S) r53.1 (-101 : Int32) r54.1)) else (if (20 : Int32) ≤ t0 then (if t0 = (20 : Int32) then ((fL_last S μ x1).bind fun r33 => (ldI S r33.2.1 x5 (6 : Int32)).bind fun v34 => if v34 = 0 then (lL_law_855 k60 L xs S r33.2.1 (cx + r33.2.2) x1 x2 x3 x4 x5 x6 x7 (-101 : Int32) r33.1) else ((ldI S r33.2.1 x5 (6 : Int32)).bind fun v35 => lL_law_855 k60 L xs S r33.2.1 (cx + r33.2.2) x1 x2 x3 x4 x5 x6 x7 (v35 - (1 : Int32)) r33.1)) else ((fL_low (x7 >>> ((11 : Int32) &&& 31)) (3 : Int32)).bind fun v15 => if v15 = 0 then ((dRem v14 (2 : Int32)).bind fun v21 => if v21 = 0 then ((cM oS S μ (fX10_emptySack oS μ x1)).bind fun r32 => lL_law_919 k60 L xs S r32.2 cx x1 x2 x3 x4 x5 x6 x7 v14 r32.1) else ((cM oS S μ (fX10_emptyText oS μ x1)).bind fun r22 => lL_law_919 k60 L xs S r22.2 cx x1 x2 x3 x4 x5 x6 x7 v14 r22.1)) else (lL_law_988 k60 L xs S μ cx x1 x2 x3 x4 x5 x6 x7 (1 : Int32)))) else ((fL_low (x7 >>> ((11 : Int32) &&& 31)) (3 : Int32)).bind fun v39 => if v39 = 0 then (lL_law_708 k60 L xs S μ cx x1 x2 x3 x4 x5 x6 x7 v14 (0 : Int32)) else ((dRem v14 (12 : Int32)).bind fun v40 => lL_law_708 k60 L xs S μ cx x1 x2 x3 x4 x5 x6 x7 v14 ((1 : Int32) + v40))))) else ((if mvk S [some (.ref 1000), some (.ref x1), some (.ref x2), some (.ref x3), some (.ref x4), some (.ref x5), some (.int x6), some (.int x7), none, none, none, some (.int (t0 - (13 : Int32))), none, none] [.int (6 : Int32), .ref x5] = true then fgt S (fL_pack S μ cx x2 x5 (t0 - (13 : Int32)) x3 x4) else none).bind fun r59 => (dRem r59.1 (1000 : Int32)).bind fun v60 => (stI S r59.2.1 x5 (6 : Int32) v60).bind fun m61 => (cV oS S m61 (fX10_pack oS m61 x1 (t0 - (13 : Int32)))).bind fun r62 => (ldI S r62.2 x5 (6 : Int32)).bind fun v63 => if r62.1 = v63 then (lL_law_576 k60 L xs S r62.2 r59.2.2 x1 x2 x3 x4 x5 x6 x7 (1 : Int32)) else (lL_law_576 k60 L xs S r62.2 r59.2.2 x1 x2 x3 x4 x5 x6 x7 (0 : Int32)))))))) else ((fL_low (x7 >>> ((11 : Int32) &&& 31)) (7 : Int32)).bind fun v97 => (fL_low (x7 >>> ((14 : Int32) &&& 31)) (3 : Int32)).bind fun v98 => if v98 ≤ 0 then (lL_law_163 k60 L xs S μ cx x1 x2 x3 x4 x5 x6 x7 v14) else ((ldI S μ x5 (0 : Int32)).bind fun v107 => if v107 < ((1 : Int32) + v97) then (lL_law_163 k60 L xs S μ cx x1 x2 x3 x4 x5 x6 x7 v14) else ((ldI S μ x5 (0 : Int32)).bind fun v108 => (ldI S μ x2 (v108 - ((1 : Int32) + v97))).bind fun v109 => lL_law_167 k60 L xs S μ cx x1 x2 x3 x4 x5 x6 x7 v109)))
noncomputable def lL_law_60 (L : Nat) (xs : Nat → Int32) : Nat → mSh → mMm → Nat → Nat → Nat → Nat → Nat → Nat → Int32 → Option (Int32 × mSh × mMm × Nat)
  | 0, _, _, _, _, _, _, _, _, _ => none
  | n + 1, S, μ, cx, x1, x2, x3, x4, x5, x6 => if (90 : Int32) ≤ x6 then (some ((1 : Int32), S, μ, cx)) else ((fL_cell L xs x6).bind fun v12 => if (16 : Int32) ≤ x6 then ((fL_low v12 (22 : Int32)).bind fun v13 => lL_law_93 (lL_law_60 L xs n) L xs S μ cx x1 x2 x3 x4 x5 x6 v12 v13) else (lL_law_93 (lL_law_60 L xs n) L xs S μ cx x1 x2 x3 x4 x5 x6 v12 (0 : Int32)))
noncomputable def fL_law (L : Nat) (xs : Nat → Int32) (S : mSh) (μ : mMm) (cx : Nat) : Option (Int32 × mSh × mMm × Nat) := (aN S μ [some (.ref 1000), none, none, none, none, none, none, none, none, none, none, none, none, none] [] 10 0 9).bind fun r1 => if mvk r1.1 [some (.ref 1000), none, none, none, none, none, none, none, none, none, none, none, none, none] [.ref (mN S)] = true then ((fX10_init r1.1 r1.2 (mN S)).bind fun r2 => (aN r2.1 r2.2 [some (.ref 1000), some (.ref (mN S)), none, none, none, none, none, none, none, none, none, none, none, none] [] 12 40 40).bind fun r3 => (aN r3.1 r3.2 [some (.ref 1000), some (.ref (mN S)), some (.ref (mN r2.1)), none, none, none, none, none, none, none, none, none, none, none] [] 12 40 40).bind fun r4 => (aN r4.1 r4.2 [some (.ref 1000), some (.ref (mN S)), some (.ref (mN r2.1)), some (.ref (mN r3.1)), none, none, none, none, none, none, none, none, none, none] [] 12 40 40).bind fun r5 => (aN r5.1 r5.2 [some (.ref 1000), some (.ref (mN S)), some (.ref (mN r2.1)), some (.ref (mN r3.1)), some (.ref (mN r4.1)), none, none, none, none, none, none, none, none, none] [] 12 7 7).bind fun r6 => (stI r6.1 r6.2 (mN r5.1) (1 : Int32) (16 : Int32)).bind fun m7 => (stI r6.1 m7 (mN r5.1) (2 : Int32) (3 : Int32)).bind fun m8 => (stI r6.1 m8 (mN r5.1) (3 : Int32) (8 : Int32)).bind fun m9 => (stI r6.1 m9 (mN r5.1) (4 : Int32) (3 : Int32)).bind fun m10 => (stI r6.1 m10 (mN r5.1) (5 : Int32) (5 : Int32)).bind fun m11 => lL_law_60 L xs FU r6.1 m11 cx (mN S) (mN r2.1) (mN r3.1) (mN r4.1) (mN r5.1) (0 : Int32)) else none
abbrev ML_law (b L : Nat) (xs : Nat → Int32) : mM := ((yL_law, cL_law, 14, (some .boolean)), (8, 191), (true, false), RL, eL b L xs)
set_option maxRecDepth 100000 in
set_option maxHeartbeats 40000000 in
theorem xL_law_1048 {n0 c0 s0 : Nat} {b L : Nat} {xs : Nat → Int32} {k60 : mSh → mMm → Nat → Nat → Nat → Nat → Nat → Nat → Int32 → Option (Int32 × mSh × mMm × Nat)} (hk60 : ∀ (S : mSh) (μ : mMm) (cx : Nat) (x1 : Nat) (x2 : Nat) (x3 : Nat) (x4 : Nat) (x5 : Nat) (x6 : Int32) (d7 : Option Value) (d8 : Option Value) (d9 : Option Value) (d10 : Option Value) (d11 : Option Value) (d12 : Option Value) (d13 : Option Value), mX (ML_law b L xs) n0 c0 s0 60 [some (.ref 1000), some (.ref x1), some (.ref x2), some (.ref x3), some (.ref x4), some (.ref x5), some (.int x6), d7, d8, d9, d10, d11, d12, d13] [] (S, μ, cx, 41 * cx) iAI (k60 S μ cx x1 x2 x3 x4 x5 x6)) (S : mSh) (μ : mMm) (cx : Nat) (x1 : Nat) (x2 : Nat) (x3 : Nat) (x4 : Nat) (x5 : Nat) (x6 : Int32) (d7 : Option Value) (d8 : Option Value) (d9 : Option Value) (d10 : Option Value) (d11 : Option Value) (d12 : Option Value) (d13 : Option Value) : mX (ML_law b L xs) n0 c0 s0 1048 [some (.ref 1000), some (.ref x1), some (.ref x2), some (.ref x3), some (.ref x4), some (.ref x5), some (.int x6), d7, d8, d9, d10, d11, d12, d13] [] (S, μ, cx, 41 * cx) iAI (lL_law_1048 k60 L xs S μ cx x1 x2 x3 x4 x5 x6) := by
  unfold lL_law_1048
  refine x_iinc (pc := 1048) (v := x6 + (1 : Int32)) dL_law_1048 rfl (by rw [show Int32.ofInt (1) = (1 : Int32) from by decide]) (Nat.le_of_ble_eq_true rfl) (l' := [some (.ref 1000), some (.ref x1), some (.ref x2), some (.ref x3), some (.ref x4), some (.ref x5), some (.int (x6 + (1 : Int32))), d7, d8, d9, d10, d11, d12, d13]) rfl ?_
  refine x_goto (pc := 1051) (tgt := 60) dL_law_1051 (by decide) ?_
  exact hk60 S μ cx x1 x2 x3 x4 x5 (x6 + (1 : Int32)) _ _ _ _ _ _ _
set_option maxRecDepth 100000 in
set_option maxHeartbeats 40000000 in
theorem xL_law_988 {n0 c0 s0 : Nat} {b L : Nat} {xs : Nat → Int32} {k60 : mSh → mMm → Nat → Nat → Nat → Nat → Nat → Nat → Int32 → Option (Int32 × mSh × mMm × Nat)} (hk60 : ∀ (S : mSh) (μ : mMm) (cx : Nat) (x1 : Nat) (x2 : Nat) (x3 : Nat) (x4 : Nat) (x5 : Nat) (x6 : Int32) (d7 : Option Value) (d8 : Option Value) (d9 : Option Value) (d10 : Option Value) (d11 : Option Value) (d12 : Option Value) (d13 : Option Value), mX (ML_law b L xs) n0 c0 s0 60 [some (.ref 1000), some (.ref x1), some (.ref x2), some (.ref x3), some (.ref x4), some (.ref x5), some (.int x6), d7, d8, d9, d10, d11, d12, d13] [] (S, μ, cx, 41 * cx) iAI (k60 S μ cx x1 x2 x3 x4 x5 x6)) (S : mSh) (μ : mMm) (cx : Nat) (x1 : Nat) (x2 : Nat) (x3 : Nat) (x4 : Nat) (x5 : Nat) (x6 : Int32) (x7 : Int32) (x10 : Int32) (d8 : Option Value) (d9 : Option Value) (d11 : Option Value) (d12 : Option Value) (d13 : Option Value) : mX (ML_law b L xs) n0 c0 s0 988 [some (.ref 1000), some (.ref x1), some (.ref x2), some (.ref x3), some (.ref x4), some (.ref x5), some (.int x6), some (.int x7), d8, d9, some (.int x10), d11, d12, d13] [] (S, μ, cx, 41 * cx) iAI (lL_law_988 k60 L xs S μ cx x1 x2 x3 x4 x5 x6 x7 x10) := by
  unfold lL_law_988
  refine x_iload (pc := 988) dL_law_988 rfl ?_
  refine x_if_eq (pc := 990) (tgt := 1046) dL_law_990 (by decide) ?_ ?_
  · refine x_iconst (pc := 1046) (v := 0) dL_law_1046 (by decide) ?_
    exact x_iret rfl dL_law_1047 rfl rfl
  · refine x_aload_n (pc := 993) dL_law_993 (i := 1) rfl rfl ?_
    refine x_aload_n (pc := 994) dL_law_994 (i := 2) rfl rfl ?_
    refine x_aload_n (pc := 995) dL_law_995 (i := 3) rfl rfl ?_
    refine x_aload (pc := 996) dL_law_996 rfl ?_
    refine x_aload (pc := 998) dL_law_998 rfl ?_
    refine x_wk (l' := [some (.ref 1000), some (.ref x1), some (.ref x2), some (.ref x3), some (.ref x4), some (.ref x5), some (.int x6), some (.int x7), none, none, none, none, none, none]) ⟨Or.inr rfl, Or.inr rfl, Or.inr rfl, Or.inr rfl, Or.inr rfl, Or.inr rfl, Or.inr rfl, Or.inr rfl, Or.inl rfl, Or.inl rfl, Or.inl rfl, Or.inl rfl, Or.inl rfl, Or.inl rfl, trivial⟩ ?_
    refine x_callB (pc := 1000) (As := [.ref x1, .ref x2, .ref x3, .ref x4, .ref x5]) (rest := []) (mL_sack S μ cx x1 x2 x3 x4 x5) rfl dL_law_1000 q402 kL_sack rfl ⟨Nat.le_of_ble_eq_true rfl, Nat.le_of_ble_eq_true rfl⟩ rfl (Nat.le_of_ble_eq_true rfl) (fun r16 => ?_)
    refine x_if_eq (pc := 1003) (tgt := 1046) dL_law_1003 (by decide) ?_ ?_
    · refine x_iconst (pc := 1046) (v := 0) dL_law_1046 (by decide) ?_
      exact x_iret rfl dL_law_1047 rfl rfl
    · refine x_iload (pc := 1006) dL_law_1006 rfl ?_
      refine x_iconst (pc := 1008) (v := 4) dL_law_1008 (by decide) ?_
      refine x_irem (pc := 1009) dL_law_1009 (fun v17 => ?_)
      refine x_iconst (pc := 1010) (v := 3) dL_law_1010 (by decide) ?_
      refine x_icmp_ne (pc := 1011) (tgt := 1048) dL_law_1011 (by decide) ?_ ?_
      · refine x_aload_n (pc := 1014) dL_law_1014 (i := 1) rfl rfl ?_
        refine x_aload_n (pc := 1015) dL_law_1015 (i := 2) rfl rfl ?_
        refine x_aload (pc := 1016) dL_law_1016 rfl ?_
        refine x_callSi (pc := 1018) (As := [.ref x1, .ref x2, .ref x5]) (rest := []) (vx := fun a => a.1) (μf := fun a => a.2) (mL_text S r16.2.1 r16.2.2 (41 * r16.2.2) x1 x2 x5) (fun _ => rfl) rfl dL_law_1018 q473 kL_text rfl ⟨Nat.le_of_ble_eq_true rfl, Nat.le_of_ble_eq_true rfl⟩ rfl (Nat.le_of_ble_eq_true rfl) (fun r18 => ?_)
        refine x_if_eq (pc := 1021) (tgt := 1046) dL_law_1021 (by decide) ?_ ?_
        · refine x_iconst (pc := 1046) (v := 0) dL_law_1046 (by decide) ?_
          exact x_iret rfl dL_law_1047 rfl rfl
        · refine x_aload_n (pc := 1024) dL_law_1024 (i := 1) rfl rfl ?_
          refine x_aload_n (pc := 1025) dL_law_1025 (i := 2) rfl rfl ?_
          refine x_aload (pc := 1026) dL_law_1026 rfl ?_
          refine x_iconst (pc := 1028) (v := 1) dL_law_1028 (by decide) ?_
          refine x_iload (pc := 1029) dL_law_1029 rfl ?_
          refine x_bipush (pc := 1031) (v := 17) dL_law_1031 (by decide) ?_
          refine x_ishr (pc := 1033) dL_law_1033 ?_
          refine x_bipush (pc := 1034) (v := 32) dL_law_1034 (by decide) ?_
          refine x_callSi (pc := 1036) (As := [.int (x7 >>> ((17 : Int32) &&& 31)), .int (32 : Int32)]) (rest := [.int (1 : Int32), .ref x5, .ref x2, .ref x1]) (vx := fun a => a) (μf := fun _ => r18.2) (mL_low S r18.2 r16.2.2 (41 * r16.2.2) (x7 >>> ((17 : Int32) &&& 31)) (32 : Int32)) (fun _ => rfl) rfl dL_law_1036 q134 kL_low rfl ⟨Nat.le_of_ble_eq_true rfl, Nat.le_of_ble_eq_true rfl⟩ rfl (Nat.le_of_ble_eq_true rfl) (fun v19 => ?_)
          refine x_iadd (pc := 1039) dL_law_1039 ?_
          refine x_wk (l' := [some (.ref 1000), some (.ref x1), some (.ref x2), some (.ref x3), some (.ref x4), some (.ref x5), some (.int x6), none, none, none, none, none, none, none]) ⟨Or.inr rfl, Or.inr rfl, Or.inr rfl, Or.inr rfl, Or.inr rfl, Or.inr rfl, Or.inr rfl, Or.inl rfl, Or.inr rfl, Or.inr rfl, Or.inr rfl, Or.inr rfl, Or.inr rfl, Or.inr rfl, trivial⟩ ?_
          refine x_callB (pc := 1040) (As := [.ref x1, .ref x2, .ref x5, .int ((1 : Int32) + v19)]) (rest := []) (mL_costsOf S r18.2 r16.2.2 x1 x2 x5 ((1 : Int32) + v19)) rfl dL_law_1040 q556 kL_costsOf rfl ⟨Nat.le_of_ble_eq_true rfl, Nat.le_of_ble_eq_true rfl⟩ rfl (Nat.le_of_ble_eq_true rfl) (fun r20 => ?_)
          refine x_if_ne (pc := 1043) (tgt := 1048) dL_law_1043 (by decide) ?_ ?_
          · refine x_iconst (pc := 1046) (v := 0) dL_law_1046 (by decide) ?_
            exact x_iret rfl dL_law_1047 rfl rfl
          · exact xL_law_1048 (k60 := k60) hk60 S r20.2.1 r20.2.2 x1 x2 x3 x4 x5 x6 _ _ _ _ _ _ _
      · exact xL_law_1048 (k60 := k60) hk60 S r16.2.1 r16.2.2 x1 x2 x3 x4 x5 x6 _ _ _ _ _ _ _
set_option maxRecDepth 100000 in
set_option maxHeartbeats 40000000 in
theorem xL_law_987 {n0 c0 s0 : Nat} {b L : Nat} {xs : Nat → Int32} {k60 : mSh → mMm → Nat → Nat → Nat → Nat → Nat → Nat → Int32 → Option (Int32 × mSh × mMm × Nat)} (hk60 : ∀ (S : mSh) (μ : mMm) (cx : Nat) (x1 : Nat) (x2 : Nat) (x3 : Nat) (x4 : Nat) (x5 : Nat) (x6 : Int32) (d7 : Option Value) (d8 : Option Value) (d9 : Option Value) (d10 : Option Value) (d11 : Option Value) (d12 : Option Value) (d13 : Option Value), mX (ML_law b L xs) n0 c0 s0 60 [some (.ref 1000), some (.ref x1), some (.ref x2), some (.ref x3), some (.ref x4), some (.ref x5), some (.int x6), d7, d8, d9, d10, d11, d12, d13] [] (S, μ, cx, 41 * cx) iAI (k60 S μ cx x1 x2 x3 x4 x5 x6)) (S : mSh) (μ : mMm) (cx : Nat) (x1 : Nat) (x2 : Nat) (x3 : Nat) (x4 : Nat) (x5 : Nat) (x6 : Int32) (x7 : Int32) (x10 : Int32) (t0 : Int32) (t1 : Int32) (t2 : Nat) (d8 : Option Value) (d9 : Option Value) (d11 : Option Value) (d12 : Option Value) (d13 : Option Value) : mX (ML_law b L xs) n0 c0 s0 987 [some (.ref 1000), some (.ref x1), some (.ref x2), some (.ref x3), some (.ref x4), some (.ref x5), some (.int x6), some (.int x7), d8, d9, some (.int x10), d11, d12, d13] [.int t0, .int t1, .ref t2] (S, μ, cx, 41 * cx) iAI (lL_law_987 k60 L xs S μ cx x1 x2 x3 x4 x5 x6 x7 x10 t0 t1 t2) := by
  unfold lL_law_987
  refine x_stI (pc := 987) dL_law_987 (fun m29 => ?_)
  exact xL_law_988 (k60 := k60) hk60 S m29 cx x1 x2 x3 x4 x5 x6 x7 x10 _ _ _ _ _
set_option maxRecDepth 100000 in
set_option maxHeartbeats 40000000 in
theorem xL_law_968 {n0 c0 s0 : Nat} {b L : Nat} {xs : Nat → Int32} {k60 : mSh → mMm → Nat → Nat → Nat → Nat → Nat → Nat → Int32 → Option (Int32 × mSh × mMm × Nat)} (hk60 : ∀ (S : mSh) (μ : mMm) (cx : Nat) (x1 : Nat) (x2 : Nat) (x3 : Nat) (x4 : Nat) (x5 : Nat) (x6 : Int32) (d7 : Option Value) (d8 : Option Value) (d9 : Option Value) (d10 : Option Value) (d11 : Option Value) (d12 : Option Value) (d13 : Option Value), mX (ML_law b L xs) n0 c0 s0 60 [some (.ref 1000), some (.ref x1), some (.ref x2), some (.ref x3), some (.ref x4), some (.ref x5), some (.int x6), d7, d8, d9, d10, d11, d12, d13] [] (S, μ, cx, 41 * cx) iAI (k60 S μ cx x1 x2 x3 x4 x5 x6)) (S : mSh) (μ : mMm) (cx : Nat) (x1 : Nat) (x2 : Nat) (x3 : Nat) (x4 : Nat) (x5 : Nat) (x6 : Int32) (x7 : Int32) (x9 : Int32) (x10 : Int32) (t0 : Int32) (t1 : Int32) (t2 : Nat) (d8 : Option Value) (d11 : Option Value) (d12 : Option Value) (d13 : Option Value) : mX (ML_law b L xs) n0 c0 s0 968 [some (.ref 1000), some (.ref x1), some (.ref x2), some (.ref x3), some (.ref x4), some (.ref x5), some (.int x6), some (.int x7), d8, some (.int x9), some (.int x10), d11, d12, d13] [.int t0, .int t1, .ref t2] (S, μ, cx, 41 * cx) iAI (lL_law_968 k60 L xs S μ cx x1 x2 x3 x4 x5 x6 x7 x9 x10 t0 t1 t2) := by
  unfold lL_law_968
  refine x_stI (pc := 968) dL_law_968 (fun m27 => ?_)
  refine x_aload (pc := 969) dL_law_969 rfl ?_
  refine x_iconst (pc := 971) (v := 0) dL_law_971 (by decide) ?_
  refine x_iload (pc := 972) dL_law_972 rfl ?_
  refine x_iconst (pc := 974) (v := 2) dL_law_974 (by decide) ?_
  refine x_irem (pc := 975) dL_law_975 (fun v28 => ?_)
  refine x_if_ne (pc := 976) (tgt := 986) dL_law_976 (by decide) ?_ ?_
  · refine x_aload (pc := 979) dL_law_979 rfl ?_
    refine x_iconst (pc := 981) (v := 0) dL_law_981 (by decide) ?_
    refine x_ldI (pc := 982) dL_law_982 (fun v30 => ?_)
    refine x_goto (pc := 983) (tgt := 987) dL_law_983 (by decide) ?_
    exact xL_law_987 (k60 := k60) hk60 S m27 cx x1 x2 x3 x4 x5 x6 x7 x10 v30 (0 : Int32) x5 _ _ _ _ _
  · refine x_iconst (pc := 986) (v := 0) dL_law_986 (by decide) ?_
    exact xL_law_987 (k60 := k60) hk60 S m27 cx x1 x2 x3 x4 x5 x6 x7 x10 (0 : Int32) (0 : Int32) x5 _ _ _ _ _
set_option maxRecDepth 100000 in
set_option maxHeartbeats 40000000 in
theorem xL_law_946 {n0 c0 s0 : Nat} {b L : Nat} {xs : Nat → Int32} {k60 : mSh → mMm → Nat → Nat → Nat → Nat → Nat → Nat → Int32 → Option (Int32 × mSh × mMm × Nat)} (hk60 : ∀ (S : mSh) (μ : mMm) (cx : Nat) (x1 : Nat) (x2 : Nat) (x3 : Nat) (x4 : Nat) (x5 : Nat) (x6 : Int32) (d7 : Option Value) (d8 : Option Value) (d9 : Option Value) (d10 : Option Value) (d11 : Option Value) (d12 : Option Value) (d13 : Option Value), mX (ML_law b L xs) n0 c0 s0 60 [some (.ref 1000), some (.ref x1), some (.ref x2), some (.ref x3), some (.ref x4), some (.ref x5), some (.int x6), d7, d8, d9, d10, d11, d12, d13] [] (S, μ, cx, 41 * cx) iAI (k60 S μ cx x1 x2 x3 x4 x5 x6)) (S : mSh) (μ : mMm) (cx : Nat) (x1 : Nat) (x2 : Nat) (x3 : Nat) (x4 : Nat) (x5 : Nat) (x6 : Int32) (x7 : Int32) (x9 : Int32) (t0 : Int32) (d8 : Option Value) (d10 : Option Value) (d11 : Option Value) (d12 : Option Value) (d13 : Option Value) : mX (ML_law b L xs) n0 c0 s0 946 [some (.ref 1000), some (.ref x1), some (.ref x2), some (.ref x3), some (.ref x4), some (.ref x5), some (.int x6), some (.int x7), d8, some (.int x9), d10, d11, d12, d13] [.int t0] (S, μ, cx, 41 * cx) iAI (lL_law_946 k60 L xs S μ cx x1 x2 x3 x4 x5 x6 x7 x9 t0) := by
  unfold lL_law_946
  refine x_istore (pc := 946) dL_law_946 (Nat.le_of_ble_eq_true rfl) (l' := [some (.ref 1000), some (.ref x1), some (.ref x2), some (.ref x3), some (.ref x4), some (.ref x5), some (.int x6), some (.int x7), d8, some (.int x9), some (.int t0), d11, d12, d13]) rfl ?_
  refine x_aload (pc := 948) dL_law_948 rfl ?_
  refine x_bipush (pc := 950) (v := 6) dL_law_950 (by decide) ?_
  refine x_iload (pc := 952) dL_law_952 rfl ?_
  refine x_iconst (pc := 954) (v := 2) dL_law_954 (by decide) ?_
  refine x_irem (pc := 955) dL_law_955 (fun v25 => ?_)
  refine x_if_ne (pc := 956) (tgt := 963) dL_law_956 (by decide) ?_ ?_
  · refine x_iconst (pc := 959) (v := 0) dL_law_959 (by decide) ?_
    refine x_goto (pc := 960) (tgt := 968) dL_law_960 (by decide) ?_
    exact xL_law_968 (k60 := k60) hk60 S μ cx x1 x2 x3 x4 x5 x6 x7 x9 t0 (0 : Int32) (6 : Int32) x5 _ _ _ _
  · refine x_aload (pc := 963) dL_law_963 rfl ?_
    refine x_bipush (pc := 965) (v := 6) dL_law_965 (by decide) ?_
    refine x_ldI (pc := 967) dL_law_967 (fun v26 => ?_)
    exact xL_law_968 (k60 := k60) hk60 S μ cx x1 x2 x3 x4 x5 x6 x7 x9 t0 v26 (6 : Int32) x5 _ _ _ _
set_option maxRecDepth 100000 in
set_option maxHeartbeats 40000000 in
theorem xL_law_938 {n0 c0 s0 : Nat} {b L : Nat} {xs : Nat → Int32} {k60 : mSh → mMm → Nat → Nat → Nat → Nat → Nat → Nat → Int32 → Option (Int32 × mSh × mMm × Nat)} (hk60 : ∀ (S : mSh) (μ : mMm) (cx : Nat) (x1 : Nat) (x2 : Nat) (x3 : Nat) (x4 : Nat) (x5 : Nat) (x6 : Int32) (d7 : Option Value) (d8 : Option Value) (d9 : Option Value) (d10 : Option Value) (d11 : Option Value) (d12 : Option Value) (d13 : Option Value), mX (ML_law b L xs) n0 c0 s0 60 [some (.ref 1000), some (.ref x1), some (.ref x2), some (.ref x3), some (.ref x4), some (.ref x5), some (.int x6), d7, d8, d9, d10, d11, d12, d13] [] (S, μ, cx, 41 * cx) iAI (k60 S μ cx x1 x2 x3 x4 x5 x6)) (S : mSh) (μ : mMm) (cx : Nat) (x1 : Nat) (x2 : Nat) (x3 : Nat) (x4 : Nat) (x5 : Nat) (x6 : Int32) (x7 : Int32) (x9 : Int32) (t0 : Int32) (t1 : Int32) (d8 : Option Value) (d10 : Option Value) (d11 : Option Value) (d12 : Option Value) (d13 : Option Value) : mX (ML_law b L xs) n0 c0 s0 938 [some (.ref 1000), some (.ref x1), some (.ref x2), some (.ref x3), some (.ref x4), some (.ref x5), some (.int x6), some (.int x7), d8, some (.int x9), d10, d11, d12, d13] [.int t0, .int t1] (S, μ, cx, 41 * cx) iAI (lL_law_938 k60 L xs S μ cx x1 x2 x3 x4 x5 x6 x7 x9 t0 t1) := by
  unfold lL_law_938
  refine x_icmp_ne (pc := 938) (tgt := 945) dL_law_938 (by decide) ?_ ?_
  · refine x_iconst (pc := 941) (v := 1) dL_law_941 (by decide) ?_
    refine x_goto (pc := 942) (tgt := 946) dL_law_942 (by decide) ?_
    exact xL_law_946 (k60 := k60) hk60 S μ cx x1 x2 x3 x4 x5 x6 x7 x9 (1 : Int32) _ _ _ _ _
  · refine x_iconst (pc := 945) (v := 0) dL_law_945 (by decide) ?_
    exact xL_law_946 (k60 := k60) hk60 S μ cx x1 x2 x3 x4 x5 x6 x7 x9 (0 : Int32) _ _ _ _ _
set_option maxRecDepth 100000 in
set_option maxHeartbeats 40000000 in
theorem xL_law_919 {n0 c0 s0 : Nat} {b L : Nat} {xs : Nat → Int32} {k60 : mSh → mMm → Nat → Nat → Nat → Nat → Nat → Nat → Int32 → Option (Int32 × mSh × mMm × Nat)} (hk60 : ∀ (S : mSh) (μ : mMm) (cx : Nat) (x1 : Nat) (x2 : Nat) (x3 : Nat) (x4 : Nat) (x5 : Nat) (x6 : Int32) (d7 : Option Value) (d8 : Option Value) (d9 : Option Value) (d10 : Option Value) (d11 : Option Value) (d12 : Option Value) (d13 : Option Value), mX (ML_law b L xs) n0 c0 s0 60 [some (.ref 1000), some (.ref x1), some (.ref x2), some (.ref x3), some (.ref x4), some (.ref x5), some (.int x6), d7, d8, d9, d10, d11, d12, d13] [] (S, μ, cx, 41 * cx) iAI (k60 S μ cx x1 x2 x3 x4 x5 x6)) (S : mSh) (μ : mMm) (cx : Nat) (x1 : Nat) (x2 : Nat) (x3 : Nat) (x4 : Nat) (x5 : Nat) (x6 : Int32) (x7 : Int32) (x9 : Int32) (t0 : Int32) (d8 : Option Value) (d10 : Option Value) (d11 : Option Value) (d12 : Option Value) (d13 : Option Value) : mX (ML_law b L xs) n0 c0 s0 919 [some (.ref 1000), some (.ref x1), some (.ref x2), some (.ref x3), some (.ref x4), some (.ref x5), some (.int x6), some (.int x7), d8, some (.int x9), d10, d11, d12, d13] [.int t0] (S, μ, cx, 41 * cx) iAI (lL_law_919 k60 L xs S μ cx x1 x2 x3 x4 x5 x6 x7 x9 t0) := by
  unfold lL_law_919
  refine x_iload (pc := 919) dL_law_919 rfl ?_
  refine x_iconst (pc := 921) (v := 2) dL_law_921 (by decide) ?_
  refine x_irem (pc := 922) dL_law_922 (fun v23 => ?_)
  refine x_if_ne (pc := 923) (tgt := 934) dL_law_923 (by decide) ?_ ?_
  · refine x_aload (pc := 926) dL_law_926 rfl ?_
    refine x_bipush (pc := 928) (v := 6) dL_law_928 (by decide) ?_
    refine x_ldI (pc := 930) dL_law_930 (fun v31 => ?_)
    refine x_goto (pc := 931) (tgt := 938) dL_law_931 (by decide) ?_
    exact xL_law_938 (k60 := k60) hk60 S μ cx x1 x2 x3 x4 x5 x6 x7 x9 v31 t0 _ _ _ _ _
  · refine x_aload (pc := 934) dL_law_934 rfl ?_
    refine x_iconst (pc := 936) (v := 0) dL_law_936 (by decide) ?_
    refine x_ldI (pc := 937) dL_law_937 (fun v24 => ?_)
    exact xL_law_938 (k60 := k60) hk60 S μ cx x1 x2 x3 x4 x5 x6 x7 x9 v24 t0 _ _ _ _ _
set_option maxRecDepth 100000 in
set_option maxHeartbeats 40000000 in
theorem xL_law_884 {n0 c0 s0 : Nat} {b L : Nat} {xs : Nat → Int32} {k60 : mSh → mMm → Nat → Nat → Nat → Nat → Nat → Nat → Int32 → Option (Int32 × mSh × mMm × Nat)} (hk60 : ∀ (S : mSh) (μ : mMm) (cx : Nat) (x1 : Nat) (x2 : Nat) (x3 : Nat) (x4 : Nat) (x5 : Nat) (x6 : Int32) (d7 : Option Value) (d8 : Option Value) (d9 : Option Value) (d10 : Option Value) (d11 : Option Value) (d12 : Option Value) (d13 : Option Value), mX (ML_law b L xs) n0 c0 s0 60 [some (.ref 1000), some (.ref x1), some (.ref x2), some (.ref x3), some (.ref x4), some (.ref x5), some (.int x6), d7, d8, d9, d10, d11, d12, d13] [] (S, μ, cx, 41 * cx) iAI (k60 S μ cx x1 x2 x3 x4 x5 x6)) (S : mSh) (μ : mMm) (cx : Nat) (x1 : Nat) (x2 : Nat) (x3 : Nat) (x4 : Nat) (x5 : Nat) (x6 : Int32) (x7 : Int32) (x10 : Int32) (t0 : Int32) (t1 : Int32) (t2 : Int32) (t3 : Nat) (d8 : Option Value) (d9 : Option Value) (d11 : Option Value) (d12 : Option Value) (d13 : Option Value) : mX (ML_law b L xs) n0 c0 s0 884 [some (.ref 1000), some (.ref x1), some (.ref x2), some (.ref x3), some (.ref x4), some (.ref x5), some (.int x6), some (.int x7), d8, d9, some (.int x10), d11, d12, d13] [.int t0, .int t1, .int t2, .ref t3] (S, μ, cx, 41 * cx) iAI (lL_law_884 k60 L xs S μ cx x1 x2 x3 x4 x5 x6 x7 x10 t0 t1 t2 t3) := by
  unfold lL_law_884
  refine x_isub (pc := 884) dL_law_884 ?_
  refine x_stI (pc := 885) dL_law_885 (fun m38 => ?_)
  refine x_goto (pc := 886) (tgt := 988) dL_law_886 (by decide) ?_
  exact xL_law_988 (k60 := k60) hk60 S m38 cx x1 x2 x3 x4 x5 x6 x7 x10 _ _ _ _ _
set_option maxRecDepth 100000 in
set_option maxHeartbeats 40000000 in
theorem xL_law_863 {n0 c0 s0 : Nat} {b L : Nat} {xs : Nat → Int32} {k60 : mSh → mMm → Nat → Nat → Nat → Nat → Nat → Nat → Int32 → Option (Int32 × mSh × mMm × Nat)} (hk60 : ∀ (S : mSh) (μ : mMm) (cx : Nat) (x1 : Nat) (x2 : Nat) (x3 : Nat) (x4 : Nat) (x5 : Nat) (x6 : Int32) (d7 : Option Value) (d8 : Option Value) (d9 : Option Value) (d10 : Option Value) (d11 : Option Value) (d12 : Option Value) (d13 : Option Value), mX (ML_law b L xs) n0 c0 s0 60 [some (.ref 1000), some (.ref x1), some (.ref x2), some (.ref x3), some (.ref x4), some (.ref x5), some (.int x6), d7, d8, d9, d10, d11, d12, d13] [] (S, μ, cx, 41 * cx) iAI (k60 S μ cx x1 x2 x3 x4 x5 x6)) (S : mSh) (μ : mMm) (cx : Nat) (x1 : Nat) (x2 : Nat) (x3 : Nat) (x4 : Nat) (x5 : Nat) (x6 : Int32) (x7 : Int32) (t0 : Int32) (d8 : Option Value) (d9 : Option Value) (d10 : Option Value) (d11 : Option Value) (d12 : Option Value) (d13 : Option Value) : mX (ML_law b L xs) n0 c0 s0 863 [some (.ref 1000), some (.ref x1), some (.ref x2), some (.ref x3), some (.ref x4), some (.ref x5), some (.int x6), some (.int x7), d8, d9, d10, d11, d12, d13] [.int t0] (S, μ, cx, 41 * cx) iAI (lL_law_863 k60 L xs S μ cx x1 x2 x3 x4 x5 x6 x7 t0) := by
  unfold lL_law_863
  refine x_istore (pc := 863) dL_law_863 (Nat.le_of_ble_eq_true rfl) (l' := [some (.ref 1000), some (.ref x1), some (.ref x2), some (.ref x3), some (.ref x4), some (.ref x5), some (.int x6), some (.int x7), d8, (kl d9), some (.int t0), d11, d12, d13]) rfl ?_
  refine x_aload (pc := 865) dL_law_865 rfl ?_
  refine x_bipush (pc := 867) (v := 6) dL_law_867 (by decide) ?_
  refine x_dup2 (pc := 869) dL_law_869 rfl rfl ?_
  refine x_ldI (pc := 870) dL_law_870 (fun v36 => ?_)
  refine x_aload (pc := 871) dL_law_871 rfl ?_
  refine x_bipush (pc := 873) (v := 6) dL_law_873 (by decide) ?_
  refine x_ldI (pc := 875) dL_law_875 (fun v37 => ?_)
  refine x_if_ne (pc := 876) (tgt := 883) dL_law_876 (by decide) ?_ ?_
  · refine x_iconst (pc := 879) (v := 0) dL_law_879 (by decide) ?_
    refine x_goto (pc := 880) (tgt := 884) dL_law_880 (by decide) ?_
    exact xL_law_884 (k60 := k60) hk60 S μ cx x1 x2 x3 x4 x5 x6 x7 t0 (0 : Int32) v36 (6 : Int32) x5 _ _ _ _ _
  · refine x_iconst (pc := 883) (v := 1) dL_law_883 (by decide) ?_
    exact xL_law_884 (k60 := k60) hk60 S μ cx x1 x2 x3 x4 x5 x6 x7 t0 (1 : Int32) v36 (6 : Int32) x5 _ _ _ _ _
set_option maxRecDepth 100000 in
set_option maxHeartbeats 40000000 in
theorem xL_law_855 {n0 c0 s0 : Nat} {b L : Nat} {xs : Nat → Int32} {k60 : mSh → mMm → Nat → Nat → Nat → Nat → Nat → Nat → Int32 → Option (Int32 × mSh × mMm × Nat)} (hk60 : ∀ (S : mSh) (μ : mMm) (cx : Nat) (x1 : Nat) (x2 : Nat) (x3 : Nat) (x4 : Nat) (x5 : Nat) (x6 : Int32) (d7 : Option Value) (d8 : Option Value) (d9 : Option Value) (d10 : Option Value) (d11 : Option Value) (d12 : Option Value) (d13 : Option Value), mX (ML_law b L xs) n0 c0 s0 60 [some (.ref 1000), some (.ref x1), some (.ref x2), some (.ref x3), some (.ref x4), some (.ref x5), some (.int x6), d7, d8, d9, d10, d11, d12, d13] [] (S, μ, cx, 41 * cx) iAI (k60 S μ cx x1 x2 x3 x4 x5 x6)) (S : mSh) (μ : mMm) (cx : Nat) (x1 : Nat) (x2 : Nat) (x3 : Nat) (x4 : Nat) (x5 : Nat) (x6 : Int32) (x7 : Int32) (t0 : Int32) (t1 : Int32) (d8 : Option Value) (d9 : Option Value) (d10 : Option Value) (d11 : Option Value) (d12 : Option Value) (d13 : Option Value) : mX (ML_law b L xs) n0 c0 s0 855 [some (.ref 1000), some (.ref x1), some (.ref x2), some (.ref x3), some (.ref x4), some (.ref x5), some (.int x6), some (.int x7), d8, d9, d10, d11, d12, d13] [.int t0, .int t1] (S, μ, cx, 41 * cx) iAI (lL_law_855 k60 L xs S μ cx x1 x2 x3 x4 x5 x6 x7 t0 t1) := by
  unfold lL_law_855
  refine x_icmp_ne (pc := 855) (tgt := 862) dL_law_855 (by decide) ?_ ?_
  · refine x_iconst (pc := 858) (v := 1) dL_law_858 (by decide) ?_
    refine x_goto (pc := 859) (tgt := 863) dL_law_859 (by decide) ?_
    exact xL_law_863 (k60 := k60) hk60 S μ cx x1 x2 x3 x4 x5 x6 x7 (1 : Int32) _ _ _ _ _ _
  · refine x_iconst (pc := 862) (v := 0) dL_law_862 (by decide) ?_
    exact xL_law_863 (k60 := k60) hk60 S μ cx x1 x2 x3 x4 x5 x6 x7 (0 : Int32) _ _ _ _ _ _
set_option maxRecDepth 100000 in
set_option maxHeartbeats 40000000 in
theorem xL_law_821 {n0 c0 s0 : Nat} {b L : Nat} {xs : Nat → Int32} {k60 : mSh → mMm → Nat → Nat → Nat → Nat → Nat → Nat → Int32 → Option (Int32 × mSh × mMm × Nat)} (hk60 : ∀ (S : mSh) (μ : mMm) (cx : Nat) (x1 : Nat) (x2 : Nat) (x3 : Nat) (x4 : Nat) (x5 : Nat) (x6 : Int32) (d7 : Option Value) (d8 : Option Value) (d9 : Option Value) (d10 : Option Value) (d11 : Option Value) (d12 : Option Value) (d13 : Option Value), mX (ML_law b L xs) n0 c0 s0 60 [some (.ref 1000), some (.ref x1), some (.ref x2), some (.ref x3), some (.ref x4), some (.ref x5), some (.int x6), d7, d8, d9, d10, d11, d12, d13] [] (S, μ, cx, 41 * cx) iAI (k60 S μ cx x1 x2 x3 x4 x5 x6)) (S : mSh) (μ : mMm) (cx : Nat) (x1 : Nat) (x2 : Nat) (x3 : Nat) (x4 : Nat) (x5 : Nat) (x6 : Int32) (x7 : Int32) (x10 : Int32) (d8 : Option Value) (d9 : Option Value) (d11 : Option Value) (d12 : Option Value) (d13 : Option Value) : mX (ML_law b L xs) n0 c0 s0 821 [some (.ref 1000), some (.ref x1), some (.ref x2), some (.ref x3), some (.ref x4), some (.ref x5), some (.int x6), some (.int x7), d8, d9, some (.int x10), d11, d12, d13] [] (S, μ, cx, 41 * cx) iAI (lL_law_821 k60 L xs S μ cx x1 x2 x3 x4 x5 x6 x7 x10) := by
  unfold lL_law_821
  refine x_goto (pc := 821) (tgt := 988) dL_law_821 (by decide) ?_
  exact xL_law_988 (k60 := k60) hk60 S μ cx x1 x2 x3 x4 x5 x6 x7 x10 _ _ _ _ _
set_option maxRecDepth 100000 in
set_option maxHeartbeats 40000000 in
theorem xL_law_786 {n0 c0 s0 : Nat} {b L : Nat} {xs : Nat → Int32} {k60 : mSh → mMm → Nat → Nat → Nat → Nat → Nat → Nat → Int32 → Option (Int32 × mSh × mMm × Nat)} (hk60 : ∀ (S : mSh) (μ : mMm) (cx : Nat) (x1 : Nat) (x2 : Nat) (x3 : Nat) (x4 : Nat) (x5 : Nat) (x6 : Int32) (d7 : Option Value) (d8 : Option Value) (d9 : Option Value) (d10 : Option Value) (d11 : Option Value) (d12 : Option Value) (d13 : Option Value), mX (ML_law b L xs) n0 c0 s0 60 [some (.ref 1000), some (.ref x1), some (.ref x2), some (.ref x3), some (.ref x4), some (.ref x5), some (.int x6), d7, d8, d9, d10, d11, d12, d13] [] (S, μ, cx, 41 * cx) iAI (k60 S μ cx x1 x2 x3 x4 x5 x6)) (S : mSh) (μ : mMm) (cx : Nat) (x1 : Nat) (x2 : Nat) (x3 : Nat) (x4 : Nat) (x5 : Nat) (x6 : Int32) (x7 : Int32) (x11 : Int32) (x12 : Int32) (x13 : Int32) (t0 : Int32) (d8 : Option Value) (d9 : Option Value) (d10 : Option Value) : mX (ML_law b L xs) n0 c0 s0 786 [some (.ref 1000), some (.ref x1), some (.ref x2), some (.ref x3), some (.ref x4), some (.ref x5), some (.int x6), some (.int x7), d8, d9, d10, some (.int x11), some (.int x12), some (.int x13)] [.int t0] (S, μ, cx, 41 * cx) iAI (lL_law_786 k60 L xs S μ cx x1 x2 x3 x4 x5 x6 x7 x11 x12 x13 t0) := by
  unfold lL_law_786
  refine x_istore (pc := 786) dL_law_786 (Nat.le_of_ble_eq_true rfl) (l' := [some (.ref 1000), some (.ref x1), some (.ref x2), some (.ref x3), some (.ref x4), some (.ref x5), some (.int x6), some (.int x7), d8, (kl d9), some (.int t0), some (.int x11), some (.int x12), some (.int x13)]) rfl ?_
  refine x_iload (pc := 788) dL_law_788 rfl ?_
  refine x_if_eq (pc := 790) (tgt := 821) dL_law_790 (by decide) ?_ ?_
  · exact xL_law_821 (k60 := k60) hk60 S μ cx x1 x2 x3 x4 x5 x6 x7 t0 _ _ _ _ _
  · refine x_aload_n (pc := 793) dL_law_793 (i := 3) rfl rfl ?_
    refine x_aload (pc := 794) dL_law_794 rfl ?_
    refine x_bipush (pc := 796) (v := 6) dL_law_796 (by decide) ?_
    refine x_ldI (pc := 798) dL_law_798 (fun v44 => ?_)
    refine x_iload (pc := 799) dL_law_799 rfl ?_
    refine x_stI (pc := 801) dL_law_801 (fun m45 => ?_)
    refine x_aload (pc := 802) dL_law_802 rfl ?_
    refine x_aload (pc := 804) dL_law_804 rfl ?_
    refine x_bipush (pc := 806) (v := 6) dL_law_806 (by decide) ?_
    refine x_ldI (pc := 808) dL_law_808 (fun v46 => ?_)
    refine x_iload (pc := 809) dL_law_809 rfl ?_
    refine x_stI (pc := 811) dL_law_811 (fun m47 => ?_)
    refine x_aload (pc := 812) dL_law_812 rfl ?_
    refine x_bipush (pc := 814) (v := 6) dL_law_814 (by decide) ?_
    refine x_dup2 (pc := 816) dL_law_816 rfl rfl ?_
    refine x_ldI (pc := 817) dL_law_817 (fun v48 => ?_)
    refine x_iconst (pc := 818) (v := 1) dL_law_818 (by decide) ?_
    refine x_iadd (pc := 819) dL_law_819 ?_
    refine x_stI (pc := 820) dL_law_820 (fun m49 => ?_)
    exact xL_law_821 (k60 := k60) hk60 S m49 cx x1 x2 x3 x4 x5 x6 x7 t0 _ _ _ _ _
set_option maxRecDepth 100000 in
set_option maxHeartbeats 40000000 in
theorem xL_law_778 {n0 c0 s0 : Nat} {b L : Nat} {xs : Nat → Int32} {k60 : mSh → mMm → Nat → Nat → Nat → Nat → Nat → Nat → Int32 → Option (Int32 × mSh × mMm × Nat)} (hk60 : ∀ (S : mSh) (μ : mMm) (cx : Nat) (x1 : Nat) (x2 : Nat) (x3 : Nat) (x4 : Nat) (x5 : Nat) (x6 : Int32) (d7 : Option Value) (d8 : Option Value) (d9 : Option Value) (d10 : Option Value) (d11 : Option Value) (d12 : Option Value) (d13 : Option Value), mX (ML_law b L xs) n0 c0 s0 60 [some (.ref 1000), some (.ref x1), some (.ref x2), some (.ref x3), some (.ref x4), some (.ref x5), some (.int x6), d7, d8, d9, d10, d11, d12, d13] [] (S, μ, cx, 41 * cx) iAI (k60 S μ cx x1 x2 x3 x4 x5 x6)) (S : mSh) (μ : mMm) (cx : Nat) (x1 : Nat) (x2 : Nat) (x3 : Nat) (x4 : Nat) (x5 : Nat) (x6 : Int32) (x7 : Int32) (x11 : Int32) (x12 : Int32) (x13 : Int32) (t0 : Int32) (t1 : Int32) (d8 : Option Value) (d9 : Option Value) (d10 : Option Value) : mX (ML_law b L xs) n0 c0 s0 778 [some (.ref 1000), some (.ref x1), some (.ref x2), some (.ref x3), some (.ref x4), some (.ref x5), some (.int x6), some (.int x7), d8, d9, d10, some (.int x11), some (.int x12), some (.int x13)] [.int t0, .int t1] (S, μ, cx, 41 * cx) iAI (lL_law_778 k60 L xs S μ cx x1 x2 x3 x4 x5 x6 x7 x11 x12 x13 t0 t1) := by
  unfold lL_law_778
  refine x_icmp_ne (pc := 778) (tgt := 785) dL_law_778 (by decide) ?_ ?_
  · refine x_iconst (pc := 781) (v := 1) dL_law_781 (by decide) ?_
    refine x_goto (pc := 782) (tgt := 786) dL_law_782 (by decide) ?_
    exact xL_law_786 (k60 := k60) hk60 S μ cx x1 x2 x3 x4 x5 x6 x7 x11 x12 x13 (1 : Int32) _ _ _
  · refine x_iconst (pc := 785) (v := 0) dL_law_785 (by decide) ?_
    exact xL_law_786 (k60 := k60) hk60 S μ cx x1 x2 x3 x4 x5 x6 x7 x11 x12 x13 (0 : Int32) _ _ _
set_option maxRecDepth 100000 in
set_option maxHeartbeats 40000000 in
theorem xL_law_751 {n0 c0 s0 : Nat} {b L : Nat} {xs : Nat → Int32} {k60 : mSh → mMm → Nat → Nat → Nat → Nat → Nat → Nat → Int32 → Option (Int32 × mSh × mMm × Nat)} (hk60 : ∀ (S : mSh) (μ : mMm) (cx : Nat) (x1 : Nat) (x2 : Nat) (x3 : Nat) (x4 : Nat) (x5 : Nat) (x6 : Int32) (d7 : Option Value) (d8 : Option Value) (d9 : Option Value) (d10 : Option Value) (d11 : Option Value) (d12 : Option Value) (d13 : Option Value), mX (ML_law b L xs) n0 c0 s0 60 [some (.ref 1000), some (.ref x1), some (.ref x2), some (.ref x3), some (.ref x4), some (.ref x5), some (.int x6), d7, d8, d9, d10, d11, d12, d13] [] (S, μ, cx, 41 * cx) iAI (k60 S μ cx x1 x2 x3 x4 x5 x6)) (S : mSh) (μ : mMm) (cx : Nat) (x1 : Nat) (x2 : Nat) (x3 : Nat) (x4 : Nat) (x5 : Nat) (x6 : Int32) (x7 : Int32) (x11 : Int32) (x12 : Int32) (t0 : Int32) (d8 : Option Value) (d9 : Option Value) (d10 : Option Value) (d13 : Option Value) : mX (ML_law b L xs) n0 c0 s0 751 [some (.ref 1000), some (.ref x1), some (.ref x2), some (.ref x3), some (.ref x4), some (.ref x5), some (.int x6), some (.int x7), d8, d9, d10, some (.int x11), some (.int x12), d13] [.int t0] (S, μ, cx, 41 * cx) iAI (lL_law_751 k60 L xs S μ cx x1 x2 x3 x4 x5 x6 x7 x11 x12 t0) := by
  unfold lL_law_751
  refine x_istore (pc := 751) dL_law_751 (Nat.le_of_ble_eq_true rfl) (l' := [some (.ref 1000), some (.ref x1), some (.ref x2), some (.ref x3), some (.ref x4), some (.ref x5), some (.int x6), some (.int x7), d8, d9, d10, some (.int x11), some (.int x12), some (.int t0)]) rfl ?_
  refine x_aload_n (pc := 753) dL_law_753 (i := 1) rfl rfl ?_
  refine x_iload (pc := 754) dL_law_754 rfl ?_
  refine x_iload (pc := 756) dL_law_756 rfl ?_
  refine x_callH (pc := 758) (As := [.ref x1, .int x11, .int x12]) (rest := []) (mL_token S μ cx (41 * cx) x1 x11 x12) rfl dL_law_758 q369 kL_token rfl ⟨Nat.le_of_ble_eq_true rfl, Nat.le_of_ble_eq_true rfl⟩ rfl (Nat.le_of_ble_eq_true rfl) (fun r43 => ?_)
  refine x_iload (pc := 761) dL_law_761 rfl ?_
  refine x_if_eq (pc := 763) (tgt := 776) dL_law_763 (by decide) ?_ ?_
  · refine x_bipush (pc := 776) (v := -102) dL_law_776 (by decide) ?_
    exact xL_law_778 (k60 := k60) hk60 S r43.2.1 (cx + r43.2.2) x1 x2 x3 x4 x5 x6 x7 x11 x12 t0 (-102 : Int32) r43.1 _ _ _
  · refine x_aload (pc := 766) dL_law_766 rfl ?_
    refine x_bipush (pc := 768) (v := 6) dL_law_768 (by decide) ?_
    refine x_ldI (pc := 770) dL_law_770 (fun v50 => ?_)
    refine x_iconst (pc := 771) (v := 1) dL_law_771 (by decide) ?_
    refine x_iadd (pc := 772) dL_law_772 ?_
    refine x_goto (pc := 773) (tgt := 778) dL_law_773 (by decide) ?_
    exact xL_law_778 (k60 := k60) hk60 S r43.2.1 (cx + r43.2.2) x1 x2 x3 x4 x5 x6 x7 x11 x12 t0 (v50 + (1 : Int32)) r43.1 _ _ _
set_option maxRecDepth 100000 in
set_option maxHeartbeats 40000000 in
theorem xL_law_734 {n0 c0 s0 : Nat} {b L : Nat} {xs : Nat → Int32} {k60 : mSh → mMm → Nat → Nat → Nat → Nat → Nat → Nat → Int32 → Option (Int32 × mSh × mMm × Nat)} (hk60 : ∀ (S : mSh) (μ : mMm) (cx : Nat) (x1 : Nat) (x2 : Nat) (x3 : Nat) (x4 : Nat) (x5 : Nat) (x6 : Int32) (d7 : Option Value) (d8 : Option Value) (d9 : Option Value) (d10 : Option Value) (d11 : Option Value) (d12 : Option Value) (d13 : Option Value), mX (ML_law b L xs) n0 c0 s0 60 [some (.ref 1000), some (.ref x1), some (.ref x2), some (.ref x3), some (.ref x4), some (.ref x5), some (.int x6), d7, d8, d9, d10, d11, d12, d13] [] (S, μ, cx, 41 * cx) iAI (k60 S μ cx x1 x2 x3 x4 x5 x6)) (S : mSh) (μ : mMm) (cx : Nat) (x1 : Nat) (x2 : Nat) (x3 : Nat) (x4 : Nat) (x5 : Nat) (x6 : Int32) (x7 : Int32) (x11 : Int32) (t0 : Int32) (d8 : Option Value) (d9 : Option Value) (d10 : Option Value) (d12 : Option Value) (d13 : Option Value) : mX (ML_law b L xs) n0 c0 s0 734 [some (.ref 1000), some (.ref x1), some (.ref x2), some (.ref x3), some (.ref x4), some (.ref x5), some (.int x6), some (.int x7), d8, d9, d10, some (.int x11), d12, d13] [.int t0] (S, μ, cx, 41 * cx) iAI (lL_law_734 k60 L xs S μ cx x1 x2 x3 x4 x5 x6 x7 x11 t0) := by
  unfold lL_law_734
  refine x_istore (pc := 734) dL_law_734 (Nat.le_of_ble_eq_true rfl) (l' := [some (.ref 1000), some (.ref x1), some (.ref x2), some (.ref x3), some (.ref x4), some (.ref x5), some (.int x6), some (.int x7), d8, d9, d10, some (.int x11), some (.int t0), d13]) rfl ?_
  refine x_aload (pc := 736) dL_law_736 rfl ?_
  refine x_bipush (pc := 738) (v := 6) dL_law_738 (by decide) ?_
  refine x_ldI (pc := 740) dL_law_740 (fun v42 => ?_)
  refine x_bipush (pc := 741) (v := 40) dL_law_741 (by decide) ?_
  refine x_icmp_ge (pc := 743) (tgt := 750) dL_law_743 (by decide) ?_ ?_
  · refine x_iconst (pc := 750) (v := 0) dL_law_750 (by decide) ?_
    exact xL_law_751 (k60 := k60) hk60 S μ cx x1 x2 x3 x4 x5 x6 x7 x11 t0 (0 : Int32) _ _ _ _
  · refine x_iconst (pc := 746) (v := 1) dL_law_746 (by decide) ?_
    refine x_goto (pc := 747) (tgt := 751) dL_law_747 (by decide) ?_
    exact xL_law_751 (k60 := k60) hk60 S μ cx x1 x2 x3 x4 x5 x6 x7 x11 t0 (1 : Int32) _ _ _ _
set_option maxRecDepth 100000 in
set_option maxHeartbeats 40000000 in
theorem xL_law_708 {n0 c0 s0 : Nat} {b L : Nat} {xs : Nat → Int32} {k60 : mSh → mMm → Nat → Nat → Nat → Nat → Nat → Nat → Int32 → Option (Int32 × mSh × mMm × Nat)} (hk60 : ∀ (S : mSh) (μ : mMm) (cx : Nat) (x1 : Nat) (x2 : Nat) (x3 : Nat) (x4 : Nat) (x5 : Nat) (x6 : Int32) (d7 : Option Value) (d8 : Option Value) (d9 : Option Value) (d10 : Option Value) (d11 : Option Value) (d12 : Option Value) (d13 : Option Value), mX (ML_law b L xs) n0 c0 s0 60 [some (.ref 1000), some (.ref x1), some (.ref x2), some (.ref x3), some (.ref x4), some (.ref x5), some (.int x6), d7, d8, d9, d10, d11, d12, d13] [] (S, μ, cx, 41 * cx) iAI (k60 S μ cx x1 x2 x3 x4 x5 x6)) (S : mSh) (μ : mMm) (cx : Nat) (x1 : Nat) (x2 : Nat) (x3 : Nat) (x4 : Nat) (x5 : Nat) (x6 : Int32) (x7 : Int32) (x9 : Int32) (t0 : Int32) (d8 : Option Value) (d10 : Option Value) (d11 : Option Value) (d12 : Option Value) (d13 : Option Value) : mX (ML_law b L xs) n0 c0 s0 708 [some (.ref 1000), some (.ref x1), some (.ref x2), some (.ref x3), some (.ref x4), some (.ref x5), some (.int x6), some (.int x7), d8, some (.int x9), d10, d11, d12, d13] [.int t0] (S, μ, cx, 41 * cx) iAI (lL_law_708 k60 L xs S μ cx x1 x2 x3 x4 x5 x6 x7 x9 t0) := by
  unfold lL_law_708
  refine x_istore (pc := 708) dL_law_708 (Nat.le_of_ble_eq_true rfl) (l' := [some (.ref 1000), some (.ref x1), some (.ref x2), some (.ref x3), some (.ref x4), some (.ref x5), some (.int x6), some (.int x7), d8, some (.int x9), (kl d10), some (.int t0), d12, d13]) rfl ?_
  refine x_iload (pc := 710) dL_law_710 rfl ?_
  refine x_if_ne (pc := 712) (tgt := 722) dL_law_712 (by decide) ?_ ?_
  · refine x_iload (pc := 715) dL_law_715 rfl ?_
    refine x_iconst (pc := 717) (v := 4) dL_law_717 (by decide) ?_
    refine x_irem (pc := 718) dL_law_718 (fun v51 => ?_)
    refine x_goto (pc := 719) (tgt := 734) dL_law_719 (by decide) ?_
    exact xL_law_734 (k60 := k60) hk60 S μ cx x1 x2 x3 x4 x5 x6 x7 t0 v51 _ _ _ _ _
  · refine x_iconst (pc := 722) (v := 1) dL_law_722 (by decide) ?_
    refine x_iload (pc := 723) dL_law_723 rfl ?_
    refine x_bipush (pc := 725) (v := 13) dL_law_725 (by decide) ?_
    refine x_ishr (pc := 727) dL_law_727 ?_
    refine x_bipush (pc := 728) (v := 9) dL_law_728 (by decide) ?_
    refine x_callSi (pc := 730) (As := [.int (x7 >>> ((13 : Int32) &&& 31)), .int (9 : Int32)]) (rest := [.int (1 : Int32)]) (vx := fun a => a) (μf := fun _ => μ) (mL_low S μ cx (41 * cx) (x7 >>> ((13 : Int32) &&& 31)) (9 : Int32)) (fun _ => rfl) rfl dL_law_730 q134 kL_low rfl ⟨Nat.le_of_ble_eq_true rfl, Nat.le_of_ble_eq_true rfl⟩ rfl (Nat.le_of_ble_eq_true rfl) (fun v41 => ?_)
    refine x_iadd (pc := 733) dL_law_733 ?_
    exact xL_law_734 (k60 := k60) hk60 S μ cx x1 x2 x3 x4 x5 x6 x7 t0 ((1 : Int32) + v41) _ _ _ _ _
set_option maxRecDepth 100000 in
set_option maxHeartbeats 40000000 in
theorem xL_law_674 {n0 c0 s0 : Nat} {b L : Nat} {xs : Nat → Int32} {k60 : mSh → mMm → Nat → Nat → Nat → Nat → Nat → Nat → Int32 → Option (Int32 × mSh × mMm × Nat)} (hk60 : ∀ (S : mSh) (μ : mMm) (cx : Nat) (x1 : Nat) (x2 : Nat) (x3 : Nat) (x4 : Nat) (x5 : Nat) (x6 : Int32) (d7 : Option Value) (d8 : Option Value) (d9 : Option Value) (d10 : Option Value) (d11 : Option Value) (d12 : Option Value) (d13 : Option Value), mX (ML_law b L xs) n0 c0 s0 60 [some (.ref 1000), some (.ref x1), some (.ref x2), some (.ref x3), some (.ref x4), some (.ref x5), some (.int x6), d7, d8, d9, d10, d11, d12, d13] [] (S, μ, cx, 41 * cx) iAI (k60 S μ cx x1 x2 x3 x4 x5 x6)) (S : mSh) (μ : mMm) (cx : Nat) (x1 : Nat) (x2 : Nat) (x3 : Nat) (x4 : Nat) (x5 : Nat) (x6 : Int32) (x7 : Int32) (x10 : Int32) (t0 : Int32) (t1 : Int32) (t2 : Nat) (d8 : Option Value) (d9 : Option Value) (d11 : Option Value) (d12 : Option Value) (d13 : Option Value) : mX (ML_law b L xs) n0 c0 s0 674 [some (.ref 1000), some (.ref x1), some (.ref x2), some (.ref x3), some (.ref x4), some (.ref x5), some (.int x6), some (.int x7), d8, d9, some (.int x10), d11, d12, d13] [.int t0, .int t1, .ref t2] (S, μ, cx, 41 * cx) iAI (lL_law_674 k60 L xs S μ cx x1 x2 x3 x4 x5 x6 x7 x10 t0 t1 t2) := by
  unfold lL_law_674
  refine x_stI (pc := 674) dL_law_674 (fun m55 => ?_)
  refine x_goto (pc := 675) (tgt := 988) dL_law_675 (by decide) ?_
  exact xL_law_988 (k60 := k60) hk60 S m55 cx x1 x2 x3 x4 x5 x6 x7 x10 _ _ _ _ _
set_option maxRecDepth 100000 in
set_option maxHeartbeats 40000000 in
theorem xL_law_635 {n0 c0 s0 : Nat} {b L : Nat} {xs : Nat → Int32} {k60 : mSh → mMm → Nat → Nat → Nat → Nat → Nat → Nat → Int32 → Option (Int32 × mSh × mMm × Nat)} (hk60 : ∀ (S : mSh) (μ : mMm) (cx : Nat) (x1 : Nat) (x2 : Nat) (x3 : Nat) (x4 : Nat) (x5 : Nat) (x6 : Int32) (d7 : Option Value) (d8 : Option Value) (d9 : Option Value) (d10 : Option Value) (d11 : Option Value) (d12 : Option Value) (d13 : Option Value), mX (ML_law b L xs) n0 c0 s0 60 [some (.ref 1000), some (.ref x1), some (.ref x2), some (.ref x3), some (.ref x4), some (.ref x5), some (.int x6), d7, d8, d9, d10, d11, d12, d13] [] (S, μ, cx, 41 * cx) iAI (k60 S μ cx x1 x2 x3 x4 x5 x6)) : ∀ (n : Nat) (S : mSh) (μ : mMm) (cx : Nat) (x1 : Nat) (x2 : Nat) (x3 : Nat) (x4 : Nat) (x5 : Nat) (x6 : Int32) (x7 : Int32) (x10 : Int32) (x11 : Nat) (x12 : Int32) (x13 : Int32) (d8 : Option Value) (d9 : Option Value), mX (ML_law b L xs) n0 c0 s0 635 [some (.ref 1000), some (.ref x1), some (.ref x2), some (.ref x3), some (.ref x4), some (.ref x5), some (.int x6), some (.int x7), d8, d9, some (.int x10), some (.ref x11), some (.int x12), some (.int x13)] [] (S, μ, cx, 41 * cx) iAI (lL_law_635 k60 L xs n S μ cx x1 x2 x3 x4 x5 x6 x7 x10 x11 x12 x13) := by
  intro n
  induction n with
  | zero => intros; exact x_none
  | succ n ih =>
    intro S μ cx x1 x2 x3 x4 x5 x6 x7 x10 x11 x12 x13 d8 d9
    unfold lL_law_635
    refine x_iload (pc := 635) dL_law_635 rfl ?_
    refine x_iload (pc := 637) dL_law_637 rfl ?_
    refine x_icmp_ge (pc := 639) (tgt := 657) dL_law_639 (by decide) ?_ ?_
    · refine x_aload (pc := 657) dL_law_657 rfl ?_
      refine x_iconst (pc := 659) (v := 0) dL_law_659 (by decide) ?_
      refine x_iload (pc := 660) dL_law_660 rfl ?_
      refine x_if_ge (pc := 662) (tgt := 672) dL_law_662 (by decide) ?_ ?_
      · refine x_iload (pc := 672) dL_law_672 rfl ?_
        exact xL_law_674 (k60 := k60) hk60 S μ cx x1 x2 x3 x4 x5 x6 x7 x10 x12 (0 : Int32) x5 _ _ _ _ _
      · refine x_aload (pc := 665) dL_law_665 rfl ?_
        refine x_iconst (pc := 667) (v := 0) dL_law_667 (by decide) ?_
        refine x_ldI (pc := 668) dL_law_668 (fun v56 => ?_)
        refine x_goto (pc := 669) (tgt := 674) dL_law_669 (by decide) ?_
        exact xL_law_674 (k60 := k60) hk60 S μ cx x1 x2 x3 x4 x5 x6 x7 x10 v56 (0 : Int32) x5 _ _ _ _ _
    · refine x_aload_n (pc := 642) dL_law_642 (i := 2) rfl rfl ?_
      refine x_iload (pc := 643) dL_law_643 rfl ?_
      refine x_aload (pc := 645) dL_law_645 rfl ?_
      refine x_iload (pc := 647) dL_law_647 rfl ?_
      refine x_ldI (pc := 649) dL_law_649 (fun v57 => ?_)
      refine x_stI (pc := 650) dL_law_650 (fun m58 => ?_)
      refine x_iinc (pc := 651) (v := x13 + (1 : Int32)) dL_law_651 rfl (by rw [show Int32.ofInt (1) = (1 : Int32) from by decide]) (Nat.le_of_ble_eq_true rfl) (l' := [some (.ref 1000), some (.ref x1), some (.ref x2), some (.ref x3), some (.ref x4), some (.ref x5), some (.int x6), some (.int x7), d8, d9, some (.int x10), some (.ref x11), some (.int x12), some (.int (x13 + (1 : Int32)))]) rfl ?_
      refine x_goto (pc := 654) (tgt := 635) dL_law_654 (by decide) ?_
      exact ih S m58 cx x1 x2 x3 x4 x5 x6 x7 x10 x11 x12 (x13 + (1 : Int32)) _ _
set_option maxRecDepth 100000 in
set_option maxHeartbeats 40000000 in
theorem xL_law_630 {n0 c0 s0 : Nat} {b L : Nat} {xs : Nat → Int32} {k60 : mSh → mMm → Nat → Nat → Nat → Nat → Nat → Nat → Int32 → Option (Int32 × mSh × mMm × Nat)} (hk60 : ∀ (S : mSh) (μ : mMm) (cx : Nat) (x1 : Nat) (x2 : Nat) (x3 : Nat) (x4 : Nat) (x5 : Nat) (x6 : Int32) (d7 : Option Value) (d8 : Option Value) (d9 : Option Value) (d10 : Option Value) (d11 : Option Value) (d12 : Option Value) (d13 : Option Value), mX (ML_law b L xs) n0 c0 s0 60 [some (.ref 1000), some (.ref x1), some (.ref x2), some (.ref x3), some (.ref x4), some (.ref x5), some (.int x6), d7, d8, d9, d10, d11, d12, d13] [] (S, μ, cx, 41 * cx) iAI (k60 S μ cx x1 x2 x3 x4 x5 x6)) (S : mSh) (μ : mMm) (cx : Nat) (x1 : Nat) (x2 : Nat) (x3 : Nat) (x4 : Nat) (x5 : Nat) (x6 : Int32) (x7 : Int32) (x11 : Nat) (x12 : Int32) (t0 : Int32) (d8 : Option Value) (d9 : Option Value) (d10 : Option Value) (d13 : Option Value) : mX (ML_law b L xs) n0 c0 s0 630 [some (.ref 1000), some (.ref x1), some (.ref x2), some (.ref x3), some (.ref x4), some (.ref x5), some (.int x6), some (.int x7), d8, d9, d10, some (.ref x11), some (.int x12), d13] [.int t0] (S, μ, cx, 41 * cx) iAI (lL_law_630 k60 L xs S μ cx x1 x2 x3 x4 x5 x6 x7 x11 x12 t0) := by
  unfold lL_law_630
  refine x_istore (pc := 630) dL_law_630 (Nat.le_of_ble_eq_true rfl) (l' := [some (.ref 1000), some (.ref x1), some (.ref x2), some (.ref x3), some (.ref x4), some (.ref x5), some (.int x6), some (.int x7), d8, (kl d9), some (.int t0), some (.ref x11), some (.int x12), d13]) rfl ?_
  refine x_iconst (pc := 632) (v := 0) dL_law_632 (by decide) ?_
  refine x_istore (pc := 633) dL_law_633 (Nat.le_of_ble_eq_true rfl) (l' := [some (.ref 1000), some (.ref x1), some (.ref x2), some (.ref x3), some (.ref x4), some (.ref x5), some (.int x6), some (.int x7), d8, (kl d9), some (.int t0), some (.ref x11), some (.int x12), some (.int (0 : Int32))]) rfl ?_
  exact xL_law_635 (k60 := k60) hk60 FU S μ cx x1 x2 x3 x4 x5 x6 x7 t0 x11 x12 (0 : Int32) _ _
set_option maxRecDepth 100000 in
set_option maxHeartbeats 40000000 in
theorem xL_law_622 {n0 c0 s0 : Nat} {b L : Nat} {xs : Nat → Int32} {k60 : mSh → mMm → Nat → Nat → Nat → Nat → Nat → Nat → Int32 → Option (Int32 × mSh × mMm × Nat)} (hk60 : ∀ (S : mSh) (μ : mMm) (cx : Nat) (x1 : Nat) (x2 : Nat) (x3 : Nat) (x4 : Nat) (x5 : Nat) (x6 : Int32) (d7 : Option Value) (d8 : Option Value) (d9 : Option Value) (d10 : Option Value) (d11 : Option Value) (d12 : Option Value) (d13 : Option Value), mX (ML_law b L xs) n0 c0 s0 60 [some (.ref 1000), some (.ref x1), some (.ref x2), some (.ref x3), some (.ref x4), some (.ref x5), some (.int x6), d7, d8, d9, d10, d11, d12, d13] [] (S, μ, cx, 41 * cx) iAI (k60 S μ cx x1 x2 x3 x4 x5 x6)) (S : mSh) (μ : mMm) (cx : Nat) (x1 : Nat) (x2 : Nat) (x3 : Nat) (x4 : Nat) (x5 : Nat) (x6 : Int32) (x7 : Int32) (x11 : Nat) (x12 : Int32) (t0 : Int32) (t1 : Int32) (d8 : Option Value) (d9 : Option Value) (d10 : Option Value) (d13 : Option Value) : mX (ML_law b L xs) n0 c0 s0 622 [some (.ref 1000), some (.ref x1), some (.ref x2), some (.ref x3), some (.ref x4), some (.ref x5), some (.int x6), some (.int x7), d8, d9, d10, some (.ref x11), some (.int x12), d13] [.int t0, .int t1] (S, μ, cx, 41 * cx) iAI (lL_law_622 k60 L xs S μ cx x1 x2 x3 x4 x5 x6 x7 x11 x12 t0 t1) := by
  unfold lL_law_622
  refine x_icmp_ne (pc := 622) (tgt := 629) dL_law_622 (by decide) ?_ ?_
  · refine x_iconst (pc := 625) (v := 1) dL_law_625 (by decide) ?_
    refine x_goto (pc := 626) (tgt := 630) dL_law_626 (by decide) ?_
    exact xL_law_630 (k60 := k60) hk60 S μ cx x1 x2 x3 x4 x5 x6 x7 x11 x12 (1 : Int32) _ _ _ _
  · refine x_iconst (pc := 629) (v := 0) dL_law_629 (by decide) ?_
    exact xL_law_630 (k60 := k60) hk60 S μ cx x1 x2 x3 x4 x5 x6 x7 x11 x12 (0 : Int32) _ _ _ _
set_option maxRecDepth 100000 in
set_option maxHeartbeats 40000000 in
theorem xL_law_576 {n0 c0 s0 : Nat} {b L : Nat} {xs : Nat → Int32} {k60 : mSh → mMm → Nat → Nat → Nat → Nat → Nat → Nat → Int32 → Option (Int32 × mSh × mMm × Nat)} (hk60 : ∀ (S : mSh) (μ : mMm) (cx : Nat) (x1 : Nat) (x2 : Nat) (x3 : Nat) (x4 : Nat) (x5 : Nat) (x6 : Int32) (d7 : Option Value) (d8 : Option Value) (d9 : Option Value) (d10 : Option Value) (d11 : Option Value) (d12 : Option Value) (d13 : Option Value), mX (ML_law b L xs) n0 c0 s0 60 [some (.ref 1000), some (.ref x1), some (.ref x2), some (.ref x3), some (.ref x4), some (.ref x5), some (.int x6), d7, d8, d9, d10, d11, d12, d13] [] (S, μ, cx, 41 * cx) iAI (k60 S μ cx x1 x2 x3 x4 x5 x6)) (S : mSh) (μ : mMm) (cx : Nat) (x1 : Nat) (x2 : Nat) (x3 : Nat) (x4 : Nat) (x5 : Nat) (x6 : Int32) (x7 : Int32) (t0 : Int32) (d8 : Option Value) (d9 : Option Value) (d10 : Option Value) (d11 : Option Value) (d12 : Option Value) (d13 : Option Value) : mX (ML_law b L xs) n0 c0 s0 576 [some (.ref 1000), some (.ref x1), some (.ref x2), some (.ref x3), some (.ref x4), some (.ref x5), some (.int x6), some (.int x7), d8, d9, d10, d11, d12, d13] [.int t0] (S, μ, cx, 41 * cx) iAI (lL_law_576 k60 L xs S μ cx x1 x2 x3 x4 x5 x6 x7 t0) := by
  unfold lL_law_576
  refine x_istore (pc := 576) dL_law_576 (Nat.le_of_ble_eq_true rfl) (l' := [some (.ref 1000), some (.ref x1), some (.ref x2), some (.ref x3), some (.ref x4), some (.ref x5), some (.int x6), some (.int x7), d8, (kl d9), some (.int t0), d11, d12, d13]) rfl ?_
  refine x_goto (pc := 578) (tgt := 988) dL_law_578 (by decide) ?_
  exact xL_law_988 (k60 := k60) hk60 S μ cx x1 x2 x3 x4 x5 x6 x7 t0 _ _ _ _ _
set_option maxRecDepth 100000 in
set_option maxHeartbeats 40000000 in
theorem xL_law_491 {n0 c0 s0 : Nat} {b L : Nat} {xs : Nat → Int32} {k60 : mSh → mMm → Nat → Nat → Nat → Nat → Nat → Nat → Int32 → Option (Int32 × mSh × mMm × Nat)} (hk60 : ∀ (S : mSh) (μ : mMm) (cx : Nat) (x1 : Nat) (x2 : Nat) (x3 : Nat) (x4 : Nat) (x5 : Nat) (x6 : Int32) (d7 : Option Value) (d8 : Option Value) (d9 : Option Value) (d10 : Option Value) (d11 : Option Value) (d12 : Option Value) (d13 : Option Value), mX (ML_law b L xs) n0 c0 s0 60 [some (.ref 1000), some (.ref x1), some (.ref x2), some (.ref x3), some (.ref x4), some (.ref x5), some (.int x6), d7, d8, d9, d10, d11, d12, d13] [] (S, μ, cx, 41 * cx) iAI (k60 S μ cx x1 x2 x3 x4 x5 x6)) (S : mSh) (μ : mMm) (cx : Nat) (x1 : Nat) (x2 : Nat) (x3 : Nat) (x4 : Nat) (x5 : Nat) (x6 : Int32) (x7 : Int32) (x9 : Int32) (t0 : Int32) (d8 : Option Value) (d10 : Option Value) (d11 : Option Value) (d12 : Option Value) (d13 : Option Value) : mX (ML_law b L xs) n0 c0 s0 491 [some (.ref 1000), some (.ref x1), some (.ref x2), some (.ref x3), some (.ref x4), some (.ref x5), some (.int x6), some (.int x7), d8, some (.int x9), d10, d11, d12, d13] [.int t0] (S, μ, cx, 41 * cx) iAI (lL_law_491 k60 L xs S μ cx x1 x2 x3 x4 x5 x6 x7 x9 t0) := by
  unfold lL_law_491
  refine x_istore (pc := 491) dL_law_491 (Nat.le_of_ble_eq_true rfl) (l' := [some (.ref 1000), some (.ref x1), some (.ref x2), some (.ref x3), some (.ref x4), some (.ref x5), some (.int x6), some (.int x7), d8, some (.int x9), some (.int t0), d11, d12, d13]) rfl ?_
  refine x_aload (pc := 493) dL_law_493 rfl ?_
  refine x_iconst (pc := 495) (v := 4) dL_law_495 (by decide) ?_
  refine x_iconst (pc := 496) (v := 1) dL_law_496 (by decide) ?_
  refine x_iload (pc := 497) dL_law_497 rfl ?_
  refine x_bipush (pc := 499) (v := 9) dL_law_499 (by decide) ?_
  refine x_irem (pc := 501) dL_law_501 (fun v67 => ?_)
  refine x_iadd (pc := 502) dL_law_502 ?_
  refine x_stI (pc := 503) dL_law_503 (fun m68 => ?_)
  refine x_aload (pc := 504) dL_law_504 rfl ?_
  refine x_iconst (pc := 506) (v := 5) dL_law_506 (by decide) ?_
  refine x_iconst (pc := 507) (v := 1) dL_law_507 (by decide) ?_
  refine x_iload (pc := 508) dL_law_508 rfl ?_
  refine x_bipush (pc := 510) (v := 11) dL_law_510 (by decide) ?_
  refine x_ishr (pc := 512) dL_law_512 ?_
  refine x_bipush (pc := 513) (v := 20) dL_law_513 (by decide) ?_
  refine x_callSi (pc := 515) (As := [.int (x7 >>> ((11 : Int32) &&& 31)), .int (20 : Int32)]) (rest := [.int (1 : Int32), .int (5 : Int32), .ref x5]) (vx := fun a => a) (μf := fun _ => m68) (mL_low S m68 cx (41 * cx) (x7 >>> ((11 : Int32) &&& 31)) (20 : Int32)) (fun _ => rfl) rfl dL_law_515 q134 kL_low rfl ⟨Nat.le_of_ble_eq_true rfl, Nat.le_of_ble_eq_true rfl⟩ rfl (Nat.le_of_ble_eq_true rfl) (fun v69 => ?_)
  refine x_iadd (pc := 518) dL_law_518 ?_
  refine x_stI (pc := 519) dL_law_519 (fun m70 => ?_)
  refine x_goto (pc := 520) (tgt := 988) dL_law_520 (by decide) ?_
  exact xL_law_988 (k60 := k60) hk60 S m70 cx x1 x2 x3 x4 x5 x6 x7 t0 _ _ _ _ _
set_option maxRecDepth 100000 in
set_option maxHeartbeats 40000000 in
theorem xL_law_490 {n0 c0 s0 : Nat} {b L : Nat} {xs : Nat → Int32} {k60 : mSh → mMm → Nat → Nat → Nat → Nat → Nat → Nat → Int32 → Option (Int32 × mSh × mMm × Nat)} (hk60 : ∀ (S : mSh) (μ : mMm) (cx : Nat) (x1 : Nat) (x2 : Nat) (x3 : Nat) (x4 : Nat) (x5 : Nat) (x6 : Int32) (d7 : Option Value) (d8 : Option Value) (d9 : Option Value) (d10 : Option Value) (d11 : Option Value) (d12 : Option Value) (d13 : Option Value), mX (ML_law b L xs) n0 c0 s0 60 [some (.ref 1000), some (.ref x1), some (.ref x2), some (.ref x3), some (.ref x4), some (.ref x5), some (.int x6), d7, d8, d9, d10, d11, d12, d13] [] (S, μ, cx, 41 * cx) iAI (k60 S μ cx x1 x2 x3 x4 x5 x6)) (S : mSh) (μ : mMm) (cx : Nat) (x1 : Nat) (x2 : Nat) (x3 : Nat) (x4 : Nat) (x5 : Nat) (x6 : Int32) (x7 : Int32) (x9 : Int32) (d8 : Option Value) (d10 : Option Value) (d11 : Option Value) (d12 : Option Value) (d13 : Option Value) : mX (ML_law b L xs) n0 c0 s0 490 [some (.ref 1000), some (.ref x1), some (.ref x2), some (.ref x3), some (.ref x4), some (.ref x5), some (.int x6), some (.int x7), d8, some (.int x9), d10, d11, d12, d13] [] (S, μ, cx, 41 * cx) iAI (lL_law_490 k60 L xs S μ cx x1 x2 x3 x4 x5 x6 x7 x9) := by
  unfold lL_law_490
  refine x_iconst (pc := 490) (v := 0) dL_law_490 (by decide) ?_
  exact xL_law_491 (k60 := k60) hk60 S μ cx x1 x2 x3 x4 x5 x6 x7 x9 (0 : Int32) _ _ _ _ _
set_option maxRecDepth 100000 in
set_option maxHeartbeats 40000000 in
theorem xL_law_407 {n0 c0 s0 : Nat} {b L : Nat} {xs : Nat → Int32} {k60 : mSh → mMm → Nat → Nat → Nat → Nat → Nat → Nat → Int32 → Option (Int32 × mSh × mMm × Nat)} (hk60 : ∀ (S : mSh) (μ : mMm) (cx : Nat) (x1 : Nat) (x2 : Nat) (x3 : Nat) (x4 : Nat) (x5 : Nat) (x6 : Int32) (d7 : Option Value) (d8 : Option Value) (d9 : Option Value) (d10 : Option Value) (d11 : Option Value) (d12 : Option Value) (d13 : Option Value), mX (ML_law b L xs) n0 c0 s0 60 [some (.ref 1000), some (.ref x1), some (.ref x2), some (.ref x3), some (.ref x4), some (.ref x5), some (.int x6), d7, d8, d9, d10, d11, d12, d13] [] (S, μ, cx, 41 * cx) iAI (k60 S μ cx x1 x2 x3 x4 x5 x6)) (S : mSh) (μ : mMm) (cx : Nat) (x1 : Nat) (x2 : Nat) (x3 : Nat) (x4 : Nat) (x5 : Nat) (x6 : Int32) (x7 : Int32) (x9 : Int32) (t0 : Int32) (d8 : Option Value) (d10 : Option Value) (d11 : Option Value) (d12 : Option Value) (d13 : Option Value) : mX (ML_law b L xs) n0 c0 s0 407 [some (.ref 1000), some (.ref x1), some (.ref x2), some (.ref x3), some (.ref x4), some (.ref x5), some (.int x6), some (.int x7), d8, some (.int x9), d10, d11, d12, d13] [.int t0] (S, μ, cx, 41 * cx) iAI (lL_law_407 k60 L xs S μ cx x1 x2 x3 x4 x5 x6 x7 x9 t0) := by
  unfold lL_law_407
  refine x_istore (pc := 407) dL_law_407 (Nat.le_of_ble_eq_true rfl) (l' := [some (.ref 1000), some (.ref x1), some (.ref x2), some (.ref x3), some (.ref x4), some (.ref x5), some (.int x6), some (.int x7), d8, some (.int x9), some (.int t0), d11, d12, d13]) rfl ?_
  refine x_aload (pc := 409) dL_law_409 rfl ?_
  refine x_iconst (pc := 411) (v := 2) dL_law_411 (by decide) ?_
  refine x_iconst (pc := 412) (v := 2) dL_law_412 (by decide) ?_
  refine x_iload (pc := 413) dL_law_413 rfl ?_
  refine x_iconst (pc := 415) (v := 3) dL_law_415 (by decide) ?_
  refine x_irem (pc := 416) dL_law_416 (fun v77 => ?_)
  refine x_iadd (pc := 417) dL_law_417 ?_
  refine x_stI (pc := 418) dL_law_418 (fun m78 => ?_)
  refine x_aload (pc := 419) dL_law_419 rfl ?_
  refine x_iconst (pc := 421) (v := 3) dL_law_421 (by decide) ?_
  refine x_iconst (pc := 422) (v := 4) dL_law_422 (by decide) ?_
  refine x_iload (pc := 423) dL_law_423 rfl ?_
  refine x_bipush (pc := 425) (v := 11) dL_law_425 (by decide) ?_
  refine x_ishr (pc := 427) dL_law_427 ?_
  refine x_bipush (pc := 428) (v := 6) dL_law_428 (by decide) ?_
  refine x_callSi (pc := 430) (As := [.int (x7 >>> ((11 : Int32) &&& 31)), .int (6 : Int32)]) (rest := [.int (4 : Int32), .int (3 : Int32), .ref x5]) (vx := fun a => a) (μf := fun _ => m78) (mL_low S m78 cx (41 * cx) (x7 >>> ((11 : Int32) &&& 31)) (6 : Int32)) (fun _ => rfl) rfl dL_law_430 q134 kL_low rfl ⟨Nat.le_of_ble_eq_true rfl, Nat.le_of_ble_eq_true rfl⟩ rfl (Nat.le_of_ble_eq_true rfl) (fun v79 => ?_)
  refine x_iadd (pc := 433) dL_law_433 ?_
  refine x_stI (pc := 434) dL_law_434 (fun m80 => ?_)
  refine x_goto (pc := 435) (tgt := 988) dL_law_435 (by decide) ?_
  exact xL_law_988 (k60 := k60) hk60 S m80 cx x1 x2 x3 x4 x5 x6 x7 t0 _ _ _ _ _
set_option maxRecDepth 100000 in
set_option maxHeartbeats 40000000 in
theorem xL_law_406 {n0 c0 s0 : Nat} {b L : Nat} {xs : Nat → Int32} {k60 : mSh → mMm → Nat → Nat → Nat → Nat → Nat → Nat → Int32 → Option (Int32 × mSh × mMm × Nat)} (hk60 : ∀ (S : mSh) (μ : mMm) (cx : Nat) (x1 : Nat) (x2 : Nat) (x3 : Nat) (x4 : Nat) (x5 : Nat) (x6 : Int32) (d7 : Option Value) (d8 : Option Value) (d9 : Option Value) (d10 : Option Value) (d11 : Option Value) (d12 : Option Value) (d13 : Option Value), mX (ML_law b L xs) n0 c0 s0 60 [some (.ref 1000), some (.ref x1), some (.ref x2), some (.ref x3), some (.ref x4), some (.ref x5), some (.int x6), d7, d8, d9, d10, d11, d12, d13] [] (S, μ, cx, 41 * cx) iAI (k60 S μ cx x1 x2 x3 x4 x5 x6)) (S : mSh) (μ : mMm) (cx : Nat) (x1 : Nat) (x2 : Nat) (x3 : Nat) (x4 : Nat) (x5 : Nat) (x6 : Int32) (x7 : Int32) (x9 : Int32) (d8 : Option Value) (d10 : Option Value) (d11 : Option Value) (d12 : Option Value) (d13 : Option Value) : mX (ML_law b L xs) n0 c0 s0 406 [some (.ref 1000), some (.ref x1), some (.ref x2), some (.ref x3), some (.ref x4), some (.ref x5), some (.int x6), some (.int x7), d8, some (.int x9), d10, d11, d12, d13] [] (S, μ, cx, 41 * cx) iAI (lL_law_406 k60 L xs S μ cx x1 x2 x3 x4 x5 x6 x7 x9) := by
  unfold lL_law_406
  refine x_iconst (pc := 406) (v := 0) dL_law_406 (by decide) ?_
  exact xL_law_407 (k60 := k60) hk60 S μ cx x1 x2 x3 x4 x5 x6 x7 x9 (0 : Int32) _ _ _ _ _
set_option maxRecDepth 100000 in
set_option maxHeartbeats 40000000 in
theorem xL_law_339 {n0 c0 s0 : Nat} {b L : Nat} {xs : Nat → Int32} {k60 : mSh → mMm → Nat → Nat → Nat → Nat → Nat → Nat → Int32 → Option (Int32 × mSh × mMm × Nat)} (hk60 : ∀ (S : mSh) (μ : mMm) (cx : Nat) (x1 : Nat) (x2 : Nat) (x3 : Nat) (x4 : Nat) (x5 : Nat) (x6 : Int32) (d7 : Option Value) (d8 : Option Value) (d9 : Option Value) (d10 : Option Value) (d11 : Option Value) (d12 : Option Value) (d13 : Option Value), mX (ML_law b L xs) n0 c0 s0 60 [some (.ref 1000), some (.ref x1), some (.ref x2), some (.ref x3), some (.ref x4), some (.ref x5), some (.int x6), d7, d8, d9, d10, d11, d12, d13] [] (S, μ, cx, 41 * cx) iAI (k60 S μ cx x1 x2 x3 x4 x5 x6)) (S : mSh) (μ : mMm) (cx : Nat) (x1 : Nat) (x2 : Nat) (x3 : Nat) (x4 : Nat) (x5 : Nat) (x6 : Int32) (x7 : Int32) (x9 : Int32) (t0 : Int32) (d8 : Option Value) (d10 : Option Value) (d11 : Option Value) (d12 : Option Value) (d13 : Option Value) : mX (ML_law b L xs) n0 c0 s0 339 [some (.ref 1000), some (.ref x1), some (.ref x2), some (.ref x3), some (.ref x4), some (.ref x5), some (.int x6), some (.int x7), d8, some (.int x9), d10, d11, d12, d13] [.int t0] (S, μ, cx, 41 * cx) iAI (lL_law_339 k60 L xs S μ cx x1 x2 x3 x4 x5 x6 x7 x9 t0) := by
  unfold lL_law_339
  refine x_istore (pc := 339) dL_law_339 (Nat.le_of_ble_eq_true rfl) (l' := [some (.ref 1000), some (.ref x1), some (.ref x2), some (.ref x3), some (.ref x4), some (.ref x5), some (.int x6), some (.int x7), d8, some (.int x9), some (.int t0), d11, d12, d13]) rfl ?_
  refine x_aload (pc := 341) dL_law_341 rfl ?_
  refine x_iconst (pc := 343) (v := 1) dL_law_343 (by decide) ?_
  refine x_iconst (pc := 344) (v := 1) dL_law_344 (by decide) ?_
  refine x_iload (pc := 345) dL_law_345 rfl ?_
  refine x_bipush (pc := 347) (v := 32) dL_law_347 (by decide) ?_
  refine x_irem (pc := 349) dL_law_349 (fun v87 => ?_)
  refine x_iadd (pc := 350) dL_law_350 ?_
  refine x_stI (pc := 351) dL_law_351 (fun m88 => ?_)
  refine x_goto (pc := 352) (tgt := 988) dL_law_352 (by decide) ?_
  exact xL_law_988 (k60 := k60) hk60 S m88 cx x1 x2 x3 x4 x5 x6 x7 t0 _ _ _ _ _
set_option maxRecDepth 100000 in
set_option maxHeartbeats 40000000 in
theorem xL_law_291 {n0 c0 s0 : Nat} {b L : Nat} {xs : Nat → Int32} {k60 : mSh → mMm → Nat → Nat → Nat → Nat → Nat → Nat → Int32 → Option (Int32 × mSh × mMm × Nat)} (hk60 : ∀ (S : mSh) (μ : mMm) (cx : Nat) (x1 : Nat) (x2 : Nat) (x3 : Nat) (x4 : Nat) (x5 : Nat) (x6 : Int32) (d7 : Option Value) (d8 : Option Value) (d9 : Option Value) (d10 : Option Value) (d11 : Option Value) (d12 : Option Value) (d13 : Option Value), mX (ML_law b L xs) n0 c0 s0 60 [some (.ref 1000), some (.ref x1), some (.ref x2), some (.ref x3), some (.ref x4), some (.ref x5), some (.int x6), d7, d8, d9, d10, d11, d12, d13] [] (S, μ, cx, 41 * cx) iAI (k60 S μ cx x1 x2 x3 x4 x5 x6)) (S : mSh) (μ : mMm) (cx : Nat) (x1 : Nat) (x2 : Nat) (x3 : Nat) (x4 : Nat) (x5 : Nat) (x6 : Int32) (x7 : Int32) (x11 : Int32) (t0 : Int32) (d8 : Option Value) (d9 : Option Value) (d10 : Option Value) (d12 : Option Value) (d13 : Option Value) : mX (ML_law b L xs) n0 c0 s0 291 [some (.ref 1000), some (.ref x1), some (.ref x2), some (.ref x3), some (.ref x4), some (.ref x5), some (.int x6), some (.int x7), d8, d9, d10, some (.int x11), d12, d13] [.int t0] (S, μ, cx, 41 * cx) iAI (lL_law_291 k60 L xs S μ cx x1 x2 x3 x4 x5 x6 x7 x11 t0) := by
  unfold lL_law_291
  refine x_istore (pc := 291) dL_law_291 (Nat.le_of_ble_eq_true rfl) (l' := [some (.ref 1000), some (.ref x1), some (.ref x2), some (.ref x3), some (.ref x4), some (.ref x5), some (.int x6), some (.int x7), d8, (kl d9), some (.int t0), some (.int x11), d12, d13]) rfl ?_
  refine x_aload_n (pc := 293) dL_law_293 (i := 2) rfl rfl ?_
  refine x_iload (pc := 294) dL_law_294 rfl ?_
  refine x_iload (pc := 296) dL_law_296 rfl ?_
  refine x_bipush (pc := 298) (v := 11) dL_law_298 (by decide) ?_
  refine x_ishr (pc := 300) dL_law_300 ?_
  refine x_iconst (pc := 301) (v := 4) dL_law_301 (by decide) ?_
  refine x_callSi (pc := 302) (As := [.int (x7 >>> ((11 : Int32) &&& 31)), .int (4 : Int32)]) (rest := [.int x11, .ref x2]) (vx := fun a => a) (μf := fun _ => μ) (mL_low S μ cx (41 * cx) (x7 >>> ((11 : Int32) &&& 31)) (4 : Int32)) (fun _ => rfl) rfl dL_law_302 q134 kL_low rfl ⟨Nat.le_of_ble_eq_true rfl, Nat.le_of_ble_eq_true rfl⟩ rfl (Nat.le_of_ble_eq_true rfl) (fun v95 => ?_)
  refine x_stI (pc := 305) dL_law_305 (fun m96 => ?_)
  refine x_goto (pc := 306) (tgt := 988) dL_law_306 (by decide) ?_
  exact xL_law_988 (k60 := k60) hk60 S m96 cx x1 x2 x3 x4 x5 x6 x7 t0 _ _ _ _ _
set_option maxRecDepth 100000 in
set_option maxHeartbeats 40000000 in
theorem xL_law_238 {n0 c0 s0 : Nat} {b L : Nat} {xs : Nat → Int32} {k60 : mSh → mMm → Nat → Nat → Nat → Nat → Nat → Nat → Int32 → Option (Int32 × mSh × mMm × Nat)} (hk60 : ∀ (S : mSh) (μ : mMm) (cx : Nat) (x1 : Nat) (x2 : Nat) (x3 : Nat) (x4 : Nat) (x5 : Nat) (x6 : Int32) (d7 : Option Value) (d8 : Option Value) (d9 : Option Value) (d10 : Option Value) (d11 : Option Value) (d12 : Option Value) (d13 : Option Value), mX (ML_law b L xs) n0 c0 s0 60 [some (.ref 1000), some (.ref x1), some (.ref x2), some (.ref x3), some (.ref x4), some (.ref x5), some (.int x6), d7, d8, d9, d10, d11, d12, d13] [] (S, μ, cx, 41 * cx) iAI (k60 S μ cx x1 x2 x3 x4 x5 x6)) (S : mSh) (μ : mMm) (cx : Nat) (x1 : Nat) (x2 : Nat) (x3 : Nat) (x4 : Nat) (x5 : Nat) (x6 : Int32) (x7 : Int32) (x10 : Int32) (d8 : Option Value) (d9 : Option Value) (d11 : Option Value) (d12 : Option Value) (d13 : Option Value) : mX (ML_law b L xs) n0 c0 s0 238 [some (.ref 1000), some (.ref x1), some (.ref x2), some (.ref x3), some (.ref x4), some (.ref x5), some (.int x6), some (.int x7), d8, d9, some (.int x10), d11, d12, d13] [] (S, μ, cx, 41 * cx) iAI (lL_law_238 k60 L xs S μ cx x1 x2 x3 x4 x5 x6 x7 x10) := by
  unfold lL_law_238
  refine x_goto (pc := 238) (tgt := 988) dL_law_238 (by decide) ?_
  exact xL_law_988 (k60 := k60) hk60 S μ cx x1 x2 x3 x4 x5 x6 x7 x10 _ _ _ _ _
set_option maxRecDepth 100000 in
set_option maxHeartbeats 40000000 in
theorem xL_law_215 {n0 c0 s0 : Nat} {b L : Nat} {xs : Nat → Int32} {k60 : mSh → mMm → Nat → Nat → Nat → Nat → Nat → Nat → Int32 → Option (Int32 × mSh × mMm × Nat)} (hk60 : ∀ (S : mSh) (μ : mMm) (cx : Nat) (x1 : Nat) (x2 : Nat) (x3 : Nat) (x4 : Nat) (x5 : Nat) (x6 : Int32) (d7 : Option Value) (d8 : Option Value) (d9 : Option Value) (d10 : Option Value) (d11 : Option Value) (d12 : Option Value) (d13 : Option Value), mX (ML_law b L xs) n0 c0 s0 60 [some (.ref 1000), some (.ref x1), some (.ref x2), some (.ref x3), some (.ref x4), some (.ref x5), some (.int x6), d7, d8, d9, d10, d11, d12, d13] [] (S, μ, cx, 41 * cx) iAI (k60 S μ cx x1 x2 x3 x4 x5 x6)) (S : mSh) (μ : mMm) (cx : Nat) (x1 : Nat) (x2 : Nat) (x3 : Nat) (x4 : Nat) (x5 : Nat) (x6 : Int32) (x7 : Int32) (x12 : Int32) (x13 : Int32) (t0 : Int32) (d8 : Option Value) (d9 : Option Value) (d10 : Option Value) (d11 : Option Value) : mX (ML_law b L xs) n0 c0 s0 215 [some (.ref 1000), some (.ref x1), some (.ref x2), some (.ref x3), some (.ref x4), some (.ref x5), some (.int x6), some (.int x7), d8, d9, d10, d11, some (.int x12), some (.int x13)] [.int t0] (S, μ, cx, 41 * cx) iAI (lL_law_215 k60 L xs S μ cx x1 x2 x3 x4 x5 x6 x7 x12 x13 t0) := by
  unfold lL_law_215
  refine x_istore (pc := 215) dL_law_215 (Nat.le_of_ble_eq_true rfl) (l' := [some (.ref 1000), some (.ref x1), some (.ref x2), some (.ref x3), some (.ref x4), some (.ref x5), some (.int x6), some (.int x7), d8, (kl d9), some (.int t0), d11, some (.int x12), some (.int x13)]) rfl ?_
  refine x_iload (pc := 217) dL_law_217 rfl ?_
  refine x_if_eq (pc := 219) (tgt := 238) dL_law_219 (by decide) ?_ ?_
  · exact xL_law_238 (k60 := k60) hk60 S μ cx x1 x2 x3 x4 x5 x6 x7 t0 _ _ _ _ _
  · refine x_aload_n (pc := 222) dL_law_222 (i := 2) rfl rfl ?_
    refine x_aload (pc := 223) dL_law_223 rfl ?_
    refine x_iconst (pc := 225) (v := 0) dL_law_225 (by decide) ?_
    refine x_ldI (pc := 226) dL_law_226 (fun v102 => ?_)
    refine x_iload (pc := 227) dL_law_227 rfl ?_
    refine x_stI (pc := 229) dL_law_229 (fun m103 => ?_)
    refine x_aload (pc := 230) dL_law_230 rfl ?_
    refine x_iconst (pc := 232) (v := 0) dL_law_232 (by decide) ?_
    refine x_dup2 (pc := 233) dL_law_233 rfl rfl ?_
    refine x_ldI (pc := 234) dL_law_234 (fun v104 => ?_)
    refine x_iconst (pc := 235) (v := 1) dL_law_235 (by decide) ?_
    refine x_iadd (pc := 236) dL_law_236 ?_
    refine x_stI (pc := 237) dL_law_237 (fun m105 => ?_)
    exact xL_law_238 (k60 := k60) hk60 S m105 cx x1 x2 x3 x4 x5 x6 x7 t0 _ _ _ _ _
set_option maxRecDepth 100000 in
set_option maxHeartbeats 40000000 in
theorem xL_law_207 {n0 c0 s0 : Nat} {b L : Nat} {xs : Nat → Int32} {k60 : mSh → mMm → Nat → Nat → Nat → Nat → Nat → Nat → Int32 → Option (Int32 × mSh × mMm × Nat)} (hk60 : ∀ (S : mSh) (μ : mMm) (cx : Nat) (x1 : Nat) (x2 : Nat) (x3 : Nat) (x4 : Nat) (x5 : Nat) (x6 : Int32) (d7 : Option Value) (d8 : Option Value) (d9 : Option Value) (d10 : Option Value) (d11 : Option Value) (d12 : Option Value) (d13 : Option Value), mX (ML_law b L xs) n0 c0 s0 60 [some (.ref 1000), some (.ref x1), some (.ref x2), some (.ref x3), some (.ref x4), some (.ref x5), some (.int x6), d7, d8, d9, d10, d11, d12, d13] [] (S, μ, cx, 41 * cx) iAI (k60 S μ cx x1 x2 x3 x4 x5 x6)) (S : mSh) (μ : mMm) (cx : Nat) (x1 : Nat) (x2 : Nat) (x3 : Nat) (x4 : Nat) (x5 : Nat) (x6 : Int32) (x7 : Int32) (x12 : Int32) (x13 : Int32) (t0 : Int32) (t1 : Int32) (d8 : Option Value) (d9 : Option Value) (d10 : Option Value) (d11 : Option Value) : mX (ML_law b L xs) n0 c0 s0 207 [some (.ref 1000), some (.ref x1), some (.ref x2), some (.ref x3), some (.ref x4), some (.ref x5), some (.int x6), some (.int x7), d8, d9, d10, d11, some (.int x12), some (.int x13)] [.int t0, .int t1] (S, μ, cx, 41 * cx) iAI (lL_law_207 k60 L xs S μ cx x1 x2 x3 x4 x5 x6 x7 x12 x13 t0 t1) := by
  unfold lL_law_207
  refine x_icmp_ne (pc := 207) (tgt := 214) dL_law_207 (by decide) ?_ ?_
  · refine x_iconst (pc := 210) (v := 1) dL_law_210 (by decide) ?_
    refine x_goto (pc := 211) (tgt := 215) dL_law_211 (by decide) ?_
    exact xL_law_215 (k60 := k60) hk60 S μ cx x1 x2 x3 x4 x5 x6 x7 x12 x13 (1 : Int32) _ _ _ _
  · refine x_iconst (pc := 214) (v := 0) dL_law_214 (by decide) ?_
    exact xL_law_215 (k60 := k60) hk60 S μ cx x1 x2 x3 x4 x5 x6 x7 x12 x13 (0 : Int32) _ _ _ _
set_option maxRecDepth 100000 in
set_option maxHeartbeats 40000000 in
theorem xL_law_183 {n0 c0 s0 : Nat} {b L : Nat} {xs : Nat → Int32} {k60 : mSh → mMm → Nat → Nat → Nat → Nat → Nat → Nat → Int32 → Option (Int32 × mSh × mMm × Nat)} (hk60 : ∀ (S : mSh) (μ : mMm) (cx : Nat) (x1 : Nat) (x2 : Nat) (x3 : Nat) (x4 : Nat) (x5 : Nat) (x6 : Int32) (d7 : Option Value) (d8 : Option Value) (d9 : Option Value) (d10 : Option Value) (d11 : Option Value) (d12 : Option Value) (d13 : Option Value), mX (ML_law b L xs) n0 c0 s0 60 [some (.ref 1000), some (.ref x1), some (.ref x2), some (.ref x3), some (.ref x4), some (.ref x5), some (.int x6), d7, d8, d9, d10, d11, d12, d13] [] (S, μ, cx, 41 * cx) iAI (k60 S μ cx x1 x2 x3 x4 x5 x6)) (S : mSh) (μ : mMm) (cx : Nat) (x1 : Nat) (x2 : Nat) (x3 : Nat) (x4 : Nat) (x5 : Nat) (x6 : Int32) (x7 : Int32) (x12 : Int32) (t0 : Int32) (d8 : Option Value) (d9 : Option Value) (d10 : Option Value) (d11 : Option Value) (d13 : Option Value) : mX (ML_law b L xs) n0 c0 s0 183 [some (.ref 1000), some (.ref x1), some (.ref x2), some (.ref x3), some (.ref x4), some (.ref x5), some (.int x6), some (.int x7), d8, d9, d10, d11, some (.int x12), d13] [.int t0] (S, μ, cx, 41 * cx) iAI (lL_law_183 k60 L xs S μ cx x1 x2 x3 x4 x5 x6 x7 x12 t0) := by
  unfold lL_law_183
  refine x_istore (pc := 183) dL_law_183 (Nat.le_of_ble_eq_true rfl) (l' := [some (.ref 1000), some (.ref x1), some (.ref x2), some (.ref x3), some (.ref x4), some (.ref x5), some (.int x6), some (.int x7), d8, d9, d10, d11, some (.int x12), some (.int t0)]) rfl ?_
  refine x_aload_n (pc := 185) dL_law_185 (i := 1) rfl rfl ?_
  refine x_iload (pc := 186) dL_law_186 rfl ?_
  refine x_callH (pc := 188) (As := [.ref x1, .int x12]) (rest := []) (mL_add S μ cx (41 * cx) x1 x12) rfl dL_law_188 q138 kL_add rfl ⟨Nat.le_of_ble_eq_true rfl, Nat.le_of_ble_eq_true rfl⟩ rfl (Nat.le_of_ble_eq_true rfl) (fun r101 => ?_)
  refine x_iload (pc := 191) dL_law_191 rfl ?_
  refine x_if_eq (pc := 193) (tgt := 205) dL_law_193 (by decide) ?_ ?_
  · refine x_bipush (pc := 205) (v := -102) dL_law_205 (by decide) ?_
    exact xL_law_207 (k60 := k60) hk60 S r101.2.1 (cx + r101.2.2) x1 x2 x3 x4 x5 x6 x7 x12 t0 (-102 : Int32) r101.1 _ _ _ _
  · refine x_aload (pc := 196) dL_law_196 rfl ?_
    refine x_iconst (pc := 198) (v := 0) dL_law_198 (by decide) ?_
    refine x_ldI (pc := 199) dL_law_199 (fun v106 => ?_)
    refine x_iconst (pc := 200) (v := 1) dL_law_200 (by decide) ?_
    refine x_iadd (pc := 201) dL_law_201 ?_
    refine x_goto (pc := 202) (tgt := 207) dL_law_202 (by decide) ?_
    exact xL_law_207 (k60 := k60) hk60 S r101.2.1 (cx + r101.2.2) x1 x2 x3 x4 x5 x6 x7 x12 t0 (v106 + (1 : Int32)) r101.1 _ _ _ _
set_option maxRecDepth 100000 in
set_option maxHeartbeats 40000000 in
theorem xL_law_167 {n0 c0 s0 : Nat} {b L : Nat} {xs : Nat → Int32} {k60 : mSh → mMm → Nat → Nat → Nat → Nat → Nat → Nat → Int32 → Option (Int32 × mSh × mMm × Nat)} (hk60 : ∀ (S : mSh) (μ : mMm) (cx : Nat) (x1 : Nat) (x2 : Nat) (x3 : Nat) (x4 : Nat) (x5 : Nat) (x6 : Int32) (d7 : Option Value) (d8 : Option Value) (d9 : Option Value) (d10 : Option Value) (d11 : Option Value) (d12 : Option Value) (d13 : Option Value), mX (ML_law b L xs) n0 c0 s0 60 [some (.ref 1000), some (.ref x1), some (.ref x2), some (.ref x3), some (.ref x4), some (.ref x5), some (.int x6), d7, d8, d9, d10, d11, d12, d13] [] (S, μ, cx, 41 * cx) iAI (k60 S μ cx x1 x2 x3 x4 x5 x6)) (S : mSh) (μ : mMm) (cx : Nat) (x1 : Nat) (x2 : Nat) (x3 : Nat) (x4 : Nat) (x5 : Nat) (x6 : Int32) (x7 : Int32) (t0 : Int32) (d8 : Option Value) (d9 : Option Value) (d10 : Option Value) (d11 : Option Value) (d12 : Option Value) (d13 : Option Value) : mX (ML_law b L xs) n0 c0 s0 167 [some (.ref 1000), some (.ref x1), some (.ref x2), some (.ref x3), some (.ref x4), some (.ref x5), some (.int x6), some (.int x7), d8, d9, d10, d11, d12, d13] [.int t0] (S, μ, cx, 41 * cx) iAI (lL_law_167 k60 L xs S μ cx x1 x2 x3 x4 x5 x6 x7 t0) := by
  unfold lL_law_167
  refine x_istore (pc := 167) dL_law_167 (Nat.le_of_ble_eq_true rfl) (l' := [some (.ref 1000), some (.ref x1), some (.ref x2), some (.ref x3), some (.ref x4), some (.ref x5), some (.int x6), some (.int x7), d8, d9, d10, (kl d11), some (.int t0), d13]) rfl ?_
  refine x_aload (pc := 169) dL_law_169 rfl ?_
  refine x_iconst (pc := 171) (v := 0) dL_law_171 (by decide) ?_
  refine x_ldI (pc := 172) dL_law_172 (fun v100 => ?_)
  refine x_bipush (pc := 173) (v := 40) dL_law_173 (by decide) ?_
  refine x_icmp_ge (pc := 175) (tgt := 182) dL_law_175 (by decide) ?_ ?_
  · refine x_iconst (pc := 182) (v := 0) dL_law_182 (by decide) ?_
    exact xL_law_183 (k60 := k60) hk60 S μ cx x1 x2 x3 x4 x5 x6 x7 t0 (0 : Int32) _ _ _ _ _
  · refine x_iconst (pc := 178) (v := 1) dL_law_178 (by decide) ?_
    refine x_goto (pc := 179) (tgt := 183) dL_law_179 (by decide) ?_
    exact xL_law_183 (k60 := k60) hk60 S μ cx x1 x2 x3 x4 x5 x6 x7 t0 (1 : Int32) _ _ _ _ _
set_option maxRecDepth 100000 in
set_option maxHeartbeats 40000000 in
theorem xL_law_163 {n0 c0 s0 : Nat} {b L : Nat} {xs : Nat → Int32} {k60 : mSh → mMm → Nat → Nat → Nat → Nat → Nat → Nat → Int32 → Option (Int32 × mSh × mMm × Nat)} (hk60 : ∀ (S : mSh) (μ : mMm) (cx : Nat) (x1 : Nat) (x2 : Nat) (x3 : Nat) (x4 : Nat) (x5 : Nat) (x6 : Int32) (d7 : Option Value) (d8 : Option Value) (d9 : Option Value) (d10 : Option Value) (d11 : Option Value) (d12 : Option Value) (d13 : Option Value), mX (ML_law b L xs) n0 c0 s0 60 [some (.ref 1000), some (.ref x1), some (.ref x2), some (.ref x3), some (.ref x4), some (.ref x5), some (.int x6), d7, d8, d9, d10, d11, d12, d13] [] (S, μ, cx, 41 * cx) iAI (k60 S μ cx x1 x2 x3 x4 x5 x6)) (S : mSh) (μ : mMm) (cx : Nat) (x1 : Nat) (x2 : Nat) (x3 : Nat) (x4 : Nat) (x5 : Nat) (x6 : Int32) (x7 : Int32) (x9 : Int32) (d8 : Option Value) (d10 : Option Value) (d11 : Option Value) (d12 : Option Value) (d13 : Option Value) : mX (ML_law b L xs) n0 c0 s0 163 [some (.ref 1000), some (.ref x1), some (.ref x2), some (.ref x3), some (.ref x4), some (.ref x5), some (.int x6), some (.int x7), d8, some (.int x9), d10, d11, d12, d13] [] (S, μ, cx, 41 * cx) iAI (lL_law_163 k60 L xs S μ cx x1 x2 x3 x4 x5 x6 x7 x9) := by
  unfold lL_law_163
  refine x_iload (pc := 163) dL_law_163 rfl ?_
  refine x_iconst (pc := 165) (v := 4) dL_law_165 (by decide) ?_
  refine x_irem (pc := 166) dL_law_166 (fun v99 => ?_)
  exact xL_law_167 (k60 := k60) hk60 S μ cx x1 x2 x3 x4 x5 x6 x7 v99 _ _ _ _ _ _
set_option maxRecDepth 100000 in
set_option maxHeartbeats 40000000 in
theorem xL_law_93 {n0 c0 s0 : Nat} {b L : Nat} {xs : Nat → Int32} {k60 : mSh → mMm → Nat → Nat → Nat → Nat → Nat → Nat → Int32 → Option (Int32 × mSh × mMm × Nat)} (hk60 : ∀ (S : mSh) (μ : mMm) (cx : Nat) (x1 : Nat) (x2 : Nat) (x3 : Nat) (x4 : Nat) (x5 : Nat) (x6 : Int32) (d7 : Option Value) (d8 : Option Value) (d9 : Option Value) (d10 : Option Value) (d11 : Option Value) (d12 : Option Value) (d13 : Option Value), mX (ML_law b L xs) n0 c0 s0 60 [some (.ref 1000), some (.ref x1), some (.ref x2), some (.ref x3), some (.ref x4), some (.ref x5), some (.int x6), d7, d8, d9, d10, d11, d12, d13] [] (S, μ, cx, 41 * cx) iAI (k60 S μ cx x1 x2 x3 x4 x5 x6)) (S : mSh) (μ : mMm) (cx : Nat) (x1 : Nat) (x2 : Nat) (x3 : Nat) (x4 : Nat) (x5 : Nat) (x6 : Int32) (x7 : Int32) (t0 : Int32) (d8 : Option Value) (d9 : Option Value) (d10 : Option Value) (d11 : Option Value) (d12 : Option Value) (d13 : Option Value) : mX (ML_law b L xs) n0 c0 s0 93 [some (.ref 1000), some (.ref x1), some (.ref x2), some (.ref x3), some (.ref x4), some (.ref x5), some (.int x6), some (.int x7), d8, d9, d10, d11, d12, d13] [.int t0] (S, μ, cx, 41 * cx) iAI (lL_law_93 k60 L xs S μ cx x1 x2 x3 x4 x5 x6 x7 t0) := by
  unfold lL_law_93
  refine x_istore (pc := 93) dL_law_93 (Nat.le_of_ble_eq_true rfl) (l' := [some (.ref 1000), some (.ref x1), some (.ref x2), some (.ref x3), some (.ref x4), some (.ref x5), some (.int x6), some (.int x7), some (.int t0), d9, d10, d11, d12, d13]) rfl ?_
  refine x_iload (pc := 95) dL_law_95 rfl ?_
  refine x_iconst (pc := 97) (v := 5) dL_law_97 (by decide) ?_
  refine x_ishr (pc := 98) dL_law_98 ?_
  refine x_bipush (pc := 99) (v := 64) dL_law_99 (by decide) ?_
  refine x_callSi (pc := 101) (As := [.int (x7 >>> ((5 : Int32) &&& 31)), .int (64 : Int32)]) (rest := []) (vx := fun a => a) (μf := fun _ => μ) (mL_low S μ cx (41 * cx) (x7 >>> ((5 : Int32) &&& 31)) (64 : Int32)) (fun _ => rfl) rfl dL_law_101 q134 kL_low rfl ⟨Nat.le_of_ble_eq_true rfl, Nat.le_of_ble_eq_true rfl⟩ rfl (Nat.le_of_ble_eq_true rfl) (fun v14 => ?_)
  refine x_istore (pc := 104) dL_law_104 (Nat.le_of_ble_eq_true rfl) (l' := [some (.ref 1000), some (.ref x1), some (.ref x2), some (.ref x3), some (.ref x4), some (.ref x5), some (.int x6), some (.int x7), some (.int t0), some (.int v14), d10, d11, d12, d13]) rfl ?_
  refine x_iconst (pc := 106) (v := 1) dL_law_106 (by decide) ?_
  refine x_istore (pc := 107) dL_law_107 (Nat.le_of_ble_eq_true rfl) (l' := [some (.ref 1000), some (.ref x1), some (.ref x2), some (.ref x3), some (.ref x4), some (.ref x5), some (.int x6), some (.int x7), some (.int t0), some (.int v14), some (.int (1 : Int32)), d11, d12, d13]) rfl ?_
  refine x_iload (pc := 109) dL_law_109 rfl ?_
  refine x_bipush (pc := 111) (v := 9) dL_law_111 (by decide) ?_
  refine x_icmp_ge (pc := 113) (tgt := 241) dL_law_113 (by decide) ?_ ?_
  · refine x_iload (pc := 241) dL_law_241 rfl ?_
    refine x_bipush (pc := 243) (v := 9) dL_law_243 (by decide) ?_
    refine x_icmp_ne (pc := 245) (tgt := 309) dL_law_245 (by decide) ?_ ?_
    · refine x_aload (pc := 248) dL_law_248 rfl ?_
      refine x_iconst (pc := 250) (v := 0) dL_law_250 (by decide) ?_
      refine x_ldI (pc := 251) dL_law_251 (fun v89 => ?_)
      refine x_if_le (pc := 252) (tgt := 988) dL_law_252 (by decide) ?_ ?_
      · exact xL_law_988 (k60 := k60) hk60 S μ cx x1 x2 x3 x4 x5 x6 x7 (1 : Int32) _ _ _ _ _
      · refine x_iload (pc := 255) dL_law_255 rfl ?_
        refine x_aload (pc := 257) dL_law_257 rfl ?_
        refine x_iconst (pc := 259) (v := 0) dL_law_259 (by decide) ?_
        refine x_ldI (pc := 260) dL_law_260 (fun v90 => ?_)
        refine x_irem (pc := 261) dL_law_261 (fun v91 => ?_)
        refine x_istore (pc := 262) dL_law_262 (Nat.le_of_ble_eq_true rfl) (l' := [some (.ref 1000), some (.ref x1), some (.ref x2), some (.ref x3), some (.ref x4), some (.ref x5), some (.int x6), some (.int x7), some (.int t0), some (.int v14), some (.int (1 : Int32)), some (.int v91), d12, d13]) rfl ?_
        refine x_aload_n (pc := 264) dL_law_264 (i := 1) rfl rfl ?_
        refine x_iload (pc := 265) dL_law_265 rfl ?_
        refine x_iload (pc := 267) dL_law_267 rfl ?_
        refine x_bipush (pc := 269) (v := 11) dL_law_269 (by decide) ?_
        refine x_ishr (pc := 271) dL_law_271 ?_
        refine x_iconst (pc := 272) (v := 4) dL_law_272 (by decide) ?_
        refine x_callSi (pc := 273) (As := [.int (x7 >>> ((11 : Int32) &&& 31)), .int (4 : Int32)]) (rest := [.int v91, .ref x1]) (vx := fun a => a) (μf := fun _ => μ) (mL_low S μ cx (41 * cx) (x7 >>> ((11 : Int32) &&& 31)) (4 : Int32)) (fun _ => rfl) rfl dL_law_273 q134 kL_low rfl ⟨Nat.le_of_ble_eq_true rfl, Nat.le_of_ble_eq_true rfl⟩ rfl (Nat.le_of_ble_eq_true rfl) (fun v92 => ?_)
        refine x_callVi (pc := 276) (As := [.int v91, .int v92]) (rest := []) (vx := fun a => a.1) (μf := fun a => a.2) fcX10 (mFrV rfl (mX10_setLetter oS μ cx (41 * cx) x1 v91 v92)) (fun _ => rfl) rfl (fun _ h => cVok h) dL_law_276 q187 kX10_setLetter rfl ⟨Nat.le_of_ble_eq_true rfl, Nat.le_of_ble_eq_true rfl⟩ rfl (Nat.le_of_ble_eq_true rfl) (fun r93 => ?_)
        refine x_aload_n (pc := 279) dL_law_279 (i := 2) rfl rfl ?_
        refine x_iload (pc := 280) dL_law_280 rfl ?_
        refine x_ldI (pc := 282) dL_law_282 (fun v94 => ?_)
        refine x_icmp_ne (pc := 283) (tgt := 290) dL_law_283 (by decide) ?_ ?_
        · refine x_iconst (pc := 286) (v := 1) dL_law_286 (by decide) ?_
          refine x_goto (pc := 287) (tgt := 291) dL_law_287 (by decide) ?_
          exact xL_law_291 (k60 := k60) hk60 S r93.2 cx x1 x2 x3 x4 x5 x6 x7 v91 (1 : Int32) _ _ _ _ _
        · refine x_iconst (pc := 290) (v := 0) dL_law_290 (by decide) ?_
          exact xL_law_291 (k60 := k60) hk60 S r93.2 cx x1 x2 x3 x4 x5 x6 x7 v91 (0 : Int32) _ _ _ _ _
    · refine x_iload (pc := 309) dL_law_309 rfl ?_
      refine x_bipush (pc := 311) (v := 10) dL_law_311 (by decide) ?_
      refine x_icmp_ne (pc := 313) (tgt := 355) dL_law_313 (by decide) ?_ ?_
      · refine x_aload_n (pc := 316) dL_law_316 (i := 1) rfl rfl ?_
        refine x_iconst (pc := 317) (v := 1) dL_law_317 (by decide) ?_
        refine x_iload (pc := 318) dL_law_318 rfl ?_
        refine x_bipush (pc := 320) (v := 32) dL_law_320 (by decide) ?_
        refine x_irem (pc := 322) dL_law_322 (fun v84 => ?_)
        refine x_iadd (pc := 323) dL_law_323 ?_
        refine x_callVi (pc := 324) (As := [.int ((1 : Int32) + v84)]) (rest := []) (vx := fun a => a.1) (μf := fun a => a.2) fcX10 (mFrV rfl (mX10_setWindow oS μ cx (41 * cx) x1 ((1 : Int32) + v84))) (fun _ => rfl) rfl (fun _ h => cVok h) dL_law_324 q205 kX10_setWindow rfl ⟨Nat.le_of_ble_eq_true rfl, Nat.le_of_ble_eq_true rfl⟩ rfl (Nat.le_of_ble_eq_true rfl) (fun r85 => ?_)
        refine x_aload (pc := 327) dL_law_327 rfl ?_
        refine x_iconst (pc := 329) (v := 1) dL_law_329 (by decide) ?_
        refine x_ldI (pc := 330) dL_law_330 (fun v86 => ?_)
        refine x_icmp_ne (pc := 331) (tgt := 338) dL_law_331 (by decide) ?_ ?_
        · refine x_iconst (pc := 334) (v := 1) dL_law_334 (by decide) ?_
          refine x_goto (pc := 335) (tgt := 339) dL_law_335 (by decide) ?_
          exact xL_law_339 (k60 := k60) hk60 S r85.2 cx x1 x2 x3 x4 x5 x6 x7 v14 (1 : Int32) _ _ _ _ _
        · refine x_iconst (pc := 338) (v := 0) dL_law_338 (by decide) ?_
          exact xL_law_339 (k60 := k60) hk60 S r85.2 cx x1 x2 x3 x4 x5 x6 x7 v14 (0 : Int32) _ _ _ _ _
      · refine x_iload (pc := 355) dL_law_355 rfl ?_
        refine x_bipush (pc := 357) (v := 11) dL_law_357 (by decide) ?_
        refine x_icmp_ne (pc := 359) (tgt := 438) dL_law_359 (by decide) ?_ ?_
        · refine x_aload_n (pc := 362) dL_law_362 (i := 1) rfl rfl ?_
          refine x_iconst (pc := 363) (v := 2) dL_law_363 (by decide) ?_
          refine x_iload (pc := 364) dL_law_364 rfl ?_
          refine x_iconst (pc := 366) (v := 3) dL_law_366 (by decide) ?_
          refine x_irem (pc := 367) dL_law_367 (fun v74 => ?_)
          refine x_iadd (pc := 368) dL_law_368 ?_
          refine x_callVi (pc := 369) (As := [.int ((2 : Int32) + v74)]) (rest := []) (vx := fun a => a.1) (μf := fun a => a.2) fcX10 (mFrV rfl (mX10_setShortest oS μ cx (41 * cx) x1 ((2 : Int32) + v74))) (fun _ => rfl) rfl (fun _ h => cVok h) dL_law_369 q213 kX10_setShortest rfl ⟨Nat.le_of_ble_eq_true rfl, Nat.le_of_ble_eq_true rfl⟩ rfl (Nat.le_of_ble_eq_true rfl) (fun r75 => ?_)
          refine x_aload (pc := 372) dL_law_372 rfl ?_
          refine x_iconst (pc := 374) (v := 2) dL_law_374 (by decide) ?_
          refine x_ldI (pc := 375) dL_law_375 (fun v76 => ?_)
          refine x_icmp_ne (pc := 376) (tgt := 406) dL_law_376 (by decide) ?_ ?_
          · refine x_aload_n (pc := 379) dL_law_379 (i := 1) rfl rfl ?_
            refine x_iconst (pc := 380) (v := 4) dL_law_380 (by decide) ?_
            refine x_iload (pc := 381) dL_law_381 rfl ?_
            refine x_bipush (pc := 383) (v := 11) dL_law_383 (by decide) ?_
            refine x_ishr (pc := 385) dL_law_385 ?_
            refine x_bipush (pc := 386) (v := 6) dL_law_386 (by decide) ?_
            refine x_callSi (pc := 388) (As := [.int (x7 >>> ((11 : Int32) &&& 31)), .int (6 : Int32)]) (rest := [.int (4 : Int32), .ref x1]) (vx := fun a => a) (μf := fun _ => r75.2) (mL_low S r75.2 cx (41 * cx) (x7 >>> ((11 : Int32) &&& 31)) (6 : Int32)) (fun _ => rfl) rfl dL_law_388 q134 kL_low rfl ⟨Nat.le_of_ble_eq_true rfl, Nat.le_of_ble_eq_true rfl⟩ rfl (Nat.le_of_ble_eq_true rfl) (fun v81 => ?_)
            refine x_iadd (pc := 391) dL_law_391 ?_
            refine x_callVi (pc := 392) (As := [.int ((4 : Int32) + v81)]) (rest := []) (vx := fun a => a.1) (μf := fun a => a.2) fcX10 (mFrV rfl (mX10_setLongest oS r75.2 cx (41 * cx) x1 ((4 : Int32) + v81))) (fun _ => rfl) rfl (fun _ h => cVok h) dL_law_392 q218 kX10_setLongest rfl ⟨Nat.le_of_ble_eq_true rfl, Nat.le_of_ble_eq_true rfl⟩ rfl (Nat.le_of_ble_eq_true rfl) (fun r82 => ?_)
            refine x_aload (pc := 395) dL_law_395 rfl ?_
            refine x_iconst (pc := 397) (v := 3) dL_law_397 (by decide) ?_
            refine x_ldI (pc := 398) dL_law_398 (fun v83 => ?_)
            refine x_icmp_ne (pc := 399) (tgt := 406) dL_law_399 (by decide) ?_ ?_
            · refine x_iconst (pc := 402) (v := 1) dL_law_402 (by decide) ?_
              refine x_goto (pc := 403) (tgt := 407) dL_law_403 (by decide) ?_
              exact xL_law_407 (k60 := k60) hk60 S r82.2 cx x1 x2 x3 x4 x5 x6 x7 v14 (1 : Int32) _ _ _ _ _
            · exact xL_law_406 (k60 := k60) hk60 S r82.2 cx x1 x2 x3 x4 x5 x6 x7 v14 _ _ _ _ _
          · exact xL_law_406 (k60 := k60) hk60 S r75.2 cx x1 x2 x3 x4 x5 x6 x7 v14 _ _ _ _ _
        · refine x_iload (pc := 438) dL_law_438 rfl ?_
          refine x_bipush (pc := 440) (v := 12) dL_law_440 (by decide) ?_
          refine x_icmp_ne (pc := 442) (tgt := 523) dL_law_442 (by decide) ?_ ?_
          · refine x_aload_n (pc := 445) dL_law_445 (i := 1) rfl rfl ?_
            refine x_iconst (pc := 446) (v := 1) dL_law_446 (by decide) ?_
            refine x_iload (pc := 447) dL_law_447 rfl ?_
            refine x_bipush (pc := 449) (v := 9) dL_law_449 (by decide) ?_
            refine x_irem (pc := 451) dL_law_451 (fun v64 => ?_)
            refine x_iadd (pc := 452) dL_law_452 ?_
            refine x_callVi (pc := 453) (As := [.int ((1 : Int32) + v64)]) (rest := []) (vx := fun a => a.1) (μf := fun a => a.2) fcX10 (mFrV rfl (mX10_setLetterPrice oS μ cx (41 * cx) x1 ((1 : Int32) + v64))) (fun _ => rfl) rfl (fun _ h => cVok h) dL_law_453 q223 kX10_setLetterPrice rfl ⟨Nat.le_of_ble_eq_true rfl, Nat.le_of_ble_eq_true rfl⟩ rfl (Nat.le_of_ble_eq_true rfl) (fun r65 => ?_)
            refine x_aload (pc := 456) dL_law_456 rfl ?_
            refine x_iconst (pc := 458) (v := 4) dL_law_458 (by decide) ?_
            refine x_ldI (pc := 459) dL_law_459 (fun v66 => ?_)
            refine x_icmp_ne (pc := 460) (tgt := 490) dL_law_460 (by decide) ?_ ?_
            · refine x_aload_n (pc := 463) dL_law_463 (i := 1) rfl rfl ?_
              refine x_iconst (pc := 464) (v := 1) dL_law_464 (by decide) ?_
              refine x_iload (pc := 465) dL_law_465 rfl ?_
              refine x_bipush (pc := 467) (v := 11) dL_law_467 (by decide) ?_
              refine x_ishr (pc := 469) dL_law_469 ?_
              refine x_bipush (pc := 470) (v := 20) dL_law_470 (by decide) ?_
              refine x_callSi (pc := 472) (As := [.int (x7 >>> ((11 : Int32) &&& 31)), .int (20 : Int32)]) (rest := [.int (1 : Int32), .ref x1]) (vx := fun a => a) (μf := fun _ => r65.2) (mL_low S r65.2 cx (41 * cx) (x7 >>> ((11 : Int32) &&& 31)) (20 : Int32)) (fun _ => rfl) rfl dL_law_472 q134 kL_low rfl ⟨Nat.le_of_ble_eq_true rfl, Nat.le_of_ble_eq_true rfl⟩ rfl (Nat.le_of_ble_eq_true rfl) (fun v71 => ?_)
              refine x_iadd (pc := 475) dL_law_475 ?_
              refine x_callVi (pc := 476) (As := [.int ((1 : Int32) + v71)]) (rest := []) (vx := fun a => a.1) (μf := fun a => a.2) fcX10 (mFrV rfl (mX10_setRepeatPrice oS r65.2 cx (41 * cx) x1 ((1 : Int32) + v71))) (fun _ => rfl) rfl (fun _ h => cVok h) dL_law_476 q228 kX10_setRepeatPrice rfl ⟨Nat.le_of_ble_eq_true rfl, Nat.le_of_ble_eq_true rfl⟩ rfl (Nat.le_of_ble_eq_true rfl) (fun r72 => ?_)
              refine x_aload (pc := 479) dL_law_479 rfl ?_
              refine x_iconst (pc := 481) (v := 5) dL_law_481 (by decide) ?_
              refine x_ldI (pc := 482) dL_law_482 (fun v73 => ?_)
              refine x_icmp_ne (pc := 483) (tgt := 490) dL_law_483 (by decide) ?_ ?_
              · refine x_iconst (pc := 486) (v := 1) dL_law_486 (by decide) ?_
                refine x_goto (pc := 487) (tgt := 491) dL_law_487 (by decide) ?_
                exact xL_law_491 (k60 := k60) hk60 S r72.2 cx x1 x2 x3 x4 x5 x6 x7 v14 (1 : Int32) _ _ _ _ _
              · exact xL_law_490 (k60 := k60) hk60 S r72.2 cx x1 x2 x3 x4 x5 x6 x7 v14 _ _ _ _ _
            · exact xL_law_490 (k60 := k60) hk60 S r65.2 cx x1 x2 x3 x4 x5 x6 x7 v14 _ _ _ _ _
          · refine x_iload (pc := 523) dL_law_523 rfl ?_
            refine x_bipush (pc := 525) (v := 16) dL_law_525 (by decide) ?_
            refine x_icmp_ge (pc := 527) (tgt := 581) dL_law_527 (by decide) ?_ ?_
            · refine x_iload (pc := 581) dL_law_581 rfl ?_
              refine x_bipush (pc := 583) (v := 16) dL_law_583 (by decide) ?_
              refine x_icmp_ne (pc := 585) (tgt := 678) dL_law_585 (by decide) ?_ ?_
              · refine x_bipush (pc := 588) (v := 40) dL_law_588 (by decide) ?_
                refine x_wk (l' := [some (.ref 1000), some (.ref x1), some (.ref x2), some (.ref x3), some (.ref x4), some (.ref x5), some (.int x6), some (.int x7), none, none, none, none, none, none]) ⟨Or.inr rfl, Or.inr rfl, Or.inr rfl, Or.inr rfl, Or.inr rfl, Or.inr rfl, Or.inr rfl, Or.inr rfl, Or.inl rfl, Or.inl rfl, Or.inl rfl, Or.inl rfl, Or.inl rfl, Or.inl rfl, trivial⟩ ?_
                refine x_aI (pc := 590) rfl dL_law_590 q3 (by decide) (by decide) (by decide) (fun r52 => ?_)
                refine x_astore (pc := 592) dL_law_592 (Nat.le_of_ble_eq_true rfl) (l' := [some (.ref 1000), some (.ref x1), some (.ref x2), some (.ref x3), some (.ref x4), some (.ref x5), some (.int x6), some (.int x7), none, none, none, some (.ref (mN S)), none, none]) rfl ?_
                refine x_aload_n (pc := 594) dL_law_594 (i := 3) rfl rfl ?_
                refine x_aload (pc := 595) dL_law_595 rfl ?_
                refine x_aload (pc := 597) dL_law_597 rfl ?_
                refine x_aload (pc := 599) dL_law_599 rfl ?_
                refine x_callSi (pc := 601) (As := [.ref x3, .ref x4, .ref x5, .ref (mN S)]) (rest := []) (vx := fun a => a.1) (μf := fun a => a.2) (mL_unpack r52.1 r52.2 cx (41 * cx) x3 x4 x5 (mN S)) (fun _ => rfl) rfl dL_law_601 q330 kL_unpack rfl ⟨Nat.le_of_ble_eq_true rfl, Nat.le_of_ble_eq_true rfl⟩ rfl (Nat.le_of_ble_eq_true rfl) (fun r53 => ?_)
                refine x_istore (pc := 604) dL_law_604 (Nat.le_of_ble_eq_true rfl) (l' := [some (.ref 1000), some (.ref x1), some (.ref x2), some (.ref x3), some (.ref x4), some (.ref x5), some (.int x6), some (.int x7), none, none, none, some (.ref (mN S)), some (.int r53.1), none]) rfl ?_
                refine x_aload_n (pc := 606) dL_law_606 (i := 1) rfl rfl ?_
                refine x_callH (pc := 607) (As := [.ref x1]) (rest := []) (mL_unpacks r52.1 r53.2 cx (41 * cx) x1) rfl dL_law_607 q333 kL_unpacks rfl ⟨Nat.le_of_ble_eq_true rfl, Nat.le_of_ble_eq_true rfl⟩ rfl (Nat.le_of_ble_eq_true rfl) (fun r54 => ?_)
                refine x_iload (pc := 610) dL_law_610 rfl ?_
                refine x_if_ge (pc := 612) (tgt := 620) dL_law_612 (by decide) ?_ ?_
                · refine x_iload (pc := 620) dL_law_620 rfl ?_
                  exact xL_law_622 (k60 := k60) hk60 r52.1 r54.2.1 (cx + r54.2.2) x1 x2 x3 x4 x5 x6 x7 (mN S) r53.1 r53.1 r54.1 _ _ _ _
                · refine x_bipush (pc := 615) (v := -101) dL_law_615 (by decide) ?_
                  refine x_goto (pc := 617) (tgt := 622) dL_law_617 (by decide) ?_
                  exact xL_law_622 (k60 := k60) hk60 r52.1 r54.2.1 (cx + r54.2.2) x1 x2 x3 x4 x5 x6 x7 (mN S) r53.1 (-101 : Int32) r54.1 _ _ _ _
              · refine x_iload (pc := 678) dL_law_678 rfl ?_
                refine x_bipush (pc := 680) (v := 20) dL_law_680 (by decide) ?_
                refine x_icmp_ge (pc := 682) (tgt := 824) dL_law_682 (by decide) ?_ ?_
                · refine x_iload (pc := 824) dL_law_824 rfl ?_
                  refine x_bipush (pc := 826) (v := 20) dL_law_826 (by decide) ?_
                  refine x_icmp_ne (pc := 828) (tgt := 889) dL_law_828 (by decide) ?_ ?_
                  · refine x_aload_n (pc := 831) dL_law_831 (i := 1) rfl rfl ?_
                    refine x_callH (pc := 832) (As := [.ref x1]) (rest := []) (mL_last S μ cx (41 * cx) x1) rfl dL_law_832 q385 kL_last rfl ⟨Nat.le_of_ble_eq_true rfl, Nat.le_of_ble_eq_true rfl⟩ rfl (Nat.le_of_ble_eq_true rfl) (fun r33 => ?_)
                    refine x_aload (pc := 835) dL_law_835 rfl ?_
                    refine x_bipush (pc := 837) (v := 6) dL_law_837 (by decide) ?_
                    refine x_ldI (pc := 839) dL_law_839 (fun v34 => ?_)
                    refine x_if_ne (pc := 840) (tgt := 848) dL_law_840 (by decide) ?_ ?_
                    · refine x_bipush (pc := 843) (v := -101) dL_law_843 (by decide) ?_
                      refine x_goto (pc := 845) (tgt := 855) dL_law_845 (by decide) ?_
                      exact xL_law_855 (k60 := k60) hk60 S r33.2.1 (cx + r33.2.2) x1 x2 x3 x4 x5 x6 x7 (-101 : Int32) r33.1 _ _ _ _ _ _
                    · refine x_aload (pc := 848) dL_law_848 rfl ?_
                      refine x_bipush (pc := 850) (v := 6) dL_law_850 (by decide) ?_
                      refine x_ldI (pc := 852) dL_law_852 (fun v35 => ?_)
                      refine x_iconst (pc := 853) (v := 1) dL_law_853 (by decide) ?_
                      refine x_isub (pc := 854) dL_law_854 ?_
                      exact xL_law_855 (k60 := k60) hk60 S r33.2.1 (cx + r33.2.2) x1 x2 x3 x4 x5 x6 x7 (v35 - (1 : Int32)) r33.1 _ _ _ _ _ _
                  · refine x_iload (pc := 889) dL_law_889 rfl ?_
                    refine x_bipush (pc := 891) (v := 11) dL_law_891 (by decide) ?_
                    refine x_ishr (pc := 893) dL_law_893 ?_
                    refine x_iconst (pc := 894) (v := 3) dL_law_894 (by decide) ?_
                    refine x_callSi (pc := 895) (As := [.int (x7 >>> ((11 : Int32) &&& 31)), .int (3 : Int32)]) (rest := []) (vx := fun a => a) (μf := fun _ => μ) (mL_low S μ cx (41 * cx) (x7 >>> ((11 : Int32) &&& 31)) (3 : Int32)) (fun _ => rfl) rfl dL_law_895 q134 kL_low rfl ⟨Nat.le_of_ble_eq_true rfl, Nat.le_of_ble_eq_true rfl⟩ rfl (Nat.le_of_ble_eq_true rfl) (fun v15 => ?_)
                    refine x_if_ne (pc := 898) (tgt := 988) dL_law_898 (by decide) ?_ ?_
                    · refine x_iload (pc := 901) dL_law_901 rfl ?_
                      refine x_iconst (pc := 903) (v := 2) dL_law_903 (by decide) ?_
                      refine x_irem (pc := 904) dL_law_904 (fun v21 => ?_)
                      refine x_if_ne (pc := 905) (tgt := 915) dL_law_905 (by decide) ?_ ?_
                      · refine x_aload_n (pc := 908) dL_law_908 (i := 1) rfl rfl ?_
                        refine x_callVi (pc := 909) (As := []) (rest := []) (vx := fun a => a.1) (μf := fun a => a.2) fcX10 (mFrM rfl (mX10_emptySack oS μ cx (41 * cx) x1)) (fun _ => rfl) rfl (fun _ h => cMok h) dL_law_909 q392 kX10_emptySack rfl ⟨Nat.le_of_ble_eq_true rfl, Nat.le_of_ble_eq_true rfl⟩ rfl (Nat.le_of_ble_eq_true rfl) (fun r32 => ?_)
                        refine x_goto (pc := 912) (tgt := 919) dL_law_912 (by decide) ?_
                        exact xL_law_919 (k60 := k60) hk60 S r32.2 cx x1 x2 x3 x4 x5 x6 x7 v14 r32.1 _ _ _ _ _
                      · refine x_aload_n (pc := 915) dL_law_915 (i := 1) rfl rfl ?_
                        refine x_callVi (pc := 916) (As := []) (rest := []) (vx := fun a => a.1) (μf := fun a => a.2) fcX10 (mFrM rfl (mX10_emptyText oS μ cx (41 * cx) x1)) (fun _ => rfl) rfl (fun _ h => cMok h) dL_law_916 q397 kX10_emptyText rfl ⟨Nat.le_of_ble_eq_true rfl, Nat.le_of_ble_eq_true rfl⟩ rfl (Nat.le_of_ble_eq_true rfl) (fun r22 => ?_)
                        exact xL_law_919 (k60 := k60) hk60 S r22.2 cx x1 x2 x3 x4 x5 x6 x7 v14 r22.1 _ _ _ _ _
                    · exact xL_law_988 (k60 := k60) hk60 S μ cx x1 x2 x3 x4 x5 x6 x7 (1 : Int32) _ _ _ _ _
                · refine x_iload (pc := 685) dL_law_685 rfl ?_
                  refine x_bipush (pc := 687) (v := 11) dL_law_687 (by decide) ?_
                  refine x_ishr (pc := 689) dL_law_689 ?_
                  refine x_iconst (pc := 690) (v := 3) dL_law_690 (by decide) ?_
                  refine x_callSi (pc := 691) (As := [.int (x7 >>> ((11 : Int32) &&& 31)), .int (3 : Int32)]) (rest := []) (vx := fun a => a) (μf := fun _ => μ) (mL_low S μ cx (41 * cx) (x7 >>> ((11 : Int32) &&& 31)) (3 : Int32)) (fun _ => rfl) rfl dL_law_691 q134 kL_low rfl ⟨Nat.le_of_ble_eq_true rfl, Nat.le_of_ble_eq_true rfl⟩ rfl (Nat.le_of_ble_eq_true rfl) (fun v39 => ?_)
                  refine x_if_ne (pc := 694) (tgt := 701) dL_law_694 (by decide) ?_ ?_
                  · refine x_iconst (pc := 697) (v := 0) dL_law_697 (by decide) ?_
                    refine x_goto (pc := 698) (tgt := 708) dL_law_698 (by decide) ?_
                    exact xL_law_708 (k60 := k60) hk60 S μ cx x1 x2 x3 x4 x5 x6 x7 v14 (0 : Int32) _ _ _ _ _
                  · refine x_iconst (pc := 701) (v := 1) dL_law_701 (by decide) ?_
                    refine x_iload (pc := 702) dL_law_702 rfl ?_
                    refine x_bipush (pc := 704) (v := 12) dL_law_704 (by decide) ?_
                    refine x_irem (pc := 706) dL_law_706 (fun v40 => ?_)
                    refine x_iadd (pc := 707) dL_law_707 ?_
                    exact xL_law_708 (k60 := k60) hk60 S μ cx x1 x2 x3 x4 x5 x6 x7 v14 ((1 : Int32) + v40) _ _ _ _ _
            · refine x_iload (pc := 530) dL_law_530 rfl ?_
              refine x_bipush (pc := 532) (v := 13) dL_law_532 (by decide) ?_
              refine x_isub (pc := 534) dL_law_534 ?_
              refine x_istore (pc := 535) dL_law_535 (Nat.le_of_ble_eq_true rfl) (l' := [some (.ref 1000), some (.ref x1), some (.ref x2), some (.ref x3), some (.ref x4), some (.ref x5), some (.int x6), some (.int x7), some (.int t0), some (.int v14), some (.int (1 : Int32)), some (.int (t0 - (13 : Int32))), d12, d13]) rfl ?_
              refine x_aload (pc := 537) dL_law_537 rfl ?_
              refine x_bipush (pc := 539) (v := 6) dL_law_539 (by decide) ?_
              refine x_aload_n (pc := 541) dL_law_541 (i := 2) rfl rfl ?_
              refine x_aload (pc := 542) dL_law_542 rfl ?_
              refine x_iload (pc := 544) dL_law_544 rfl ?_
              refine x_aload_n (pc := 546) dL_law_546 (i := 3) rfl rfl ?_
              refine x_aload (pc := 547) dL_law_547 rfl ?_
              refine x_wk (l' := [some (.ref 1000), some (.ref x1), some (.ref x2), some (.ref x3), some (.ref x4), some (.ref x5), some (.int x6), some (.int x7), none, none, none, some (.int (t0 - (13 : Int32))), none, none]) ⟨Or.inr rfl, Or.inr rfl, Or.inr rfl, Or.inr rfl, Or.inr rfl, Or.inr rfl, Or.inr rfl, Or.inr rfl, Or.inl rfl, Or.inl rfl, Or.inl rfl, Or.inr rfl, Or.inl rfl, Or.inl rfl, trivial⟩ ?_
              refine x_callB (pc := 549) (As := [.ref x2, .ref x5, .int (t0 - (13 : Int32)), .ref x3, .ref x4]) (rest := [.int (6 : Int32), .ref x5]) (mL_pack S μ cx x2 x5 (t0 - (13 : Int32)) x3 x4) rfl dL_law_549 q233 kL_pack rfl ⟨Nat.le_of_ble_eq_true rfl, Nat.le_of_ble_eq_true rfl⟩ rfl (Nat.le_of_ble_eq_true rfl) (fun r59 => ?_)
              refine x_sipush (pc := 552) (v := 1000) dL_law_552 (by decide) ?_
              refine x_irem (pc := 555) dL_law_555 (fun v60 => ?_)
              refine x_stI (pc := 556) dL_law_556 (fun m61 => ?_)
              refine x_aload_n (pc := 557) dL_law_557 (i := 1) rfl rfl ?_
              refine x_iload (pc := 558) dL_law_558 rfl ?_
              refine x_callVi (pc := 560) (As := [.int (t0 - (13 : Int32))]) (rest := []) (vx := fun a => a.1) (μf := fun a => a.2) fcX10 (mFrV rfl (mX10_pack oS m61 r59.2.2 (41 * r59.2.2) x1 (t0 - (13 : Int32)))) (fun _ => rfl) rfl (fun _ h => cVok h) dL_law_560 q251 kX10_pack rfl ⟨Nat.le_of_ble_eq_true rfl, Nat.le_of_ble_eq_true rfl⟩ rfl (Nat.le_of_ble_eq_true rfl) (fun r62 => ?_)
              refine x_aload (pc := 563) dL_law_563 rfl ?_
              refine x_bipush (pc := 565) (v := 6) dL_law_565 (by decide) ?_
              refine x_ldI (pc := 567) dL_law_567 (fun v63 => ?_)
              refine x_icmp_ne (pc := 568) (tgt := 575) dL_law_568 (by decide) ?_ ?_
              · refine x_iconst (pc := 571) (v := 1) dL_law_571 (by decide) ?_
                refine x_goto (pc := 572) (tgt := 576) dL_law_572 (by decide) ?_
                exact xL_law_576 (k60 := k60) hk60 S r62.2 r59.2.2 x1 x2 x3 x4 x5 x6 x7 (1 : Int32) _ _ _ _ _ _
              · refine x_iconst (pc := 575) (v := 0) dL_law_575 (by decide) ?_
                exact xL_law_576 (k60 := k60) hk60 S r62.2 r59.2.2 x1 x2 x3 x4 x5 x6 x7 (0 : Int32) _ _ _ _ _ _
  · refine x_iconst (pc := 116) (v := 1) dL_law_116 (by decide) ?_
    refine x_iload (pc := 117) dL_law_117 rfl ?_
    refine x_bipush (pc := 119) (v := 11) dL_law_119 (by decide) ?_
    refine x_ishr (pc := 121) dL_law_121 ?_
    refine x_bipush (pc := 122) (v := 7) dL_law_122 (by decide) ?_
    refine x_callSi (pc := 124) (As := [.int (x7 >>> ((11 : Int32) &&& 31)), .int (7 : Int32)]) (rest := [.int (1 : Int32)]) (vx := fun a => a) (μf := fun _ => μ) (mL_low S μ cx (41 * cx) (x7 >>> ((11 : Int32) &&& 31)) (7 : Int32)) (fun _ => rfl) rfl dL_law_124 q134 kL_low rfl ⟨Nat.le_of_ble_eq_true rfl, Nat.le_of_ble_eq_true rfl⟩ rfl (Nat.le_of_ble_eq_true rfl) (fun v97 => ?_)
    refine x_iadd (pc := 127) dL_law_127 ?_
    refine x_istore (pc := 128) dL_law_128 (Nat.le_of_ble_eq_true rfl) (l' := [some (.ref 1000), some (.ref x1), some (.ref x2), some (.ref x3), some (.ref x4), some (.ref x5), some (.int x6), some (.int x7), some (.int t0), some (.int v14), some (.int (1 : Int32)), some (.int ((1 : Int32) + v97)), d12, d13]) rfl ?_
    refine x_iload (pc := 130) dL_law_130 rfl ?_
    refine x_bipush (pc := 132) (v := 14) dL_law_132 (by decide) ?_
    refine x_ishr (pc := 134) dL_law_134 ?_
    refine x_iconst (pc := 135) (v := 3) dL_law_135 (by decide) ?_
    refine x_callSi (pc := 136) (As := [.int (x7 >>> ((14 : Int32) &&& 31)), .int (3 : Int32)]) (rest := []) (vx := fun a => a) (μf := fun _ => μ) (mL_low S μ cx (41 * cx) (x7 >>> ((14 : Int32) &&& 31)) (3 : Int32)) (fun _ => rfl) rfl dL_law_136 q134 kL_low rfl ⟨Nat.le_of_ble_eq_true rfl, Nat.le_of_ble_eq_true rfl⟩ rfl (Nat.le_of_ble_eq_true rfl) (fun v98 => ?_)
    refine x_if_le (pc := 139) (tgt := 163) dL_law_139 (by decide) ?_ ?_
    · exact xL_law_163 (k60 := k60) hk60 S μ cx x1 x2 x3 x4 x5 x6 x7 v14 _ _ _ _ _
    · refine x_iload (pc := 142) dL_law_142 rfl ?_
      refine x_aload (pc := 144) dL_law_144 rfl ?_
      refine x_iconst (pc := 146) (v := 0) dL_law_146 (by decide) ?_
      refine x_ldI (pc := 147) dL_law_147 (fun v107 => ?_)
      refine x_icmp_gt (pc := 148) (tgt := 163) dL_law_148 (by decide) ?_ ?_
      · exact xL_law_163 (k60 := k60) hk60 S μ cx x1 x2 x3 x4 x5 x6 x7 v14 _ _ _ _ _
      · refine x_aload_n (pc := 151) dL_law_151 (i := 2) rfl rfl ?_
        refine x_aload (pc := 152) dL_law_152 rfl ?_
        refine x_iconst (pc := 154) (v := 0) dL_law_154 (by decide) ?_
        refine x_ldI (pc := 155) dL_law_155 (fun v108 => ?_)
        refine x_iload (pc := 156) dL_law_156 rfl ?_
        refine x_isub (pc := 158) dL_law_158 ?_
        refine x_ldI (pc := 159) dL_law_159 (fun v109 => ?_)
        refine x_goto (pc := 160) (tgt := 167) dL_law_160 (by decide) ?_
        exact xL_law_167 (k60 := k60) hk60 S μ cx x1 x2 x3 x4 x5 x6 x7 v109 _ _ _ _ _ _
set_option maxRecDepth 100000 in
set_option maxHeartbeats 40000000 in
theorem xL_law_60 {n0 c0 s0 : Nat} {b L : Nat} {xs : Nat → Int32} : ∀ (n : Nat) (S : mSh) (μ : mMm) (cx : Nat) (x1 : Nat) (x2 : Nat) (x3 : Nat) (x4 : Nat) (x5 : Nat) (x6 : Int32) (d7 : Option Value) (d8 : Option Value) (d9 : Option Value) (d10 : Option Value) (d11 : Option Value) (d12 : Option Value) (d13 : Option Value), mX (ML_law b L xs) n0 c0 s0 60 [some (.ref 1000), some (.ref x1), some (.ref x2), some (.ref x3), some (.ref x4), some (.ref x5), some (.int x6), d7, d8, d9, d10, d11, d12, d13] [] (S, μ, cx, 41 * cx) iAI (lL_law_60 L xs n S μ cx x1 x2 x3 x4 x5 x6) := by
  intro n
  induction n with
  | zero => intros; exact x_none
  | succ n ih =>
    intro S μ cx x1 x2 x3 x4 x5 x6 d7 d8 d9 d10 d11 d12 d13
    unfold lL_law_60
    refine x_iload (pc := 60) dL_law_60 rfl ?_
    refine x_bipush (pc := 62) (v := 90) dL_law_62 (by decide) ?_
    refine x_icmp_ge (pc := 64) (tgt := 1054) dL_law_64 (by decide) ?_ ?_
    · refine x_iconst (pc := 1054) (v := 1) dL_law_1054 (by decide) ?_
      exact x_iret rfl dL_law_1055 rfl rfl
    · refine x_aload_n (pc := 67) dL_law_67 (i := 0) rfl rfl ?_
      refine x_iload (pc := 68) dL_law_68 rfl ?_
      refine x_callX (pc := 70) (b := b) (L := L) (xs := xs) (As := [.ref 1000, .int x6]) (rest := []) (vx := fun a => a) rfl (mL_cell b L xs S μ cx (41 * cx) 1000 x6) (fun _ => rfl) rfl dL_law_70 q128 kL_cell rfl ⟨Nat.le_of_ble_eq_true rfl, Nat.le_of_ble_eq_true rfl⟩ rfl (Nat.le_of_ble_eq_true rfl) (fun v12 => ?_)
      refine x_istore (pc := 73) dL_law_73 (Nat.le_of_ble_eq_true rfl) (l' := [some (.ref 1000), some (.ref x1), some (.ref x2), some (.ref x3), some (.ref x4), some (.ref x5), some (.int x6), some (.int v12), d8, d9, d10, d11, d12, d13]) rfl ?_
      refine x_iload (pc := 75) dL_law_75 rfl ?_
      refine x_bipush (pc := 77) (v := 16) dL_law_77 (by decide) ?_
      refine x_icmp_ge (pc := 79) (tgt := 86) dL_law_79 (by decide) ?_ ?_
      · refine x_iload (pc := 86) dL_law_86 rfl ?_
        refine x_bipush (pc := 88) (v := 22) dL_law_88 (by decide) ?_
        refine x_callSi (pc := 90) (As := [.int v12, .int (22 : Int32)]) (rest := []) (vx := fun a => a) (μf := fun _ => μ) (mL_low S μ cx (41 * cx) v12 (22 : Int32)) (fun _ => rfl) rfl dL_law_90 q134 kL_low rfl ⟨Nat.le_of_ble_eq_true rfl, Nat.le_of_ble_eq_true rfl⟩ rfl (Nat.le_of_ble_eq_true rfl) (fun v13 => ?_)
        exact xL_law_93 (k60 := (lL_law_60 L xs n)) ih S μ cx x1 x2 x3 x4 x5 x6 v12 v13 _ _ _ _ _ _
      · refine x_iconst (pc := 82) (v := 0) dL_law_82 (by decide) ?_
        refine x_goto (pc := 83) (tgt := 93) dL_law_83 (by decide) ?_
        exact xL_law_93 (k60 := (lL_law_60 L xs n)) ih S μ cx x1 x2 x3 x4 x5 x6 v12 (0 : Int32) _ _ _ _ _ _
set_option maxRecDepth 100000 in
set_option maxHeartbeats 40000000 in
theorem xL_law {b L : Nat} {xs : Nat → Int32} {n0 c0 s0 cx : Nat} {S : mSh} {μ : mMm} : mX (ML_law b L xs) n0 c0 s0 0 [some (.ref 1000), none, none, none, none, none, none, none, none, none, none, none, none, none] [] (S, μ, cx, 41 * cx) iAI (fL_law L xs S μ cx) := by
  unfold fL_law
  refine x_aN (pc := 0) fcX10 rfl dL_law_0 q0 q1 q2 ndX10 (fun r1 => ?_)
  refine x_dup (pc := 3) dL_law_3 rfl ?_
  refine x_callI (pc := 4) (As := []) (rest := [.ref (mN S)]) (Sf := fun a => a.1) (μf := fun a => a.2) (mX10_init r1.1 r1.2 cx (41 * cx) (mN S)) (fun _ => rfl) (Or.inl rfl) rfl dL_law_4 q4 kX10_init rfl ⟨Nat.le_of_ble_eq_true rfl, Nat.le_of_ble_eq_true rfl⟩ rfl (Nat.le_of_ble_eq_true rfl) (fun r2 => ?_)
  refine x_astore_n (pc := 7) dL_law_7 (i := 1) rfl (Nat.le_of_ble_eq_true rfl) (l' := [some (.ref 1000), some (.ref (mN S)), none, none, none, none, none, none, none, none, none, none, none, none]) rfl ?_
  refine x_bipush (pc := 8) (v := 40) dL_law_8 (by decide) ?_
  refine x_aI (pc := 10) rfl dL_law_10 q3 (by decide) (by decide) (by decide) (fun r3 => ?_)
  refine x_astore_n (pc := 12) dL_law_12 (i := 2) rfl (Nat.le_of_ble_eq_true rfl) (l' := [some (.ref 1000), some (.ref (mN S)), some (.ref (mN r2.1)), none, none, none, none, none, none, none, none, none, none, none]) rfl ?_
  refine x_bipush (pc := 13) (v := 40) dL_law_13 (by decide) ?_
  refine x_aI (pc := 15) rfl dL_law_15 q3 (by decide) (by decide) (by decide) (fun r4 => ?_)
  refine x_astore_n (pc := 17) dL_law_17 (i := 3) rfl (Nat.le_of_ble_eq_true rfl) (l' := [some (.ref 1000), some (.ref (mN S)), some (.ref (mN r2.1)), some (.ref (mN r3.1)), none, none, none, none, none, none, none, none, none, none]) rfl ?_
  refine x_bipush (pc := 18) (v := 40) dL_law_18 (by decide) ?_
  refine x_aI (pc := 20) rfl dL_law_20 q3 (by decide) (by decide) (by decide) (fun r5 => ?_)
  refine x_astore (pc := 22) dL_law_22 (Nat.le_of_ble_eq_true rfl) (l' := [some (.ref 1000), some (.ref (mN S)), some (.ref (mN r2.1)), some (.ref (mN r3.1)), some (.ref (mN r4.1)), none, none, none, none, none, none, none, none, none]) rfl ?_
  refine x_bipush (pc := 24) (v := 7) dL_law_24 (by decide) ?_
  refine x_aI (pc := 26) rfl dL_law_26 q3 (by decide) (by decide) (by decide) (fun r6 => ?_)
  refine x_astore (pc := 28) dL_law_28 (Nat.le_of_ble_eq_true rfl) (l' := [some (.ref 1000), some (.ref (mN S)), some (.ref (mN r2.1)), some (.ref (mN r3.1)), some (.ref (mN r4.1)), some (.ref (mN r5.1)), none, none, none, none, none, none, none, none]) rfl ?_
  refine x_aload (pc := 30) dL_law_30 rfl ?_
  refine x_iconst (pc := 32) (v := 1) dL_law_32 (by decide) ?_
  refine x_bipush (pc := 33) (v := 16) dL_law_33 (by decide) ?_
  refine x_stI (pc := 35) dL_law_35 (fun m7 => ?_)
  refine x_aload (pc := 36) dL_law_36 rfl ?_
  refine x_iconst (pc := 38) (v := 2) dL_law_38 (by decide) ?_
  refine x_iconst (pc := 39) (v := 3) dL_law_39 (by decide) ?_
  refine x_stI (pc := 40) dL_law_40 (fun m8 => ?_)
  refine x_aload (pc := 41) dL_law_41 rfl ?_
  refine x_iconst (pc := 43) (v := 3) dL_law_43 (by decide) ?_
  refine x_bipush (pc := 44) (v := 8) dL_law_44 (by decide) ?_
  refine x_stI (pc := 46) dL_law_46 (fun m9 => ?_)
  refine x_aload (pc := 47) dL_law_47 rfl ?_
  refine x_iconst (pc := 49) (v := 4) dL_law_49 (by decide) ?_
  refine x_iconst (pc := 50) (v := 3) dL_law_50 (by decide) ?_
  refine x_stI (pc := 51) dL_law_51 (fun m10 => ?_)
  refine x_aload (pc := 52) dL_law_52 rfl ?_
  refine x_iconst (pc := 54) (v := 5) dL_law_54 (by decide) ?_
  refine x_iconst (pc := 55) (v := 5) dL_law_55 (by decide) ?_
  refine x_stI (pc := 56) dL_law_56 (fun m11 => ?_)
  refine x_iconst (pc := 57) (v := 0) dL_law_57 (by decide) ?_
  refine x_istore (pc := 58) dL_law_58 (Nat.le_of_ble_eq_true rfl) (l' := [some (.ref 1000), some (.ref (mN S)), some (.ref (mN r2.1)), some (.ref (mN r3.1)), some (.ref (mN r4.1)), some (.ref (mN r5.1)), some (.int (0 : Int32)), none, none, none, none, none, none, none]) rfl ?_
  exact xL_law_60 FU r6.1 m11 cx (mN S) (mN r2.1) (mN r3.1) (mN r4.1) (mN r5.1) (0 : Int32) _ _ _ _ _ _ _
