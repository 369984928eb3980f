/-! printed by gen.py: each method as a function of numbers, and that the machine does what it says -/
/-! SlideMillsLaw.law([I)Z -/
def lL_law_2293 (k23 : mMm → Nat → Nat → Nat → Nat → Int32 → Option (Int32 × mSh × mMm × Nat)) (L : Nat) (xs : Nat → Int32) (S : mSh) (μ : mMm) (cx : Nat) (x1 : Nat) (x2 : Nat) (x3 : Nat) (x4 : Int32) : Option (Int32 × mSh × mMm × Nat) := k23 μ cx x1 x2 x3 (x4 + (3 : Int32))
def lL_law_317 (k23 : mMm → Nat → Nat → Nat → Nat → Int32 → Option (Int32 × mSh × mMm × Nat)) (L : Nat) (xs : Nat → Int32) (S : mSh) (μ : mMm) (cx : Nat) (x1 : Nat) (x2 : Nat) (x3 : Nat) (x4 : Int32) : Option (Int32 × mSh × mMm × Nat) := lL_law_2293 k23 L xs S μ cx x1 x2 x3 x4
def lL_law_385 (k23 : mMm → Nat → Nat → Nat → Nat → Int32 → Option (Int32 × mSh × mMm × Nat)) (L : Nat) (xs : Nat → Int32) (S : mSh) (μ : mMm) (cx : Nat) (x1 : Nat) (x2 : Nat) (x3 : Nat) (x4 : Int32) : Option (Int32 × mSh × mMm × Nat) := lL_law_2293 k23 L xs S μ cx x1 x2 x3 x4
def lL_law_454 (k23 : mMm → Nat → Nat → Nat → Nat → Int32 → Option (Int32 × mSh × mMm × Nat)) (L : Nat) (xs : Nat → Int32) (S : mSh) (μ : mMm) (cx : Nat) (x1 : Nat) (x2 : Nat) (x3 : Nat) (x4 : Int32) : Option (Int32 × mSh × mMm × Nat) := lL_law_2293 k23 L xs S μ cx x1 x2 x3 x4
def lL_law_510 (k23 : mMm → Nat → Nat → Nat → Nat → Int32 → Option (Int32 × mSh × mMm × Nat)) (L : Nat) (xs : Nat → Int32) (S : mSh) (μ : mMm) (cx : Nat) (x1 : Nat) (x2 : Nat) (x3 : Nat) (x4 : Int32) : Option (Int32 × mSh × mMm × Nat) := lL_law_2293 k23 L xs S μ cx x1 x2 x3 x4
def lL_law_566 (k23 : mMm → Nat → Nat → Nat → Nat → Int32 → Option (Int32 × mSh × mMm × Nat)) (L : Nat) (xs : Nat → Int32) (S : mSh) (μ : mMm) (cx : Nat) (x1 : Nat) (x2 : Nat) (x3 : Nat) (x4 : Int32) : Option (Int32 × mSh × mMm × Nat) := lL_law_2293 k23 L xs S μ cx x1 x2 x3 x4
def lL_law_622 (k23 : mMm → Nat → Nat → Nat → Nat → Int32 → Option (Int32 × mSh × mMm × Nat)) (L : Nat) (xs : Nat → Int32) (S : mSh) (μ : mMm) (cx : Nat) (x1 : Nat) (x2 : Nat) (x3 : Nat) (x4 : Int32) : Option (Int32 × mSh × mMm × Nat) := lL_law_2293 k23 L xs S μ cx x1 x2 x3 x4
def lL_law_678 (k23 : mMm → Nat → Nat → Nat → Nat → Int32 → Option (Int32 × mSh × mMm × Nat)) (L : Nat) (xs : Nat → Int32) (S : mSh) (μ : mMm) (cx : Nat) (x1 : Nat) (x2 : Nat) (x3 : Nat) (x4 : Int32) : Option (Int32 × mSh × mMm × Nat) := lL_law_2293 k23 L xs S μ cx x1 x2 x3 x4
def lL_law_734 (k23 : mMm → Nat → Nat → Nat → Nat → Int32 → Option (Int32 × mSh × mMm × Nat)) (L : Nat) (xs : Nat → Int32) (S : mSh) (μ : mMm) (cx : Nat) (x1 : Nat) (x2 : Nat) (x3 : Nat) (x4 : Int32) : Option (Int32 × mSh × mMm × Nat) := lL_law_2293 k23 L xs S μ cx x1 x2 x3 x4
def lL_law_778 (k23 : mMm → Nat → Nat → Nat → Nat → Int32 → Option (Int32 × mSh × mMm × Nat)) (L : Nat) (xs : Nat → Int32) (S : mSh) (μ : mMm) (cx : Nat) (x1 : Nat) (x2 : Nat) (x3 : Nat) (x4 : Int32) : Option (Int32 × mSh × mMm × Nat) := lL_law_2293 k23 L xs S μ cx x1 x2 x3 x4
def lL_law_834 (k23 : mMm → Nat → Nat → Nat → Nat → Int32 → Option (Int32 × mSh × mMm × Nat)) (L : Nat) (xs : Nat → Int32) (S : mSh) (μ : mMm) (cx : Nat) (x1 : Nat) (x2 : Nat) (x3 : Nat) (x4 : Int32) : Option (Int32 × mSh × mMm × Nat) := lL_law_2293 k23 L xs S μ cx x1 x2 x3 x4
def lL_law_902 (k23 : mMm → Nat → Nat → Nat → Nat → Int32 → Option (Int32 × mSh × mMm × Nat)) (L : Nat) (xs : Nat → Int32) (S : mSh) (μ : mMm) (cx : Nat) (x1 : Nat) (x2 : Nat) (x3 : Nat) (x4 : Int32) : Option (Int32 × mSh × mMm × Nat) := lL_law_2293 k23 L xs S μ cx x1 x2 x3 x4
def lL_law_946 (k23 : mMm → Nat → Nat → Nat → Nat → Int32 → Option (Int32 × mSh × mMm × Nat)) (L : Nat) (xs : Nat → Int32) (S : mSh) (μ : mMm) (cx : Nat) (x1 : Nat) (x2 : Nat) (x3 : Nat) (x4 : Int32) : Option (Int32 × mSh × mMm × Nat) := lL_law_2293 k23 L xs S μ cx x1 x2 x3 x4
def lL_law_1015 (k23 : mMm → Nat → Nat → Nat → Nat → Int32 → Option (Int32 × mSh × mMm × Nat)) (L : Nat) (xs : Nat → Int32) (S : mSh) (μ : mMm) (cx : Nat) (x1 : Nat) (x2 : Nat) (x3 : Nat) (x4 : Int32) : Option (Int32 × mSh × mMm × Nat) := lL_law_2293 k23 L xs S μ cx x1 x2 x3 x4
def lL_law_1085 (k23 : mMm → Nat → Nat → Nat → Nat → Int32 → Option (Int32 × mSh × mMm × Nat)) (L : Nat) (xs : Nat → Int32) (S : mSh) (μ : mMm) (cx : Nat) (x1 : Nat) (x2 : Nat) (x3 : Nat) (x4 : Int32) : Option (Int32 × mSh × mMm × Nat) := lL_law_2293 k23 L xs S μ cx x1 x2 x3 x4
def lL_law_1142 (k23 : mMm → Nat → Nat → Nat → Nat → Int32 → Option (Int32 × mSh × mMm × Nat)) (L : Nat) (xs : Nat → Int32) (S : mSh) (μ : mMm) (cx : Nat) (x1 : Nat) (x2 : Nat) (x3 : Nat) (x4 : Int32) : Option (Int32 × mSh × mMm × Nat) := lL_law_2293 k23 L xs S μ cx x1 x2 x3 x4
def lL_law_1186 (k23 : mMm → Nat → Nat → Nat → Nat → Int32 → Option (Int32 × mSh × mMm × Nat)) (L : Nat) (xs : Nat → Int32) (S : mSh) (μ : mMm) (cx : Nat) (x1 : Nat) (x2 : Nat) (x3 : Nat) (x4 : Int32) : Option (Int32 × mSh × mMm × Nat) := lL_law_2293 k23 L xs S μ cx x1 x2 x3 x4
def lL_law_1230 (k23 : mMm → Nat → Nat → Nat → Nat → Int32 → Option (Int32 × mSh × mMm × Nat)) (L : Nat) (xs : Nat → Int32) (S : mSh) (μ : mMm) (cx : Nat) (x1 : Nat) (x2 : Nat) (x3 : Nat) (x4 : Int32) : Option (Int32 × mSh × mMm × Nat) := lL_law_2293 k23 L xs S μ cx x1 x2 x3 x4
def lL_law_1287 (k23 : mMm → Nat → Nat → Nat → Nat → Int32 → Option (Int32 × mSh × mMm × Nat)) (L : Nat) (xs : Nat → Int32) (S : mSh) (μ : mMm) (cx : Nat) (x1 : Nat) (x2 : Nat) (x3 : Nat) (x4 : Int32) : Option (Int32 × mSh × mMm × Nat) := lL_law_2293 k23 L xs S μ cx x1 x2 x3 x4
def lL_law_1369 (k23 : mMm → Nat → Nat → Nat → Nat → Int32 → Option (Int32 × mSh × mMm × Nat)) (L : Nat) (xs : Nat → Int32) (S : mSh) (μ : mMm) (cx : Nat) (x1 : Nat) (x2 : Nat) (x3 : Nat) (x4 : Int32) : Option (Int32 × mSh × mMm × Nat) := lL_law_2293 k23 L xs S μ cx x1 x2 x3 x4
def lL_law_1484 (k23 : mMm → Nat → Nat → Nat → Nat → Int32 → Option (Int32 × mSh × mMm × Nat)) (L : Nat) (xs : Nat → Int32) (S : mSh) (μ : mMm) (cx : Nat) (x1 : Nat) (x2 : Nat) (x3 : Nat) (x4 : Int32) : Option (Int32 × mSh × mMm × Nat) := lL_law_2293 k23 L xs S μ cx x1 x2 x3 x4
def lL_law_1478 (k23 : mMm → Nat → Nat → Nat → Nat → Int32 → Option (Int32 × mSh × mMm × Nat)) (L : Nat) (xs : Nat → Int32) (S : mSh) (μ : mMm) (cx : Nat) (x1 : Nat) (x2 : Nat) (x3 : Nat) (x4 : Int32) (t0 : Int64) (t1 : Int64) : Option (Int32 × mSh × mMm × Nat) := if (lg_cmp t1 t0) = 0 then (lL_law_1484 k23 L xs S μ cx x1 x2 x3 x4) else (some ((0 : Int32), S, μ, cx))
def lL_law_1540 (k23 : mMm → Nat → Nat → Nat → Nat → Int32 → Option (Int32 × mSh × mMm × Nat)) (L : Nat) (xs : Nat → Int32) (S : mSh) (μ : mMm) (cx : Nat) (x1 : Nat) (x2 : Nat) (x3 : Nat) (x4 : Int32) : Option (Int32 × mSh × mMm × Nat) := lL_law_2293 k23 L xs S μ cx x1 x2 x3 x4
def lL_law_1596 (k23 : mMm → Nat → Nat → Nat → Nat → Int32 → Option (Int32 × mSh × mMm × Nat)) (L : Nat) (xs : Nat → Int32) (S : mSh) (μ : mMm) (cx : Nat) (x1 : Nat) (x2 : Nat) (x3 : Nat) (x4 : Int32) : Option (Int32 × mSh × mMm × Nat) := lL_law_2293 k23 L xs S μ cx x1 x2 x3 x4
def lL_law_1652 (k23 : mMm → Nat → Nat → Nat → Nat → Int32 → Option (Int32 × mSh × mMm × Nat)) (L : Nat) (xs : Nat → Int32) (S : mSh) (μ : mMm) (cx : Nat) (x1 : Nat) (x2 : Nat) (x3 : Nat) (x4 : Int32) : Option (Int32 × mSh × mMm × Nat) := lL_law_2293 k23 L xs S μ cx x1 x2 x3 x4
def lL_law_1773 (k23 : mMm → Nat → Nat → Nat → Nat → Int32 → Option (Int32 × mSh × mMm × Nat)) (L : Nat) (xs : Nat → Int32) (S : mSh) (μ : mMm) (cx : Nat) (x1 : Nat) (x2 : Nat) (x3 : Nat) (x4 : Int32) : Option (Int32 × mSh × mMm × Nat) := lL_law_2293 k23 L xs S μ cx x1 x2 x3 x4
def lL_law_1829 (k23 : mMm → Nat → Nat → Nat → Nat → Int32 → Option (Int32 × mSh × mMm × Nat)) (L : Nat) (xs : Nat → Int32) (S : mSh) (μ : mMm) (cx : Nat) (x1 : Nat) (x2 : Nat) (x3 : Nat) (x4 : Int32) : Option (Int32 × mSh × mMm × Nat) := lL_law_2293 k23 L xs S μ cx x1 x2 x3 x4
def lL_law_1885 (k23 : mMm → Nat → Nat → Nat → Nat → Int32 → Option (Int32 × mSh × mMm × Nat)) (L : Nat) (xs : Nat → Int32) (S : mSh) (μ : mMm) (cx : Nat) (x1 : Nat) (x2 : Nat) (x3 : Nat) (x4 : Int32) : Option (Int32 × mSh × mMm × Nat) := lL_law_2293 k23 L xs S μ cx x1 x2 x3 x4
def lL_law_1941 (k23 : mMm → Nat → Nat → Nat → Nat → Int32 → Option (Int32 × mSh × mMm × Nat)) (L : Nat) (xs : Nat → Int32) (S : mSh) (μ : mMm) (cx : Nat) (x1 : Nat) (x2 : Nat) (x3 : Nat) (x4 : Int32) : Option (Int32 × mSh × mMm × Nat) := lL_law_2293 k23 L xs S μ cx x1 x2 x3 x4
def lL_law_1997 (k23 : mMm → Nat → Nat → Nat → Nat → Int32 → Option (Int32 × mSh × mMm × Nat)) (L : Nat) (xs : Nat → Int32) (S : mSh) (μ : mMm) (cx : Nat) (x1 : Nat) (x2 : Nat) (x3 : Nat) (x4 : Int32) : Option (Int32 × mSh × mMm × Nat) := lL_law_2293 k23 L xs S μ cx x1 x2 x3 x4
def lL_law_2079 (k23 : mMm → Nat → Nat → Nat → Nat → Int32 → Option (Int32 × mSh × mMm × Nat)) (L : Nat) (xs : Nat → Int32) (S : mSh) (μ : mMm) (cx : Nat) (x1 : Nat) (x2 : Nat) (x3 : Nat) (x4 : Int32) : Option (Int32 × mSh × mMm × Nat) := lL_law_2293 k23 L xs S μ cx x1 x2 x3 x4
def lL_law_2135 (k23 : mMm → Nat → Nat → Nat → Nat → Int32 → Option (Int32 × mSh × mMm × Nat)) (L : Nat) (xs : Nat → Int32) (S : mSh) (μ : mMm) (cx : Nat) (x1 : Nat) (x2 : Nat) (x3 : Nat) (x4 : Int32) : Option (Int32 × mSh × mMm × Nat) := lL_law_2293 k23 L xs S μ cx x1 x2 x3 x4
def lL_law_2191 (k23 : mMm → Nat → Nat → Nat → Nat → Int32 → Option (Int32 × mSh × mMm × Nat)) (L : Nat) (xs : Nat → Int32) (S : mSh) (μ : mMm) (cx : Nat) (x1 : Nat) (x2 : Nat) (x3 : Nat) (x4 : Int32) : Option (Int32 × mSh × mMm × Nat) := lL_law_2293 k23 L xs S μ cx x1 x2 x3 x4
def lL_law_2235 (k23 : mMm → Nat → Nat → Nat → Nat → Int32 → Option (Int32 × mSh × mMm × Nat)) (L : Nat) (xs : Nat → Int32) (S : mSh) (μ : mMm) (cx : Nat) (x1 : Nat) (x2 : Nat) (x3 : Nat) (x4 : Int32) : Option (Int32 × mSh × mMm × Nat) := lL_law_2293 k23 L xs S μ cx x1 x2 x3 x4
def lL_law_2276 (k23 : mMm → Nat → Nat → Nat → Nat → Int32 → Option (Int32 × mSh × mMm × Nat)) (L : Nat) (xs : Nat → Int32) (S : mSh) (μ : mMm) (cx : Nat) (x1 : Nat) (x2 : Nat) (x3 : Nat) (x4 : Int32) : Option (Int32 × mSh × mMm × Nat) := lL_law_2293 k23 L xs S μ cx x1 x2 x3 x4
def lL_law_23 (L : Nat) (xs : Nat → Int32) (S : mSh) : Nat → mMm → Nat → Nat → Nat → Nat → Int32 → Option (Int32 × mSh × mMm × Nat)
  | 0, _, _, _, _, _, _ => none
  | n + 1, μ, cx, x1, x2, x3, x4 => if ((Int32.ofNat L) - (3 : Int32)) < x4 then (some ((1 : Int32), S, μ, cx)) else ((ldS L xs x4).bind fun v6 => if ((v6 &&& (63 : Int32)).toInt < 0 ∨ 52 < (v6 &&& (63 : Int32)).toInt) then (lL_law_2293 (lL_law_23 L xs S n) L xs S μ cx x1 x2 x3 x4) else (if (v6 &&& (63 : Int32)).toInt = 0 then ((ldS L xs (x4 + (1 : Int32))).bind fun v7 => (fL_addLetter S μ x1 v7 x3).bind fun r8 => (ldS L xs (x4 + (1 : Int32))).bind fun v9 => (fX11_addLetter S r8.2.1 x2 v9).bind fun r10 => (fX11_thrown S r10.2 x2).bind fun v11 => if v11 = r8.1 then (if r8.1 = 0 then ((ldL S r10.2 x3 (0 : Int32)).bind fun v12 => if (lg_cmp v12 r10.1.toInt64) = 0 then (lL_law_317 (lL_law_23 L xs S n) L xs S r10.2 (cx + r8.2.2) x1 x2 x3 x4) else (some ((0 : Int32), S, r10.2, cx + r8.2.2))) else (lL_law_317 (lL_law_23 L xs S n) L xs S r10.2 (cx + r8.2.2) x1 x2 x3 x4)) else (some ((0 : Int32), S, r10.2, cx + r8.2.2))) else (if (v6 &&& (63 : Int32)).toInt = 1 then ((ldS L xs (x4 + (1 : Int32))).bind fun v13 => (ldS L xs (x4 + (2 : Int32))).bind fun v14 => (fL_setLetter S μ x1 v13 v14 x3).bind fun r15 => (ldS L xs (x4 + (1 : Int32))).bind fun v16 => (ldS L xs (x4 + (2 : Int32))).bind fun v17 => (fX11_setLetter S r15.2.1 x2 v16 v17).bind fun r18 => (fX11_thrown S r18.2 x2).bind fun v19 => if v19 = r15.1 then (if r15.1 = 0 then ((ldL S r18.2 x3 (0 : Int32)).bind fun v20 => if (lg_cmp v20 r18.1.toInt64) = 0 then (lL_law_385 (lL_law_23 L xs S n) L xs S r18.2 (cx + r15.2.2) x1 x2 x3 x4) else (some ((0 : Int32), S, r18.2, cx + r15.2.2))) else (lL_law_385 (lL_law_23 L xs S n) L xs S r18.2 (cx + r15.2.2) x1 x2 x3 x4)) else (some ((0 : Int32), S, r18.2, cx + r15.2.2))) else (if (v6 &&& (63 : Int32)).toInt = 2 then ((fX10_emptyText S μ x1).bind fun r21 => (fX11_emptyText S r21.2 x2).bind fun r22 => if r21.1 = r22.1 then (lL_law_2293 (lL_law_23 L xs S n) L xs S r22.2 cx x1 x2 x3 x4) else (some ((0 : Int32), S, r22.2, cx))) else (if (v6 &&& (63 : Int32)).toInt = 3 then ((ldS L xs (x4 + (1 : Int32))).bind fun v23 => (fL_setWindow S μ x1 v23 x3).bind fun r24 => (ldS L xs (x4 + (1 : Int32))).bind fun v25 => (fX11_setWindow S r24.2.1 x2 v25).bind fun r26 => (fX11_thrown S r26.2 x2).bind fun v27 => if v27 = r24.1 then (if r24.1 = 0 then ((ldL S r26.2 x3 (0 : Int32)).bind fun v28 => if (lg_cmp v28 r26.1.toInt64) = 0 then (lL_law_454 (lL_law_23 L xs S n) L xs S r26.2 (cx + r24.2.2) x1 x2 x3 x4) else (some ((0 : Int32), S, r26.2, cx + r24.2.2))) else (lL_law_454 (lL_law_23 L xs S n) L xs S r26.2 (cx + r24.2.2) x1 x2 x3 x4)) else (some ((0 : Int32), S, r26.2, cx + r24.2.2))) else (if (v6 &&& (63 : Int32)).toInt = 4 then ((ldS L xs (x4 + (1 : Int32))).bind fun v29 => (fL_setShortest S μ x1 v29 x3).bind fun r30 => (ldS L xs (x4 + (1 : Int32))).bind fun v31 => (fX11_setShortest S r30.2.1 x2 v31).bind fun r32 => (fX11_thrown S r32.2 x2).bind fun v33 => if v33 = r30.1 then (if r30.1 = 0 then ((ldL S r32.2 x3 (0 : Int32)).bind fun v34 => if (lg_cmp v34 r32.1.toInt64) = 0 then (lL_law_510 (lL_law_23 L xs S n) L xs S r32.2 (cx + r30.2.2) x1 x2 x3 x4) else (some ((0 : Int32), S, r32.2, cx + r30.2.2))) else (lL_law_510 (lL_law_23 L xs S n) L xs S r32.2 (cx + r30.2.2) x1 x2 x3 x4)) else (some ((0 : Int32), S, r32.2, cx + r30.2.2))) else (if (v6 &&& (63 : Int32)).toInt = 5 then ((ldS L xs (x4 + (1 : Int32))).bind fun v35 => (fL_setLongest S μ x1 v35 x3).bind fun r36 => (ldS L xs (x4 + (1 : Int32))).bind fun v37 => (fX11_setLongest S r36.2.1 x2 v37).bind fun r38 => (fX11_thrown S r38.2 x2).bind fun v39 => if v39 = r36.1 then (if r36.1 = 0 then ((ldL S r38.2 x3 (0 : Int32)).bind fun v40 => if (lg_cmp v40 r38.1.toInt64) = 0 then (lL_law_566 (lL_law_23 L xs S n) L xs S r38.2 (cx + r36.2.2) x1 x2 x3 x4) else (some ((0 : Int32), S, r38.2, cx + r36.2.2))) else (lL_law_566 (lL_law_23 L xs S n) L xs S r38.2 (cx + r36.2.2) x1 x2 x3 x4)) else (some ((0 : Int32), S, r38.2, cx + r36.2.2))) else (if (v6 &&& (63 : Int32)).toInt = 6 then ((ldS L xs (x4 + (1 : Int32))).bind fun v41 => (fL_setLetterPrice S μ x1 v41 x3).bind fun r42 => (ldS L xs (x4 + (1 : Int32))).bind fun v43 => (fX11_setLetterPrice S r42.2.1 x2 v43).bind fun r44 => (fX11_thrown S r44.2 x2).bind fun v45 => if v45 = r42.1 then (if r42.1 = 0 then ((ldL S r44.2 x3 (0 : Int32)).bind fun v46 => if (lg_cmp v46 r44.1.toInt64) = 0 then (lL_law_622 (lL_law_23 L xs S n) L xs S r44.2 (cx + r42.2.2) x1 x2 x3 x4) else (some ((0 : Int32), S, r44.2, cx + r42.2.2))) else (lL_law_622 (lL_law_23 L xs S n) L xs S r44.2 (cx + r42.2.2) x1 x2 x3 x4)) else (some ((0 : Int32), S, r44.2, cx + r42.2.2))) else (if (v6 &&& (63 : Int32)).toInt = 7 then ((ldS L xs (x4 + (1 : Int32))).bind fun v47 => (fL_setRepeatPrice S μ x1 v47 x3).bind fun r48 => (ldS L xs (x4 + (1 : Int32))).bind fun v49 => (fX11_setRepeatPrice S r48.2.1 x2 v49).bind fun r50 => (fX11_thrown S r50.2 x2).bind fun v51 => if v51 = r48.1 then (if r48.1 = 0 then ((ldL S r50.2 x3 (0 : Int32)).bind fun v52 => if (lg_cmp v52 r50.1.toInt64) = 0 then (lL_law_678 (lL_law_23 L xs S n) L xs S r50.2 (cx + r48.2.2) x1 x2 x3 x4) else (some ((0 : Int32), S, r50.2, cx + r48.2.2))) else (lL_law_678 (lL_law_23 L xs S n) L xs S r50.2 (cx + r48.2.2) x1 x2 x3 x4)) else (some ((0 : Int32), S, r50.2, cx + r48.2.2))) else (if (v6 &&& (63 : Int32)).toInt = 8 then ((ldS L xs (x4 + (1 : Int32))).bind fun v53 => (fL_pack S μ x1 v53 x3).bind fun r54 => (ldS L xs (x4 + (1 : Int32))).bind fun v55 => (fX11_pack S r54.2.1 x2 v55).bind fun r56 => (fX11_thrown S r56.2 x2).bind fun v57 => if v57 = r54.1 then (if r54.1 = 0 then ((ldL S r56.2 x3 (0 : Int32)).bind fun v58 => if (lg_cmp v58 r56.1.toInt64) = 0 then (lL_law_734 (lL_law_23 L xs S n) L xs S r56.2 (cx + r54.2.2) x1 x2 x3 x4) else (some ((0 : Int32), S, r56.2, cx + r54.2.2))) else (lL_law_734 (lL_law_23 L xs S n) L xs S r56.2 (cx + r54.2.2) x1 x2 x3 x4)) else (some ((0 : Int32), S, r56.2, cx + r54.2.2))) else (if (v6 &&& (63 : Int32)).toInt = 9 then ((fL_unpack S μ x1 x3).bind fun r59 => (fX11_unpack S r59.2.1 x2).bind fun r60 => (fX11_thrown S r60.2 x2).bind fun v61 => if v61 = r59.1 then (if r59.1 = 0 then ((ldL S r60.2 x3 (0 : Int32)).bind fun v62 => if (lg_cmp v62 r60.1.toInt64) = 0 then (lL_law_778 (lL_law_23 L xs S n) L xs S r60.2 (cx + r59.2.2) x1 x2 x3 x4) else (some ((0 : Int32), S, r60.2, cx + r59.2.2))) else (lL_law_778 (lL_law_23 L xs S n) L xs S r60.2 (cx + r59.2.2) x1 x2 x3 x4)) else (some ((0 : Int32), S, r60.2, cx + r59.2.2))) else (if (v6 &&& (63 : Int32)).toInt = 10 then ((ldS L xs (x4 + (1 : Int32))).bind fun v63 => (fL_addToken S μ x1 v63 x3).bind fun r64 => (ldS L xs (x4 + (1 : Int32))).bind fun v65 => (fX11_addToken S r64.2.1 x2 v65).bind fun r66 => (fX11_thrown S r66.2 x2).bind fun v67 => if v67 = r64.1 then (if r64.1 = 0 then ((ldL S r66.2 x3 (0 : Int32)).bind fun v68 => if (lg_cmp v68 r66.1.toInt64) = 0 then (lL_law_834 (lL_law_23 L xs S n) L xs S r66.2 (cx + r64.2.2) x1 x2 x3 x4) else (some ((0 : Int32), S, r66.2, cx + r64.2.2))) else (lL_law_834 (lL_law_23 L xs S n) L xs S r66.2 (cx + r64.2.2) x1 x2 x3 x4)) else (some ((0 : Int32), S, r66.2, cx + r64.2.2))) else (if (v6 &&& (63 : Int32)).toInt = 11 then ((ldS L xs (x4 + (1 : Int32))).bind fun v69 => (ldS L xs (x4 + (2 : Int32))).bind fun v70 => (fL_addRepeat S μ x1 v69 v70 x3).bind fun r71 => (ldS L xs (x4 + (1 : Int32))).bind fun v72 => (ldS L xs (x4 + (2 : Int32))).bind fun v73 => (fX11_addRepeat S r71.2.1 x2 v72 v73).bind fun r74 => (fX11_thrown S r74.2 x2).bind fun v75 => if v75 = r71.1 then (if r71.1 = 0 then ((ldL S r74.2 x3 (0 : Int32)).bind fun v76 => if (lg_cmp v76 r74.1.toInt64) = 0 then (lL_law_902 (lL_law_23 L xs S n) L xs S r74.2 (cx + r71.2.2) x1 x2 x3 x4) else (some ((0 : Int32), S, r74.2, cx + r71.2.2))) else (lL_law_902 (lL_law_23 L xs S n) L xs S r74.2 (cx + r71.2.2) x1 x2 x3 x4)) else (some ((0 : Int32), S, r74.2, cx + r71.2.2))) else (if (v6 &&& (63 : Int32)).toInt = 12 then ((fL_takeLast S μ x1 x3).bind fun r77 => (fX11_takeLast S r77.2.1 x2).bind fun r78 => (fX11_thrown S r78.2 x2).bind fun v79 => if v79 = r77.1 then (if r77.1 = 0 then ((ldL S r78.2 x3 (0 : Int32)).bind fun v80 => if (lg_cmp v80 r78.1.toInt64) = 0 then (lL_law_946 (lL_law_23 L xs S n) L xs S r78.2 (cx + r77.2.2) x1 x2 x3 x4) else (some ((0 : Int32), S, r78.2, cx + r77.2.2))) else (lL_law_946 (lL_law_23 L xs S n) L xs S r78.2 (cx + r77.2.2) x1 x2 x3 x4)) else (some ((0 : Int32), S, r78.2, cx + r77.2.2))) else (if (v6 &&& (63 : Int32)).toInt = 13 then ((fX10_emptySack S μ x1).bind fun r81 => (fX11_emptySack S r81.2 x2).bind fun r82 => if r81.1 = r82.1 then (lL_law_2293 (lL_law_23 L xs S n) L xs S r82.2 cx x1 x2 x3 x4) else (some ((0 : Int32), S, r82.2, cx))) else (if (v6 &&& (63 : Int32)).toInt = 14 then ((ldS L xs (x4 + (1 : Int32))).bind fun v83 => (fL_append S μ x1 v83 x3).bind fun r84 => (ldS L xs (x4 + (1 : Int32))).bind fun v85 => (fX11_append S r84.2.1 x2 v85).bind fun r86 => (fX11_thrown S r86.2 x2).bind fun v87 => if v87 = r84.1 then (if r84.1 = 0 then ((ldL S r86.2 x3 (0 : Int32)).bind fun v88 => if (lg_cmp v88 r86.1.toInt64) = 0 then (lL_law_1015 (lL_law_23 L xs S n) L xs S r86.2 (cx + r84.2.2) x1 x2 x3 x4) else (some ((0 : Int32), S, r86.2, cx + r84.2.2))) else (lL_law_1015 (lL_law_23 L xs S n) L xs S r86.2 (cx + r84.2.2) x1 x2 x3 x4)) else (some ((0 : Int32), S, r86.2, cx + r84.2.2))) else (if (v6 &&& (63 : Int32)).toInt = 15 then ((fX10_clearBuffer S μ x1).bind fun r89 => (fX11_clearBuffer S r89.2 x2).bind fun r90 => if r89.1 = r90.1 then (lL_law_2293 (lL_law_23 L xs S n) L xs S r90.2 cx x1 x2 x3 x4) else (some ((0 : Int32), S, r90.2, cx))) else (if (v6 &&& (63 : Int32)).toInt = 16 then ((fX10_firstError S μ x1).bind fun v91 => (fX11_firstError S μ x2).bind fun r92 => if v91 = r92.1 then (lL_law_2293 (lL_law_23 L xs S n) L xs S r92.2 cx x1 x2 x3 x4) else (some ((0 : Int32), S, r92.2, cx))) else (if (v6 &&& (63 : Int32)).toInt = 17 then ((fL_work S μ x1 x3).bind fun r93 => (fX11_work S r93.2.1 x2).bind fun r94 => (fX11_thrown S r94.2 x2).bind fun v95 => if v95 = r93.1 then (if r93.1 = 0 then ((ldL S r94.2 x3 (0 : Int32)).bind fun v96 => if (lg_cmp v96 r94.1.toInt64) = 0 then (lL_law_1085 (lL_law_23 L xs S n) L xs S r94.2 (cx + r93.2.2) x1 x2 x3 x4) else (some ((0 : Int32), S, r94.2, cx + r93.2.2))) else (lL_law_1085 (lL_law_23 L xs S n) L xs S r94.2 (cx + r93.2.2) x1 x2 x3 x4)) else (some ((0 : Int32), S, r94.2, cx + r93.2.2))) else (if (v6 &&& (63 : Int32)).toInt = 18 then ((fX10_hasStopped S μ x1).bind fun v97 => (fX11_hasStopped S μ x2).bind fun r98 => if v97 = r98.1 then (lL_law_2293 (lL_law_23 L xs S n) L xs S r98.2 cx x1 x2 x3 x4) else (some ((0 : Int32), S, r98.2, cx))) else (if (v6 &&& (63 : Int32)).toInt = 19 then ((fL_stoppedPart S μ x1 x3).bind fun r99 => (fX11_stoppedPart S r99.2.1 x2).bind fun r100 => (fX11_thrown S r100.2 x2).bind fun v101 => if v101 = r99.1 then (if r99.1 = 0 then ((ldL S r100.2 x3 (0 : Int32)).bind fun v102 => if (lg_cmp v102 r100.1.toInt64) = 0 then (lL_law_1142 (lL_law_23 L xs S n) L xs S r100.2 (cx + r99.2.2) x1 x2 x3 x4) else (some ((0 : Int32), S, r100.2, cx + r99.2.2))) else (lL_law_1142 (lL_law_23 L xs S n) L xs S r100.2 (cx + r99.2.2) x1 x2 x3 x4)) else (some ((0 : Int32), S, r100.2, cx + r99.2.2))) else (if (v6 &&& (63 : Int32)).toInt = 20 then ((fL_whyStopped S μ x1 x3).bind fun r103 => (fX11_whyStopped S r103.2.1 x2).bind fun r104 => (fX11_thrown S r104.2 x2).bind fun v105 => if v105 = r103.1 then (if r103.1 = 0 then ((ldL S r104.2 x3 (0 : Int32)).bind fun v106 => if (lg_cmp v106 r104.1.toInt64) = 0 then (lL_law_1186 (lL_law_23 L xs S n) L xs S r104.2 (cx + r103.2.2) x1 x2 x3 x4) else (some ((0 : Int32), S, r104.2, cx + r103.2.2))) else (lL_law_1186 (lL_law_23 L xs S n) L xs S r104.2 (cx + r103.2.2) x1 x2 x3 x4)) else (some ((0 : Int32), S, r104.2, cx + r103.2.2))) else (if (v6 &&& (63 : Int32)).toInt = 21 then ((fL_undo S μ x1 x3).bind fun r107 => (fX11_undo S r107.2.1 x2).bind fun r108 => (fX11_thrown S r108.2 x2).bind fun v109 => if v109 = r107.1 then (if r107.1 = 0 then ((ldL S r108.2 x3 (0 : Int32)).bind fun v110 => if (lg_cmp v110 r108.1.toInt64) = 0 then (lL_law_1230 (lL_law_23 L xs S n) L xs S r108.2 (cx + r107.2.2) x1 x2 x3 x4) else (some ((0 : Int32), S, r108.2, cx + r107.2.2))) else (lL_law_1230 (lL_law_23 L xs S n) L xs S r108.2 (cx + r107.2.2) x1 x2 x3 x4)) else (some ((0 : Int32), S, r108.2, cx + r107.2.2))) else (if (v6 &&& (63 : Int32)).toInt = 22 then ((fX10_keep S μ x1).bind fun r111 => (fX11_keep S r111.2 x2).bind fun r112 => if r111.1 = r112.1 then (lL_law_2293 (lL_law_23 L xs S n) L xs S r112.2 cx x1 x2 x3 x4) else (some ((0 : Int32), S, r112.2, cx))) else (if (v6 &&& (63 : Int32)).toInt = 23 then ((fL_restore S μ x1 x3).bind fun r113 => (fX11_restore S r113.2.1 x2).bind fun r114 => (fX11_thrown S r114.2 x2).bind fun v115 => if v115 = r113.1 then (if r113.1 = 0 then ((ldL S r114.2 x3 (0 : Int32)).bind fun v116 => if (lg_cmp v116 r114.1.toInt64) = 0 then (lL_law_1287 (lL_law_23 L xs S n) L xs S r114.2 (cx + r113.2.2) x1 x2 x3 x4) else (some ((0 : Int32), S, r114.2, cx + r113.2.2))) else (lL_law_1287 (lL_law_23 L xs S n) L xs S r114.2 (cx + r113.2.2) x1 x2 x3 x4)) else (some ((0 : Int32), S, r114.2, cx + r113.2.2))) else (if (v6 &&& (63 : Int32)).toInt = 24 then ((fX10_savedStates S μ x1).bind fun v117 => (fX11_savedStates S μ x2).bind fun r118 => if v117 = r118.1 then (lL_law_2293 (lL_law_23 L xs S n) L xs S r118.2 cx x1 x2 x3 x4) else (some ((0 : Int32), S, r118.2, cx))) else (if (v6 &&& (63 : Int32)).toInt = 25 then ((fX10_textLength S μ x1).bind fun v119 => (fX11_textLength S μ x2).bind fun r120 => if v119 = r120.1 then (lL_law_2293 (lL_law_23 L xs S n) L xs S r120.2 cx x1 x2 x3 x4) else (some ((0 : Int32), S, r120.2, cx))) else (if (v6 &&& (63 : Int32)).toInt = 26 then ((ldS L xs (x4 + (1 : Int32))).bind fun v121 => (fL_letterAt S μ x1 v121 x3).bind fun r122 => (ldS L xs (x4 + (1 : Int32))).bind fun v123 => (fX11_letterAt S r122.2.1 x2 v123).bind fun r124 => (fX11_thrown S r124.2 x2).bind fun v125 => if v125 = r122.1 then (if r122.1 = 0 then ((ldL S r124.2 x3 (0 : Int32)).bind fun v126 => if (lg_cmp v126 r124.1.toInt64) = 0 then (lL_law_1369 (lL_law_23 L xs S n) L xs S r124.2 (cx + r122.2.2) x1 x2 x3 x4) else (some ((0 : Int32), S, r124.2, cx + r122.2.2))) else (lL_law_1369 (lL_law_23 L xs S n) L xs S r124.2 (cx + r122.2.2) x1 x2 x3 x4)) else (some ((0 : Int32), S, r124.2, cx + r122.2.2))) else (if (v6 &&& (63 : Int32)).toInt = 27 then ((fX10_window S μ x1).bind fun v127 => (fX11_window S μ x2).bind fun r128 => if v127 = r128.1 then (lL_law_2293 (lL_law_23 L xs S n) L xs S r128.2 cx x1 x2 x3 x4) else (some ((0 : Int32), S, r128.2, cx))) else (if (v6 &&& (63 : Int32)).toInt = 28 then ((fX10_shortest S μ x1).bind fun v129 => (fX11_shortest S μ x2).bind fun r130 => if v129 = r130.1 then (lL_law_2293 (lL_law_23 L xs S n) L xs S r130.2 cx x1 x2 x3 x4) else (some ((0 : Int32), S, r130.2, cx))) else (if (v6 &&& (63 : Int32)).toInt = 29 then ((fX10_longest S μ x1).bind fun v131 => (fX11_longest S μ x2).bind fun r132 => if v131 = r132.1 then (lL_law_2293 (lL_law_23 L xs S n) L xs S r132.2 cx x1 x2 x3 x4) else (some ((0 : Int32), S, r132.2, cx))) else (if (v6 &&& (63 : Int32)).toInt = 30 then ((fX10_tokens S μ x1).bind fun v133 => (fX11_tokens S μ x2).bind fun r134 => if v133 = r134.1 then (lL_law_2293 (lL_law_23 L xs S n) L xs S r134.2 cx x1 x2 x3 x4) else (some ((0 : Int32), S, r134.2, cx))) else (if (v6 &&& (63 : Int32)).toInt = 31 then ((ldS L xs (x4 + (1 : Int32))).bind fun v135 => (fL_isRepeat S μ x1 v135 x3).bind fun r136 => (ldS L xs (x4 + (1 : Int32))).bind fun v137 => (fX11_isRepeat S r136.2.1 x2 v137).bind fun r138 => (fX11_thrown S r138.2 x2).bind fun v139 => if v139 = r136.1 then (if r136.1 = 0 then ((ldL S r138.2 x3 (0 : Int32)).bind fun v140 => if r138.1 = 0 then (lL_law_1478 (lL_law_23 L xs S n) L xs S r138.2 (cx + r136.2.2) x1 x2 x3 x4 (0 : Int64) v140) else (lL_law_1478 (lL_law_23 L xs S n) L xs S r138.2 (cx + r136.2.2) x1 x2 x3 x4 (1 : Int64) v140)) else (lL_law_1484 (lL_law_23 L xs S n) L xs S r138.2 (cx + r136.2.2) x1 x2 x3 x4)) else (some ((0 : Int32), S, r138.2, cx + r136.2.2))) else (if (v6 &&& (63 : Int32)).toInt = 32 then ((ldS L xs (x4 + (1 : Int32))).bind fun v141 => (fL_letterOf S μ x1 v141 x3).bind fun r142 => (ldS L xs (x4 + (1 : Int32))).bind fun v143 => (fX11_letterOf S r142.2.1 x2 v143).bind fun r144 => (fX11_thrown S r144.2 x2).bind fun v145 => if v145 = r142.1 then (if r142.1 = 0 then ((ldL S r144.2 x3 (0 : Int32)).bind fun v146 => if (lg_cmp v146 r144.1.toInt64) = 0 then (lL_law_1540 (lL_law_23 L xs S n) L xs S r144.2 (cx + r142.2.2) x1 x2 x3 x4) else (some ((0 : Int32), S, r144.2, cx + r142.2.2))) else (lL_law_1540 (lL_law_23 L xs S n) L xs S r144.2 (cx + r142.2.2) x1 x2 x3 x4)) else (some ((0 : Int32), S, r144.2, cx + r142.2.2))) else (if (v6 &&& (63 : Int32)).toInt = 33 then ((ldS L xs (x4 + (1 : Int32))).bind fun v147 => (fL_distanceOf S μ x1 v147 x3).bind fun r148 => (ldS L xs (x4 + (1 : Int32))).bind fun v149 => (fX11_distanceOf S r148.2.1 x2 v149).bind fun r150 => (fX11_thrown S r150.2 x2).bind fun v151 => if v151 = r148.1 then (if r148.1 = 0 then ((ldL S r150.2 x3 (0 : Int32)).bind fun v152 => if (lg_cmp v152 r150.1.toInt64) = 0 then (lL_law_1596 (lL_law_23 L xs S n) L xs S r150.2 (cx + r148.2.2) x1 x2 x3 x4) else (some ((0 : Int32), S, r150.2, cx + r148.2.2))) else (lL_law_1596 (lL_law_23 L xs S n) L xs S r150.2 (cx + r148.2.2) x1 x2 x3 x4)) else (some ((0 : Int32), S, r150.2, cx + r148.2.2))) else (if (v6 &&& (63 : Int32)).toInt = 34 then ((ldS L xs (x4 + (1 : Int32))).bind fun v153 => (fL_lengthOf S μ x1 v153 x3).bind fun r154 => (ldS L xs (x4 + (1 : Int32))).bind fun v155 => (fX11_lengthOf S r154.2.1 x2 v155).bind fun r156 => (fX11_thrown S r156.2 x2).bind fun v157 => if v157 = r154.1 then (if r154.1 = 0 then ((ldL S r156.2 x3 (0 : Int32)).bind fun v158 => if (lg_cmp v158 r156.1.toInt64) = 0 then (lL_law_1652 (lL_law_23 L xs S n) L xs S r156.2 (cx + r154.2.2) x1 x2 x3 x4) else (some ((0 : Int32), S, r156.2, cx + r154.2.2))) else (lL_law_1652 (lL_law_23 L xs S n) L xs S r156.2 (cx + r154.2.2) x1 x2 x3 x4)) else (some ((0 : Int32), S, r156.2, cx + r154.2.2))) else (if (v6 &&& (63 : Int32)).toInt = 35 then ((fX10_sackCost S μ x1).bind fun v159 => (fX11_sackCost S μ x2).bind fun r160 => if v159 = r160.1 then (lL_law_2293 (lL_law_23 L xs S n) L xs S r160.2 cx x1 x2 x3 x4) else (some ((0 : Int32), S, r160.2, cx))) else (if (v6 &&& (63 : Int32)).toInt = 36 then ((fX10_sackLetters S μ x1).bind fun v161 => (fX11_sackLetters S μ x2).bind fun r162 => if v161 = r162.1 then (lL_law_2293 (lL_law_23 L xs S n) L xs S r162.2 cx x1 x2 x3 x4) else (some ((0 : Int32), S, r162.2, cx))) else (if (v6 &&& (63 : Int32)).toInt = 37 then ((fX10_wrongToken S μ x1).bind fun r163 => (fX11_wrongToken S r163.2 x2).bind fun r164 => if r163.1 = r164.1 then (lL_law_2293 (lL_law_23 L xs S n) L xs S r164.2 cx x1 x2 x3 x4) else (some ((0 : Int32), S, r164.2, cx))) else (if (v6 &&& (63 : Int32)).toInt = 38 then ((fX10_wrongReason S μ x1).bind fun r165 => (fX11_wrongReason S r165.2 x2).bind fun r166 => if r165.1 = r166.1 then (lL_law_2293 (lL_law_23 L xs S n) L xs S r166.2 cx x1 x2 x3 x4) else (some ((0 : Int32), S, r166.2, cx))) else (if (v6 &&& (63 : Int32)).toInt = 39 then ((fX10_isForText S μ x1).bind fun r167 => (fX11_isForText S r167.2 x2).bind fun r168 => if r167.1 = r168.1 then (lL_law_2293 (lL_law_23 L xs S n) L xs S r168.2 cx x1 x2 x3 x4) else (some ((0 : Int32), S, r168.2, cx))) else (if (v6 &&& (63 : Int32)).toInt = 40 then ((ldS L xs (x4 + (1 : Int32))).bind fun v169 => (fL_repeatLength S μ x1 v169 x3).bind fun r170 => (ldS L xs (x4 + (1 : Int32))).bind fun v171 => (fX11_repeatLength S r170.2.1 x2 v171).bind fun r172 => (fX11_thrown S r172.2 x2).bind fun v173 => if v173 = r170.1 then (if r170.1 = 0 then ((ldL S r172.2 x3 (0 : Int32)).bind fun v174 => if (lg_cmp v174 r172.1.toInt64) = 0 then (lL_law_1773 (lL_law_23 L xs S n) L xs S r172.2 (cx + r170.2.2) x1 x2 x3 x4) else (some ((0 : Int32), S, r172.2, cx + r170.2.2))) else (lL_law_1773 (lL_law_23 L xs S n) L xs S r172.2 (cx + r170.2.2) x1 x2 x3 x4)) else (some ((0 : Int32), S, r172.2, cx + r170.2.2))) else (if (v6 &&& (63 : Int32)).toInt = 41 then ((ldS L xs (x4 + (1 : Int32))).bind fun v175 => (fL_repeatLengthByPairs S μ x1 v175 x3).bind fun r176 => (ldS L xs (x4 + (1 : Int32))).bind fun v177 => (fX11_repeatLengthByPairs S r176.2.1 x2 v177).bind fun r178 => (fX11_thrown S r178.2 x2).bind fun v179 => if v179 = r176.1 then (if r176.1 = 0 then ((ldL S r178.2 x3 (0 : Int32)).bind fun v180 => if (lg_cmp v180 r178.1.toInt64) = 0 then (lL_law_1829 (lL_law_23 L xs S n) L xs S r178.2 (cx + r176.2.2) x1 x2 x3 x4) else (some ((0 : Int32), S, r178.2, cx + r176.2.2))) else (lL_law_1829 (lL_law_23 L xs S n) L xs S r178.2 (cx + r176.2.2) x1 x2 x3 x4)) else (some ((0 : Int32), S, r178.2, cx + r176.2.2))) else (if (v6 &&& (63 : Int32)).toInt = 42 then ((ldS L xs (x4 + (1 : Int32))).bind fun v181 => (fL_repeatDistance S μ x1 v181 x3).bind fun r182 => (ldS L xs (x4 + (1 : Int32))).bind fun v183 => (fX11_repeatDistance S r182.2.1 x2 v183).bind fun r184 => (fX11_thrown S r184.2 x2).bind fun v185 => if v185 = r182.1 then (if r182.1 = 0 then ((ldL S r184.2 x3 (0 : Int32)).bind fun v186 => if (lg_cmp v186 r184.1.toInt64) = 0 then (lL_law_1885 (lL_law_23 L xs S n) L xs S r184.2 (cx + r182.2.2) x1 x2 x3 x4) else (some ((0 : Int32), S, r184.2, cx + r182.2.2))) else (lL_law_1885 (lL_law_23 L xs S n) L xs S r184.2 (cx + r182.2.2) x1 x2 x3 x4)) else (some ((0 : Int32), S, r184.2, cx + r182.2.2))) else (if (v6 &&& (63 : Int32)).toInt = 43 then ((ldS L xs (x4 + (1 : Int32))).bind fun v187 => (fL_costBy S μ x1 v187 x3).bind fun r188 => (ldS L xs (x4 + (1 : Int32))).bind fun v189 => (fX11_costBy S r188.2.1 x2 v189).bind fun r190 => (fX11_thrown S r190.2 x2).bind fun v191 => if v191 = r188.1 then (if r188.1 = 0 then ((ldL S r190.2 x3 (0 : Int32)).bind fun v192 => if (lg_cmp v192 r190.1.toInt64) = 0 then (lL_law_1941 (lL_law_23 L xs S n) L xs S r190.2 (cx + r188.2.2) x1 x2 x3 x4) else (some ((0 : Int32), S, r190.2, cx + r188.2.2))) else (lL_law_1941 (lL_law_23 L xs S n) L xs S r190.2 (cx + r188.2.2) x1 x2 x3 x4)) else (some ((0 : Int32), S, r190.2, cx + r188.2.2))) else (if (v6 &&& (63 : Int32)).toInt = 44 then ((ldS L xs (x4 + (1 : Int32))).bind fun v193 => (fL_tokensBy S μ x1 v193 x3).bind fun r194 => (ldS L xs (x4 + (1 : Int32))).bind fun v195 => (fX11_tokensBy S r194.2.1 x2 v195).bind fun r196 => (fX11_thrown S r196.2 x2).bind fun v197 => if v197 = r194.1 then (if r194.1 = 0 then ((ldL S r196.2 x3 (0 : Int32)).bind fun v198 => if (lg_cmp v198 r196.1.toInt64) = 0 then (lL_law_1997 (lL_law_23 L xs S n) L xs S r196.2 (cx + r194.2.2) x1 x2 x3 x4) else (some ((0 : Int32), S, r196.2, cx + r194.2.2))) else (lL_law_1997 (lL_law_23 L xs S n) L xs S r196.2 (cx + r194.2.2) x1 x2 x3 x4)) else (some ((0 : Int32), S, r196.2, cx + r194.2.2))) else (if (v6 &&& (63 : Int32)).toInt = 45 then ((fX10_leastCost S μ x1).bind fun r199 => (fX11_leastCost S r199.2 x2).bind fun r200 => if r199.1 = r200.1 then (lL_law_2293 (lL_law_23 L xs S n) L xs S r200.2 cx x1 x2 x3 x4) else (some ((0 : Int32), S, r200.2, cx))) else (if (v6 &&& (63 : Int32)).toInt = 46 then ((fX10_leastCostFromBeginning S μ x1).bind fun r201 => (fX11_leastCostFromBeginning S r201.2 x2).bind fun r202 => if r201.1 = r202.1 then (lL_law_2293 (lL_law_23 L xs S n) L xs S r202.2 cx x1 x2 x3 x4) else (some ((0 : Int32), S, r202.2, cx))) else (if (v6 &&& (63 : Int32)).toInt = 47 then ((ldS L xs (x4 + (1 : Int32))).bind fun v203 => (fL_leastCostWith S μ x1 v203 x3).bind fun r204 => (ldS L xs (x4 + (1 : Int32))).bind fun v205 => (fX11_leastCostWith S r204.2.1 x2 v205).bind fun r206 => (fX11_thrown S r206.2 x2).bind fun v207 => if v207 = r204.1 then (if r204.1 = 0 then ((ldL S r206.2 x3 (0 : Int32)).bind fun v208 => if (lg_cmp v208 r206.1.toInt64) = 0 then (lL_law_2079 (lL_law_23 L xs S n) L xs S r206.2 (cx + r204.2.2) x1 x2 x3 x4) else (some ((0 : Int32), S, r206.2, cx + r204.2.2))) else (lL_law_2079 (lL_law_23 L xs S n) L xs S r206.2 (cx + r204.2.2) x1 x2 x3 x4)) else (some ((0 : Int32), S, r206.2, cx + r204.2.2))) else (if (v6 &&& (63 : Int32)).toInt = 48 then ((ldS L xs (x4 + (1 : Int32))).bind fun v209 => (fL_pairs S μ x1 v209 x3).bind fun r210 => (ldS L xs (x4 + (1 : Int32))).bind fun v211 => (fX11_pairs S r210.2.1 x2 v211).bind fun r212 => (fX11_thrown S r212.2 x2).bind fun v213 => if v213 = r210.1 then (if r210.1 = 0 then ((ldL S r212.2 x3 (0 : Int32)).bind fun v214 => if (lg_cmp v214 r212.1.toInt64) = 0 then (lL_law_2135 (lL_law_23 L xs S n) L xs S r212.2 (cx + r210.2.2) x1 x2 x3 x4) else (some ((0 : Int32), S, r212.2, cx + r210.2.2))) else (lL_law_2135 (lL_law_23 L xs S n) L xs S r212.2 (cx + r210.2.2) x1 x2 x3 x4)) else (some ((0 : Int32), S, r212.2, cx + r210.2.2))) else (if (v6 &&& (63 : Int32)).toInt = 49 then ((ldS L xs (x4 + (1 : Int32))).bind fun v215 => (fL_lastPlaceOf S μ x1 v215 x3).bind fun r216 => (ldS L xs (x4 + (1 : Int32))).bind fun v217 => (fX11_lastPlaceOf S r216.2.1 x2 v217).bind fun r218 => (fX11_thrown S r218.2 x2).bind fun v219 => if v219 = r216.1 then (if r216.1 = 0 then ((ldL S r218.2 x3 (0 : Int32)).bind fun v220 => if (lg_cmp v220 r218.1.toInt64) = 0 then (lL_law_2191 (lL_law_23 L xs S n) L xs S r218.2 (cx + r216.2.2) x1 x2 x3 x4) else (some ((0 : Int32), S, r218.2, cx + r216.2.2))) else (lL_law_2191 (lL_law_23 L xs S n) L xs S r218.2 (cx + r216.2.2) x1 x2 x3 x4)) else (some ((0 : Int32), S, r218.2, cx + r216.2.2))) else (if (v6 &&& (63 : Int32)).toInt = 50 then ((fL_mostFrequent S μ x1 x3).bind fun r221 => (fX11_mostFrequent S r221.2.1 x2).bind fun r222 => (fX11_thrown S r222.2 x2).bind fun v223 => if v223 = r221.1 then (if r221.1 = 0 then ((ldL S r222.2 x3 (0 : Int32)).bind fun v224 => if (lg_cmp v224 r222.1.toInt64) = 0 then (lL_law_2235 (lL_law_23 L xs S n) L xs S r222.2 (cx + r221.2.2) x1 x2 x3 x4) else (some ((0 : Int32), S, r222.2, cx + r221.2.2))) else (lL_law_2235 (lL_law_23 L xs S n) L xs S r222.2 (cx + r221.2.2) x1 x2 x3 x4)) else (some ((0 : Int32), S, r222.2, cx + r221.2.2))) else (if (v6 &&& (63 : Int32)).toInt = 51 then ((fX10_packedShare S μ x1).bind fun v225 => (fX11_packedShare S μ x2).bind fun r226 => if (Op.cmpValue (FP.dcmp v225 r226.1) .l) = 0 then (lL_law_2276 (lL_law_23 L xs S n) L xs S r226.2 cx x1 x2 x3 x4) else (if (Op.cmpValue (FP.dcmp v225 v225) .l) = 0 then (some ((0 : Int32), S, r226.2, cx)) else (if (Op.cmpValue (FP.dcmp r226.1 r226.1) .l) = 0 then (some ((0 : Int32), S, r226.2, cx)) else (lL_law_2276 (lL_law_23 L xs S n) L xs S r226.2 cx x1 x2 x3 x4)))) else ((fX10_digest S μ x1).bind fun r227 => (fX11_digest S r227.2 x2).bind fun r228 => if (lg_cmp r227.1 r228.1) = 0 then (lL_law_2293 (lL_law_23 L xs S n) L xs S r228.2 cx x1 x2 x3 x4) else (some ((0 : Int32), S, r228.2, cx))))))))))))))))))))))))))))))))))))))))))))))))))))))))
def fL_law (L : Nat) (xs : Nat → Int32) (S : mSh) (μ : mMm) (cx : Nat) : Option (Int32 × mSh × mMm × Nat) := (aN S μ [some (.ref 1000), none, none, none, none, none, none, none, none] [] 10 0 9).bind fun r1 => if mvk r1.1 [some (.ref 1000), none, none, none, none, none, none, none, none] [.ref (mN S)] = true then ((fX10_init r1.1 r1.2 (mN S)).bind fun r2 => (aN r2.1 r2.2 [some (.ref 1000), some (.ref (mN S)), none, none, none, none, none, none, none] [] 11 0 20).bind fun r3 => if mvk r3.1 [some (.ref 1000), some (.ref (mN S)), none, none, none, none, none, none, none] [.ref (mN r2.1)] = true then ((fX11_init r3.1 r3.2 (mN r2.1)).bind fun r4 => (aN r4.1 r4.2 [some (.ref 1000), some (.ref (mN S)), some (.ref (mN r2.1)), none, none, none, none, none, none] [] 13 1 1).bind fun r5 => lL_law_23 L xs r5.1 FU r5.2 cx (mN S) (mN r2.1) (mN r4.1) (0 : Int32)) else none) else none
abbrev ML_law (b L : Nat) (xs : Nat → Int32) : mM := ((yL_law, cL_law, 9, (some .boolean)), (9, 209), (true, false), RL, eL b L xs)
set_option maxRecDepth 100000 in
set_option maxHeartbeats 40000000 in
theorem xL_law_2293 {n0 c0 s0 : Nat} {b L : Nat} {xs : Nat → Int32} {S : mSh} {k23 : mMm → Nat → Nat → Nat → Nat → Int32 → Option (Int32 × mSh × mMm × Nat)} (hk23 : ∀ (μ : mMm) (cx : Nat) (x1 : Nat) (x2 : Nat) (x3 : Nat) (x4 : Int32) (d5 : Option Value) (d6 : Option Value) (d7 : Option Value) (d8 : Option Value), mX (ML_law b L xs) n0 c0 s0 23 [some (.ref 1000), some (.ref x1), some (.ref x2), some (.ref x3), some (.int x4), d5, d6, d7, d8] [] (S, μ, cx, 6 * cx) iAI (k23 μ cx x1 x2 x3 x4)) (μ : mMm) (cx : Nat) (x1 : Nat) (x2 : Nat) (x3 : Nat) (x4 : Int32) (d5 : Option Value) (d6 : Option Value) (d7 : Option Value) (d8 : Option Value) : mX (ML_law b L xs) n0 c0 s0 2293 [some (.ref 1000), some (.ref x1), some (.ref x2), some (.ref x3), some (.int x4), d5, d6, d7, d8] [] (S, μ, cx, 6 * cx) iAI (lL_law_2293 k23 L xs S μ cx x1 x2 x3 x4) := by
  unfold lL_law_2293
  refine x_iinc (pc := 2293) (v := x4 + (3 : Int32)) dL_law_2293 rfl (by rw [show Int32.ofInt (3) = (3 : Int32) from by decide]) (Nat.le_of_ble_eq_true rfl) (l' := [some (.ref 1000), some (.ref x1), some (.ref x2), some (.ref x3), some (.int (x4 + (3 : Int32))), d5, d6, d7, d8]) rfl ?_
  refine x_goto (pc := 2296) (tgt := 23) dL_law_2296 (by decide) ?_
  exact hk23 μ cx x1 x2 x3 (x4 + (3 : Int32)) _ _ _ _
set_option maxRecDepth 100000 in
set_option maxHeartbeats 40000000 in
theorem xL_law_317 {n0 c0 s0 : Nat} {b L : Nat} {xs : Nat → Int32} {S : mSh} {k23 : mMm → Nat → Nat → Nat → Nat → Int32 → Option (Int32 × mSh × mMm × Nat)} (hk23 : ∀ (μ : mMm) (cx : Nat) (x1 : Nat) (x2 : Nat) (x3 : Nat) (x4 : Int32) (d5 : Option Value) (d6 : Option Value) (d7 : Option Value) (d8 : Option Value), mX (ML_law b L xs) n0 c0 s0 23 [some (.ref 1000), some (.ref x1), some (.ref x2), some (.ref x3), some (.int x4), d5, d6, d7, d8] [] (S, μ, cx, 6 * cx) iAI (k23 μ cx x1 x2 x3 x4)) (μ : mMm) (cx : Nat) (x1 : Nat) (x2 : Nat) (x3 : Nat) (x4 : Int32) (d5 : Option Value) (d6 : Option Value) (d7 : Option Value) (d8 : Option Value) : mX (ML_law b L xs) n0 c0 s0 317 [some (.ref 1000), some (.ref x1), some (.ref x2), some (.ref x3), some (.int x4), d5, d6, d7, d8] [] (S, μ, cx, 6 * cx) iAI (lL_law_317 k23 L xs S μ cx x1 x2 x3 x4) := by
  unfold lL_law_317
  refine x_goto (pc := 317) (tgt := 2293) dL_law_317 (by decide) ?_
  exact xL_law_2293 (k23 := k23) hk23 μ cx x1 x2 x3 x4 _ _ _ _
set_option maxRecDepth 100000 in
set_option maxHeartbeats 40000000 in
theorem xL_law_385 {n0 c0 s0 : Nat} {b L : Nat} {xs : Nat → Int32} {S : mSh} {k23 : mMm → Nat → Nat → Nat → Nat → Int32 → Option (Int32 × mSh × mMm × Nat)} (hk23 : ∀ (μ : mMm) (cx : Nat) (x1 : Nat) (x2 : Nat) (x3 : Nat) (x4 : Int32) (d5 : Option Value) (d6 : Option Value) (d7 : Option Value) (d8 : Option Value), mX (ML_law b L xs) n0 c0 s0 23 [some (.ref 1000), some (.ref x1), some (.ref x2), some (.ref x3), some (.int x4), d5, d6, d7, d8] [] (S, μ, cx, 6 * cx) iAI (k23 μ cx x1 x2 x3 x4)) (μ : mMm) (cx : Nat) (x1 : Nat) (x2 : Nat) (x3 : Nat) (x4 : Int32) (d5 : Option Value) (d6 : Option Value) (d7 : Option Value) (d8 : Option Value) : mX (ML_law b L xs) n0 c0 s0 385 [some (.ref 1000), some (.ref x1), some (.ref x2), some (.ref x3), some (.int x4), d5, d6, d7, d8] [] (S, μ, cx, 6 * cx) iAI (lL_law_385 k23 L xs S μ cx x1 x2 x3 x4) := by
  unfold lL_law_385
  refine x_goto (pc := 385) (tgt := 2293) dL_law_385 (by decide) ?_
  exact xL_law_2293 (k23 := k23) hk23 μ cx x1 x2 x3 x4 _ _ _ _
set_option maxRecDepth 100000 in
set_option maxHeartbeats 40000000 in
theorem xL_law_454 {n0 c0 s0 : Nat} {b L : Nat} {xs : Nat → Int32} {S : mSh} {k23 : mMm → Nat → Nat → Nat → Nat → Int32 → Option (Int32 × mSh × mMm × Nat)} (hk23 : ∀ (μ : mMm) (cx : Nat) (x1 : Nat) (x2 : Nat) (x3 : Nat) (x4 : Int32) (d5 : Option Value) (d6 : Option Value) (d7 : Option Value) (d8 : Option Value), mX (ML_law b L xs) n0 c0 s0 23 [some (.ref 1000), some (.ref x1), some (.ref x2), some (.ref x3), some (.int x4), d5, d6, d7, d8] [] (S, μ, cx, 6 * cx) iAI (k23 μ cx x1 x2 x3 x4)) (μ : mMm) (cx : Nat) (x1 : Nat) (x2 : Nat) (x3 : Nat) (x4 : Int32) (d5 : Option Value) (d6 : Option Value) (d7 : Option Value) (d8 : Option Value) : mX (ML_law b L xs) n0 c0 s0 454 [some (.ref 1000), some (.ref x1), some (.ref x2), some (.ref x3), some (.int x4), d5, d6, d7, d8] [] (S, μ, cx, 6 * cx) iAI (lL_law_454 k23 L xs S μ cx x1 x2 x3 x4) := by
  unfold lL_law_454
  refine x_goto (pc := 454) (tgt := 2293) dL_law_454 (by decide) ?_
  exact xL_law_2293 (k23 := k23) hk23 μ cx x1 x2 x3 x4 _ _ _ _
set_option maxRecDepth 100000 in
set_option maxHeartbeats 40000000 in
theorem xL_law_510 {n0 c0 s0 : Nat} {b L : Nat} {xs : Nat → Int32} {S : mSh} {k23 : mMm → Nat → Nat → Nat → Nat → Int32 → Option (Int32 × mSh × mMm × Nat)} (hk23 : ∀ (μ : mMm) (cx : Nat) (x1 : Nat) (x2 : Nat) (x3 : Nat) (x4 : Int32) (d5 : Option Value) (d6 : Option Value) (d7 : Option Value) (d8 : Option Value), mX (ML_law b L xs) n0 c0 s0 23 [some (.ref 1000), some (.ref x1), some (.ref x2), some (.ref x3), some (.int x4), d5, d6, d7, d8] [] (S, μ, cx, 6 * cx) iAI (k23 μ cx x1 x2 x3 x4)) (μ : mMm) (cx : Nat) (x1 : Nat) (x2 : Nat) (x3 : Nat) (x4 : Int32) (d5 : Option Value) (d6 : Option Value) (d7 : Option Value) (d8 : Option Value) : mX (ML_law b L xs) n0 c0 s0 510 [some (.ref 1000), some (.ref x1), some (.ref x2), some (.ref x3), some (.int x4), d5, d6, d7, d8] [] (S, μ, cx, 6 * cx) iAI (lL_law_510 k23 L xs S μ cx x1 x2 x3 x4) := by
  unfold lL_law_510
  refine x_goto (pc := 510) (tgt := 2293) dL_law_510 (by decide) ?_
  exact xL_law_2293 (k23 := k23) hk23 μ cx x1 x2 x3 x4 _ _ _ _
set_option maxRecDepth 100000 in
set_option maxHeartbeats 40000000 in
theorem xL_law_566 {n0 c0 s0 : Nat} {b L : Nat} {xs : Nat → Int32} {S : mSh} {k23 : mMm → Nat → Nat → Nat → Nat → Int32 → Option (Int32 × mSh × mMm × Nat)} (hk23 : ∀ (μ : mMm) (cx : Nat) (x1 : Nat) (x2 : Nat) (x3 : Nat) (x4 : Int32) (d5 : Option Value) (d6 : Option Value) (d7 : Option Value) (d8 : Option Value), mX (ML_law b L xs) n0 c0 s0 23 [some (.ref 1000), some (.ref x1), some (.ref x2), some (.ref x3), some (.int x4), d5, d6, d7, d8] [] (S, μ, cx, 6 * cx) iAI (k23 μ cx x1 x2 x3 x4)) (μ : mMm) (cx : Nat) (x1 : Nat) (x2 : Nat) (x3 : Nat) (x4 : Int32) (d5 : Option Value) (d6 : Option Value) (d7 : Option Value) (d8 : Option Value) : mX (ML_law b L xs) n0 c0 s0 566 [some (.ref 1000), some (.ref x1), some (.ref x2), some (.ref x3), some (.int x4), d5, d6, d7, d8] [] (S, μ, cx, 6 * cx) iAI (lL_law_566 k23 L xs S μ cx x1 x2 x3 x4) := by
  unfold lL_law_566
  refine x_goto (pc := 566) (tgt := 2293) dL_law_566 (by decide) ?_
  exact xL_law_2293 (k23 := k23) hk23 μ cx x1 x2 x3 x4 _ _ _ _
set_option maxRecDepth 100000 in
set_option maxHeartbeats 40000000 in
theorem xL_law_622 {n0 c0 s0 : Nat} {b L : Nat} {xs : Nat → Int32} {S : mSh} {k23 : mMm → Nat → Nat → Nat → Nat → Int32 → Option (Int32 × mSh × mMm × Nat)} (hk23 : ∀ (μ : mMm) (cx : Nat) (x1 : Nat) (x2 : Nat) (x3 : Nat) (x4 : Int32) (d5 : Option Value) (d6 : Option Value) (d7 : Option Value) (d8 : Option Value), mX (ML_law b L xs) n0 c0 s0 23 [some (.ref 1000), some (.ref x1), some (.ref x2), some (.ref x3), some (.int x4), d5, d6, d7, d8] [] (S, μ, cx, 6 * cx) iAI (k23 μ cx x1 x2 x3 x4)) (μ : mMm) (cx : Nat) (x1 : Nat) (x2 : Nat) (x3 : Nat) (x4 : Int32) (d5 : Option Value) (d6 : Option Value) (d7 : Option Value) (d8 : Option Value) : mX (ML_law b L xs) n0 c0 s0 622 [some (.ref 1000), some (.ref x1), some (.ref x2), some (.ref x3), some (.int x4), d5, d6, d7, d8] [] (S, μ, cx, 6 * cx) iAI (lL_law_622 k23 L xs S μ cx x1 x2 x3 x4) := by
  unfold lL_law_622
  refine x_goto (pc := 622) (tgt := 2293) dL_law_622 (by decide) ?_
  exact xL_law_2293 (k23 := k23) hk23 μ cx x1 x2 x3 x4 _ _ _ _
set_option maxRecDepth 100000 in
set_option maxHeartbeats 40000000 in
theorem xL_law_678 {n0 c0 s0 : Nat} {b L : Nat} {xs : Nat → Int32} {S : mSh} {k23 : mMm → Nat → Nat → Nat → Nat → Int32 → Option (Int32 × mSh × mMm × Nat)} (hk23 : ∀ (μ : mMm) (cx : Nat) (x1 : Nat) (x2 : Nat) (x3 : Nat) (x4 : Int32) (d5 : Option Value) (d6 : Option Value) (d7 : Option Value) (d8 : Option Value), mX (ML_law b L xs) n0 c0 s0 23 [some (.ref 1000), some (.ref x1), some (.ref x2), some (.ref x3), some (.int x4), d5, d6, d7, d8] [] (S, μ, cx, 6 * cx) iAI (k23 μ cx x1 x2 x3 x4)) (μ : mMm) (cx : Nat) (x1 : Nat) (x2 : Nat) (x3 : Nat) (x4 : Int32) (d5 : Option Value) (d6 : Option Value) (d7 : Option Value) (d8 : Option Value) : mX (ML_law b L xs) n0 c0 s0 678 [some (.ref 1000), some (.ref x1), some (.ref x2), some (.ref x3), some (.int x4), d5, d6, d7, d8] [] (S, μ, cx, 6 * cx) iAI (lL_law_678 k23 L xs S μ cx x1 x2 x3 x4) := by
  unfold lL_law_678
  refine x_goto (pc := 678) (tgt := 2293) dL_law_678 (by decide) ?_
  exact xL_law_2293 (k23 := k23) hk23 μ cx x1 x2 x3 x4 _ _ _ _
set_option maxRecDepth 100000 in
set_option maxHeartbeats 40000000 in
theorem xL_law_734 {n0 c0 s0 : Nat} {b L : Nat} {xs : Nat → Int32} {S : mSh} {k23 : mMm → Nat → Nat → Nat → Nat → Int32 → Option (Int32 × mSh × mMm × Nat)} (hk23 : ∀ (μ : mMm) (cx : Nat) (x1 : Nat) (x2 : Nat) (x3 : Nat) (x4 : Int32) (d5 : Option Value) (d6 : Option Value) (d7 : Option Value) (d8 : Option Value), mX (ML_law b L xs) n0 c0 s0 23 [some (.ref 1000), some (.ref x1), some (.ref x2), some (.ref x3), some (.int x4), d5, d6, d7, d8] [] (S, μ, cx, 6 * cx) iAI (k23 μ cx x1 x2 x3 x4)) (μ : mMm) (cx : Nat) (x1 : Nat) (x2 : Nat) (x3 : Nat) (x4 : Int32) (d5 : Option Value) (d6 : Option Value) (d7 : Option Value) (d8 : Option Value) : mX (ML_law b L xs) n0 c0 s0 734 [some (.ref 1000), some (.ref x1), some (.ref x2), some (.ref x3), some (.int x4), d5, d6, d7, d8] [] (S, μ, cx, 6 * cx) iAI (lL_law_734 k23 L xs S μ cx x1 x2 x3 x4) := by
  unfold lL_law_734
  refine x_goto (pc := 734) (tgt := 2293) dL_law_734 (by decide) ?_
  exact xL_law_2293 (k23 := k23) hk23 μ cx x1 x2 x3 x4 _ _ _ _
set_option maxRecDepth 100000 in
set_option maxHeartbeats 40000000 in
theorem xL_law_778 {n0 c0 s0 : Nat} {b L : Nat} {xs : Nat → Int32} {S : mSh} {k23 : mMm → Nat → Nat → Nat → Nat → Int32 → Option (Int32 × mSh × mMm × Nat)} (hk23 : ∀ (μ : mMm) (cx : Nat) (x1 : Nat) (x2 : Nat) (x3 : Nat) (x4 : Int32) (d5 : Option Value) (d6 : Option Value) (d7 : Option Value) (d8 : Option Value), mX (ML_law b L xs) n0 c0 s0 23 [some (.ref 1000), some (.ref x1), some (.ref x2), some (.ref x3), some (.int x4), d5, d6, d7, d8] [] (S, μ, cx, 6 * cx) iAI (k23 μ cx x1 x2 x3 x4)) (μ : mMm) (cx : Nat) (x1 : Nat) (x2 : Nat) (x3 : Nat) (x4 : Int32) (d5 : Option Value) (d6 : Option Value) (d7 : Option Value) (d8 : Option Value) : mX (ML_law b L xs) n0 c0 s0 778 [some (.ref 1000), some (.ref x1), some (.ref x2), some (.ref x3), some (.int x4), d5, d6, d7, d8] [] (S, μ, cx, 6 * cx) iAI (lL_law_778 k23 L xs S μ cx x1 x2 x3 x4) := by
  unfold lL_law_778
  refine x_goto (pc := 778) (tgt := 2293) dL_law_778 (by decide) ?_
  exact xL_law_2293 (k23 := k23) hk23 μ cx x1 x2 x3 x4 _ _ _ _
set_option maxRecDepth 100000 in
set_option maxHeartbeats 40000000 in
theorem xL_law_834 {n0 c0 s0 : Nat} {b L : Nat} {xs : Nat → Int32} {S : mSh} {k23 : mMm → Nat → Nat → Nat → Nat → Int32 → Option (Int32 × mSh × mMm × Nat)} (hk23 : ∀ (μ : mMm) (cx : Nat) (x1 : Nat) (x2 : Nat) (x3 : Nat) (x4 : Int32) (d5 : Option Value) (d6 : Option Value) (d7 : Option Value) (d8 : Option Value), mX (ML_law b L xs) n0 c0 s0 23 [some (.ref 1000), some (.ref x1), some (.ref x2), some (.ref x3), some (.int x4), d5, d6, d7, d8] [] (S, μ, cx, 6 * cx) iAI (k23 μ cx x1 x2 x3 x4)) (μ : mMm) (cx : Nat) (x1 : Nat) (x2 : Nat) (x3 : Nat) (x4 : Int32) (d5 : Option Value) (d6 : Option Value) (d7 : Option Value) (d8 : Option Value) : mX (ML_law b L xs) n0 c0 s0 834 [some (.ref 1000), some (.ref x1), some (.ref x2), some (.ref x3), some (.int x4), d5, d6, d7, d8] [] (S, μ, cx, 6 * cx) iAI (lL_law_834 k23 L xs S μ cx x1 x2 x3 x4) := by
  unfold lL_law_834
  refine x_goto (pc := 834) (tgt := 2293) dL_law_834 (by decide) ?_
  exact xL_law_2293 (k23 := k23) hk23 μ cx x1 x2 x3 x4 _ _ _ _
set_option maxRecDepth 100000 in
set_option maxHeartbeats 40000000 in
theorem xL_law_902 {n0 c0 s0 : Nat} {b L : Nat} {xs : Nat → Int32} {S : mSh} {k23 : mMm → Nat → Nat → Nat → Nat → Int32 → Option (Int32 × mSh × mMm × Nat)} (hk23 : ∀ (μ : mMm) (cx : Nat) (x1 : Nat) (x2 : Nat) (x3 : Nat) (x4 : Int32) (d5 : Option Value) (d6 : Option Value) (d7 : Option Value) (d8 : Option Value), mX (ML_law b L xs) n0 c0 s0 23 [some (.ref 1000), some (.ref x1), some (.ref x2), some (.ref x3), some (.int x4), d5, d6, d7, d8] [] (S, μ, cx, 6 * cx) iAI (k23 μ cx x1 x2 x3 x4)) (μ : mMm) (cx : Nat) (x1 : Nat) (x2 : Nat) (x3 : Nat) (x4 : Int32) (d5 : Option Value) (d6 : Option Value) (d7 : Option Value) (d8 : Option Value) : mX (ML_law b L xs) n0 c0 s0 902 [some (.ref 1000), some (.ref x1), some (.ref x2), some (.ref x3), some (.int x4), d5, d6, d7, d8] [] (S, μ, cx, 6 * cx) iAI (lL_law_902 k23 L xs S μ cx x1 x2 x3 x4) := by
  unfold lL_law_902
  refine x_goto (pc := 902) (tgt := 2293) dL_law_902 (by decide) ?_
  exact xL_law_2293 (k23 := k23) hk23 μ cx x1 x2 x3 x4 _ _ _ _
set_option maxRecDepth 100000 in
set_option maxHeartbeats 40000000 in
theorem xL_law_946 {n0 c0 s0 : Nat} {b L : Nat} {xs : Nat → Int32} {S : mSh} {k23 : mMm → Nat → Nat → Nat → Nat → Int32 → Option (Int32 × mSh × mMm × Nat)} (hk23 : ∀ (μ : mMm) (cx : Nat) (x1 : Nat) (x2 : Nat) (x3 : Nat) (x4 : Int32) (d5 : Option Value) (d6 : Option Value) (d7 : Option Value) (d8 : Option Value), mX (ML_law b L xs) n0 c0 s0 23 [some (.ref 1000), some (.ref x1), some (.ref x2), some (.ref x3), some (.int x4), d5, d6, d7, d8] [] (S, μ, cx, 6 * cx) iAI (k23 μ cx x1 x2 x3 x4)) (μ : mMm) (cx : Nat) (x1 : Nat) (x2 : Nat) (x3 : Nat) (x4 : Int32) (d5 : Option Value) (d6 : Option Value) (d7 : Option Value) (d8 : Option Value) : mX (ML_law b L xs) n0 c0 s0 946 [some (.ref 1000), some (.ref x1), some (.ref x2), some (.ref x3), some (.int x4), d5, d6, d7, d8] [] (S, μ, cx, 6 * cx) iAI (lL_law_946 k23 L xs S μ cx x1 x2 x3 x4) := by
  unfold lL_law_946
  refine x_goto (pc := 946) (tgt := 2293) dL_law_946 (by decide) ?_
  exact xL_law_2293 (k23 := k23) hk23 μ cx x1 x2 x3 x4 _ _ _ _
set_option maxRecDepth 100000 in
set_option maxHeartbeats 40000000 in
theorem xL_law_1015 {n0 c0 s0 : Nat} {b L : Nat} {xs : Nat → Int32} {S : mSh} {k23 : mMm → Nat → Nat → Nat → Nat → Int32 → Option (Int32 × mSh × mMm × Nat)} (hk23 : ∀ (μ : mMm) (cx : Nat) (x1 : Nat) (x2 : Nat) (x3 : Nat) (x4 : Int32) (d5 : Option Value) (d6 : Option Value) (d7 : Option Value) (d8 : Option Value), mX (ML_law b L xs) n0 c0 s0 23 [some (.ref 1000), some (.ref x1), some (.ref x2), some (.ref x3), some (.int x4), d5, d6, d7, d8] [] (S, μ, cx, 6 * cx) iAI (k23 μ cx x1 x2 x3 x4)) (μ : mMm) (cx : Nat) (x1 : Nat) (x2 : Nat) (x3 : Nat) (x4 : Int32) (d5 : Option Value) (d6 : Option Value) (d7 : Option Value) (d8 : Option Value) : mX (ML_law b L xs) n0 c0 s0 1015 [some (.ref 1000), some (.ref x1), some (.ref x2), some (.ref x3), some (.int x4), d5, d6, d7, d8] [] (S, μ, cx, 6 * cx) iAI (lL_law_1015 k23 L xs S μ cx x1 x2 x3 x4) := by
  unfold lL_law_1015
  refine x_goto (pc := 1015) (tgt := 2293) dL_law_1015 (by decide) ?_
  exact xL_law_2293 (k23 := k23) hk23 μ cx x1 x2 x3 x4 _ _ _ _
set_option maxRecDepth 100000 in
set_option maxHeartbeats 40000000 in
theorem xL_law_1085 {n0 c0 s0 : Nat} {b L : Nat} {xs : Nat → Int32} {S : mSh} {k23 : mMm → Nat → Nat → Nat → Nat → Int32 → Option (Int32 × mSh × mMm × Nat)} (hk23 : ∀ (μ : mMm) (cx : Nat) (x1 : Nat) (x2 : Nat) (x3 : Nat) (x4 : Int32) (d5 : Option Value) (d6 : Option Value) (d7 : Option Value) (d8 : Option Value), mX (ML_law b L xs) n0 c0 s0 23 [some (.ref 1000), some (.ref x1), some (.ref x2), some (.ref x3), some (.int x4), d5, d6, d7, d8] [] (S, μ, cx, 6 * cx) iAI (k23 μ cx x1 x2 x3 x4)) (μ : mMm) (cx : Nat) (x1 : Nat) (x2 : Nat) (x3 : Nat) (x4 : Int32) (d5 : Option Value) (d6 : Option Value) (d7 : Option Value) (d8 : Option Value) : mX (ML_law b L xs) n0 c0 s0 1085 [some (.ref 1000), some (.ref x1), some (.ref x2), some (.ref x3), some (.int x4), d5, d6, d7, d8] [] (S, μ, cx, 6 * cx) iAI (lL_law_1085 k23 L xs S μ cx x1 x2 x3 x4) := by
  unfold lL_law_1085
  refine x_goto (pc := 1085) (tgt := 2293) dL_law_1085 (by decide) ?_
  exact xL_law_2293 (k23 := k23) hk23 μ cx x1 x2 x3 x4 _ _ _ _
set_option maxRecDepth 100000 in
set_option maxHeartbeats 40000000 in
theorem xL_law_1142 {n0 c0 s0 : Nat} {b L : Nat} {xs : Nat → Int32} {S : mSh} {k23 : mMm → Nat → Nat → Nat → Nat → Int32 → Option (Int32 × mSh × mMm × Nat)} (hk23 : ∀ (μ : mMm) (cx : Nat) (x1 : Nat) (x2 : Nat) (x3 : Nat) (x4 : Int32) (d5 : Option Value) (d6 : Option Value) (d7 : Option Value) (d8 : Option Value), mX (ML_law b L xs) n0 c0 s0 23 [some (.ref 1000), some (.ref x1), some (.ref x2), some (.ref x3), some (.int x4), d5, d6, d7, d8] [] (S, μ, cx, 6 * cx) iAI (k23 μ cx x1 x2 x3 x4)) (μ : mMm) (cx : Nat) (x1 : Nat) (x2 : Nat) (x3 : Nat) (x4 : Int32) (d5 : Option Value) (d6 : Option Value) (d7 : Option Value) (d8 : Option Value) : mX (ML_law b L xs) n0 c0 s0 1142 [some (.ref 1000), some (.ref x1), some (.ref x2), some (.ref x3), some (.int x4), d5, d6, d7, d8] [] (S, μ, cx, 6 * cx) iAI (lL_law_1142 k23 L xs S μ cx x1 x2 x3 x4) := by
  unfold lL_law_1142
  refine x_goto (pc := 1142) (tgt := 2293) dL_law_1142 (by decide) ?_
  exact xL_law_2293 (k23 := k23) hk23 μ cx x1 x2 x3 x4 _ _ _ _
set_option maxRecDepth 100000 in
set_option maxHeartbeats 40000000 in
theorem xL_law_1186 {n0 c0 s0 : Nat} {b L : Nat} {xs : Nat → Int32} {S : mSh} {k23 : mMm → Nat → Nat → Nat → Nat → Int32 → Option (Int32 × mSh × mMm × Nat)} (hk23 : ∀ (μ : mMm) (cx : Nat) (x1 : Nat) (x2 : Nat) (x3 : Nat) (x4 : Int32) (d5 : Option Value) (d6 : Option Value) (d7 : Option Value) (d8 : Option Value), mX (ML_law b L xs) n0 c0 s0 23 [some (.ref 1000), some (.ref x1), some (.ref x2), some (.ref x3), some (.int x4), d5, d6, d7, d8] [] (S, μ, cx, 6 * cx) iAI (k23 μ cx x1 x2 x3 x4)) (μ : mMm) (cx : Nat) (x1 : Nat) (x2 : Nat) (x3 : Nat) (x4 : Int32) (d5 : Option Value) (d6 : Option Value) (d7 : Option Value) (d8 : Option Value) : mX (ML_law b L xs) n0 c0 s0 1186 [some (.ref 1000), some (.ref x1), some (.ref x2), some (.ref x3), some (.int x4), d5, d6, d7, d8] [] (S, μ, cx, 6 * cx) iAI (lL_law_1186 k23 L xs S μ cx x1 x2 x3 x4) := by
  unfold lL_law_1186
  refine x_goto (pc := 1186) (tgt := 2293) dL_law_1186 (by decide) ?_
  exact xL_law_2293 (k23 := k23) hk23 μ cx x1 x2 x3 x4 _ _ _ _
set_option maxRecDepth 100000 in
set_option maxHeartbeats 40000000 in
theorem xL_law_1230 {n0 c0 s0 : Nat} {b L : Nat} {xs : Nat → Int32} {S : mSh} {k23 : mMm → Nat → Nat → Nat → Nat → Int32 → Option (Int32 × mSh × mMm × Nat)} (hk23 : ∀ (μ : mMm) (cx : Nat) (x1 : Nat) (x2 : Nat) (x3 : Nat) (x4 : Int32) (d5 : Option Value) (d6 : Option Value) (d7 : Option Value) (d8 : Option Value), mX (ML_law b L xs) n0 c0 s0 23 [some (.ref 1000), some (.ref x1), some (.ref x2), some (.ref x3), some (.int x4), d5, d6, d7, d8] [] (S, μ, cx, 6 * cx) iAI (k23 μ cx x1 x2 x3 x4)) (μ : mMm) (cx : Nat) (x1 : Nat) (x2 : Nat) (x3 : Nat) (x4 : Int32) (d5 : Option Value) (d6 : Option Value) (d7 : Option Value) (d8 : Option Value) : mX (ML_law b L xs) n0 c0 s0 1230 [some (.ref 1000), some (.ref x1), some (.ref x2), some (.ref x3), some (.int x4), d5, d6, d7, d8] [] (S, μ, cx, 6 * cx) iAI (lL_law_1230 k23 L xs S μ cx x1 x2 x3 x4) := by
  unfold lL_law_1230
  refine x_goto (pc := 1230) (tgt := 2293) dL_law_1230 (by decide) ?_
  exact xL_law_2293 (k23 := k23) hk23 μ cx x1 x2 x3 x4 _ _ _ _
set_option maxRecDepth 100000 in
set_option maxHeartbeats 40000000 in
theorem xL_law_1287 {n0 c0 s0 : Nat} {b L : Nat} {xs : Nat → Int32} {S : mSh} {k23 : mMm → Nat → Nat → Nat → Nat → Int32 → Option (Int32 × mSh × mMm × Nat)} (hk23 : ∀ (μ : mMm) (cx : Nat) (x1 : Nat) (x2 : Nat) (x3 : Nat) (x4 : Int32) (d5 : Option Value) (d6 : Option Value) (d7 : Option Value) (d8 : Option Value), mX (ML_law b L xs) n0 c0 s0 23 [some (.ref 1000), some (.ref x1), some (.ref x2), some (.ref x3), some (.int x4), d5, d6, d7, d8] [] (S, μ, cx, 6 * cx) iAI (k23 μ cx x1 x2 x3 x4)) (μ : mMm) (cx : Nat) (x1 : Nat) (x2 : Nat) (x3 : Nat) (x4 : Int32) (d5 : Option Value) (d6 : Option Value) (d7 : Option Value) (d8 : Option Value) : mX (ML_law b L xs) n0 c0 s0 1287 [some (.ref 1000), some (.ref x1), some (.ref x2), some (.ref x3), some (.int x4), d5, d6, d7, d8] [] (S, μ, cx, 6 * cx) iAI (lL_law_1287 k23 L xs S μ cx x1 x2 x3 x4) := by
  unfold lL_law_1287
  refine x_goto (pc := 1287) (tgt := 2293) dL_law_1287 (by decide) ?_
  exact xL_law_2293 (k23 := k23) hk23 μ cx x1 x2 x3 x4 _ _ _ _
set_option maxRecDepth 100000 in
set_option maxHeartbeats 40000000 in
theorem xL_law_1369 {n0 c0 s0 : Nat} {b L : Nat} {xs : Nat → Int32} {S : mSh} {k23 : mMm → Nat → Nat → Nat → Nat → Int32 → Option (Int32 × mSh × mMm × Nat)} (hk23 : ∀ (μ : mMm) (cx : Nat) (x1 : Nat) (x2 : Nat) (x3 : Nat) (x4 : Int32) (d5 : Option Value) (d6 : Option Value) (d7 : Option Value) (d8 : Option Value), mX (ML_law b L xs) n0 c0 s0 23 [some (.ref 1000), some (.ref x1), some (.ref x2), some (.ref x3), some (.int x4), d5, d6, d7, d8] [] (S, μ, cx, 6 * cx) iAI (k23 μ cx x1 x2 x3 x4)) (μ : mMm) (cx : Nat) (x1 : Nat) (x2 : Nat) (x3 : Nat) (x4 : Int32) (d5 : Option Value) (d6 : Option Value) (d7 : Option Value) (d8 : Option Value) : mX (ML_law b L xs) n0 c0 s0 1369 [some (.ref 1000), some (.ref x1), some (.ref x2), some (.ref x3), some (.int x4), d5, d6, d7, d8] [] (S, μ, cx, 6 * cx) iAI (lL_law_1369 k23 L xs S μ cx x1 x2 x3 x4) := by
  unfold lL_law_1369
  refine x_goto (pc := 1369) (tgt := 2293) dL_law_1369 (by decide) ?_
  exact xL_law_2293 (k23 := k23) hk23 μ cx x1 x2 x3 x4 _ _ _ _
set_option maxRecDepth 100000 in
set_option maxHeartbeats 40000000 in
theorem xL_law_1484 {n0 c0 s0 : Nat} {b L : Nat} {xs : Nat → Int32} {S : mSh} {k23 : mMm → Nat → Nat → Nat → Nat → Int32 → Option (Int32 × mSh × mMm × Nat)} (hk23 : ∀ (μ : mMm) (cx : Nat) (x1 : Nat) (x2 : Nat) (x3 : Nat) (x4 : Int32) (d5 : Option Value) (d6 : Option Value) (d7 : Option Value) (d8 : Option Value), mX (ML_law b L xs) n0 c0 s0 23 [some (.ref 1000), some (.ref x1), some (.ref x2), some (.ref x3), some (.int x4), d5, d6, d7, d8] [] (S, μ, cx, 6 * cx) iAI (k23 μ cx x1 x2 x3 x4)) (μ : mMm) (cx : Nat) (x1 : Nat) (x2 : Nat) (x3 : Nat) (x4 : Int32) (d5 : Option Value) (d6 : Option Value) (d7 : Option Value) (d8 : Option Value) : mX (ML_law b L xs) n0 c0 s0 1484 [some (.ref 1000), some (.ref x1), some (.ref x2), some (.ref x3), some (.int x4), d5, d6, d7, d8] [] (S, μ, cx, 6 * cx) iAI (lL_law_1484 k23 L xs S μ cx x1 x2 x3 x4) := by
  unfold lL_law_1484
  refine x_goto (pc := 1484) (tgt := 2293) dL_law_1484 (by decide) ?_
  exact xL_law_2293 (k23 := k23) hk23 μ cx x1 x2 x3 x4 _ _ _ _
set_option maxRecDepth 100000 in
set_option maxHeartbeats 40000000 in
theorem xL_law_1478 {n0 c0 s0 : Nat} {b L : Nat} {xs : Nat → Int32} {S : mSh} {k23 : mMm → Nat → Nat → Nat → Nat → Int32 → Option (Int32 × mSh × mMm × Nat)} (hk23 : ∀ (μ : mMm) (cx : Nat) (x1 : Nat) (x2 : Nat) (x3 : Nat) (x4 : Int32) (d5 : Option Value) (d6 : Option Value) (d7 : Option Value) (d8 : Option Value), mX (ML_law b L xs) n0 c0 s0 23 [some (.ref 1000), some (.ref x1), some (.ref x2), some (.ref x3), some (.int x4), d5, d6, d7, d8] [] (S, μ, cx, 6 * cx) iAI (k23 μ cx x1 x2 x3 x4)) (μ : mMm) (cx : Nat) (x1 : Nat) (x2 : Nat) (x3 : Nat) (x4 : Int32) (t0 : Int64) (t1 : Int64) (d5 : Option Value) (d6 : Option Value) (d7 : Option Value) (d8 : Option Value) : mX (ML_law b L xs) n0 c0 s0 1478 [some (.ref 1000), some (.ref x1), some (.ref x2), some (.ref x3), some (.int x4), d5, d6, d7, d8] [.long t0, .long t1] (S, μ, cx, 6 * cx) iAI (lL_law_1478 k23 L xs S μ cx x1 x2 x3 x4 t0 t1) := by
  unfold lL_law_1478
  refine x_lcmp (pc := 1478) dL_law_1478 ?_
  refine x_if_eq (pc := 1479) (tgt := 1484) dL_law_1479 (by decide) ?_ ?_
  · exact xL_law_1484 (k23 := k23) hk23 μ cx x1 x2 x3 x4 _ _ _ _
  · refine x_iconst (pc := 1482) (v := 0) dL_law_1482 (by decide) ?_
    exact x_iret rfl dL_law_1483 rfl rfl
set_option maxRecDepth 100000 in
set_option maxHeartbeats 40000000 in
theorem xL_law_1540 {n0 c0 s0 : Nat} {b L : Nat} {xs : Nat → Int32} {S : mSh} {k23 : mMm → Nat → Nat → Nat → Nat → Int32 → Option (Int32 × mSh × mMm × Nat)} (hk23 : ∀ (μ : mMm) (cx : Nat) (x1 : Nat) (x2 : Nat) (x3 : Nat) (x4 : Int32) (d5 : Option Value) (d6 : Option Value) (d7 : Option Value) (d8 : Option Value), mX (ML_law b L xs) n0 c0 s0 23 [some (.ref 1000), some (.ref x1), some (.ref x2), some (.ref x3), some (.int x4), d5, d6, d7, d8] [] (S, μ, cx, 6 * cx) iAI (k23 μ cx x1 x2 x3 x4)) (μ : mMm) (cx : Nat) (x1 : Nat) (x2 : Nat) (x3 : Nat) (x4 : Int32) (d5 : Option Value) (d6 : Option Value) (d7 : Option Value) (d8 : Option Value) : mX (ML_law b L xs) n0 c0 s0 1540 [some (.ref 1000), some (.ref x1), some (.ref x2), some (.ref x3), some (.int x4), d5, d6, d7, d8] [] (S, μ, cx, 6 * cx) iAI (lL_law_1540 k23 L xs S μ cx x1 x2 x3 x4) := by
  unfold lL_law_1540
  refine x_goto (pc := 1540) (tgt := 2293) dL_law_1540 (by decide) ?_
  exact xL_law_2293 (k23 := k23) hk23 μ cx x1 x2 x3 x4 _ _ _ _
set_option maxRecDepth 100000 in
set_option maxHeartbeats 40000000 in
theorem xL_law_1596 {n0 c0 s0 : Nat} {b L : Nat} {xs : Nat → Int32} {S : mSh} {k23 : mMm → Nat → Nat → Nat → Nat → Int32 → Option (Int32 × mSh × mMm × Nat)} (hk23 : ∀ (μ : mMm) (cx : Nat) (x1 : Nat) (x2 : Nat) (x3 : Nat) (x4 : Int32) (d5 : Option Value) (d6 : Option Value) (d7 : Option Value) (d8 : Option Value), mX (ML_law b L xs) n0 c0 s0 23 [some (.ref 1000), some (.ref x1), some (.ref x2), some (.ref x3), some (.int x4), d5, d6, d7, d8] [] (S, μ, cx, 6 * cx) iAI (k23 μ cx x1 x2 x3 x4)) (μ : mMm) (cx : Nat) (x1 : Nat) (x2 : Nat) (x3 : Nat) (x4 : Int32) (d5 : Option Value) (d6 : Option Value) (d7 : Option Value) (d8 : Option Value) : mX (ML_law b L xs) n0 c0 s0 1596 [some (.ref 1000), some (.ref x1), some (.ref x2), some (.ref x3), some (.int x4), d5, d6, d7, d8] [] (S, μ, cx, 6 * cx) iAI (lL_law_1596 k23 L xs S μ cx x1 x2 x3 x4) := by
  unfold lL_law_1596
  refine x_goto (pc := 1596) (tgt := 2293) dL_law_1596 (by decide) ?_
  exact xL_law_2293 (k23 := k23) hk23 μ cx x1 x2 x3 x4 _ _ _ _
set_option maxRecDepth 100000 in
set_option maxHeartbeats 40000000 in
theorem xL_law_1652 {n0 c0 s0 : Nat} {b L : Nat} {xs : Nat → Int32} {S : mSh} {k23 : mMm → Nat → Nat → Nat → Nat → Int32 → Option (Int32 × mSh × mMm × Nat)} (hk23 : ∀ (μ : mMm) (cx : Nat) (x1 : Nat) (x2 : Nat) (x3 : Nat) (x4 : Int32) (d5 : Option Value) (d6 : Option Value) (d7 : Option Value) (d8 : Option Value), mX (ML_law b L xs) n0 c0 s0 23 [some (.ref 1000), some (.ref x1), some (.ref x2), some (.ref x3), some (.int x4), d5, d6, d7, d8] [] (S, μ, cx, 6 * cx) iAI (k23 μ cx x1 x2 x3 x4)) (μ : mMm) (cx : Nat) (x1 : Nat) (x2 : Nat) (x3 : Nat) (x4 : Int32) (d5 : Option Value) (d6 : Option Value) (d7 : Option Value) (d8 : Option Value) : mX (ML_law b L xs) n0 c0 s0 1652 [some (.ref 1000), some (.ref x1), some (.ref x2), some (.ref x3), some (.int x4), d5, d6, d7, d8] [] (S, μ, cx, 6 * cx) iAI (lL_law_1652 k23 L xs S μ cx x1 x2 x3 x4) := by
  unfold lL_law_1652
  refine x_goto (pc := 1652) (tgt := 2293) dL_law_1652 (by decide) ?_
  exact xL_law_2293 (k23 := k23) hk23 μ cx x1 x2 x3 x4 _ _ _ _
set_option maxRecDepth 100000 in
set_option maxHeartbeats 40000000 in
theorem xL_law_1773 {n0 c0 s0 : Nat} {b L : Nat} {xs : Nat → Int32} {S : mSh} {k23 : mMm → Nat → Nat → Nat → Nat → Int32 → Option (Int32 × mSh × mMm × Nat)} (hk23 : ∀ (μ : mMm) (cx : Nat) (x1 : Nat) (x2 : Nat) (x3 : Nat) (x4 : Int32) (d5 : Option Value) (d6 : Option Value) (d7 : Option Value) (d8 : Option Value), mX (ML_law b L xs) n0 c0 s0 23 [some (.ref 1000), some (.ref x1), some (.ref x2), some (.ref x3), some (.int x4), d5, d6, d7, d8] [] (S, μ, cx, 6 * cx) iAI (k23 μ cx x1 x2 x3 x4)) (μ : mMm) (cx : Nat) (x1 : Nat) (x2 : Nat) (x3 : Nat) (x4 : Int32) (d5 : Option Value) (d6 : Option Value) (d7 : Option Value) (d8 : Option Value) : mX (ML_law b L xs) n0 c0 s0 1773 [some (.ref 1000), some (.ref x1), some (.ref x2), some (.ref x3), some (.int x4), d5, d6, d7, d8] [] (S, μ, cx, 6 * cx) iAI (lL_law_1773 k23 L xs S μ cx x1 x2 x3 x4) := by
  unfold lL_law_1773
  refine x_goto (pc := 1773) (tgt := 2293) dL_law_1773 (by decide) ?_
  exact xL_law_2293 (k23 := k23) hk23 μ cx x1 x2 x3 x4 _ _ _ _
set_option maxRecDepth 100000 in
set_option maxHeartbeats 40000000 in
theorem xL_law_1829 {n0 c0 s0 : Nat} {b L : Nat} {xs : Nat → Int32} {S : mSh} {k23 : mMm → Nat → Nat → Nat → Nat → Int32 → Option (Int32 × mSh × mMm × Nat)} (hk23 : ∀ (μ : mMm) (cx : Nat) (x1 : Nat) (x2 : Nat) (x3 : Nat) (x4 : Int32) (d5 : Option Value) (d6 : Option Value) (d7 : Option Value) (d8 : Option Value), mX (ML_law b L xs) n0 c0 s0 23 [some (.ref 1000), some (.ref x1), some (.ref x2), some (.ref x3), some (.int x4), d5, d6, d7, d8] [] (S, μ, cx, 6 * cx) iAI (k23 μ cx x1 x2 x3 x4)) (μ : mMm) (cx : Nat) (x1 : Nat) (x2 : Nat) (x3 : Nat) (x4 : Int32) (d5 : Option Value) (d6 : Option Value) (d7 : Option Value) (d8 : Option Value) : mX (ML_law b L xs) n0 c0 s0 1829 [some (.ref 1000), some (.ref x1), some (.ref x2), some (.ref x3), some (.int x4), d5, d6, d7, d8] [] (S, μ, cx, 6 * cx) iAI (lL_law_1829 k23 L xs S μ cx x1 x2 x3 x4) := by
  unfold lL_law_1829
  refine x_goto (pc := 1829) (tgt := 2293) dL_law_1829 (by decide) ?_
  exact xL_law_2293 (k23 := k23) hk23 μ cx x1 x2 x3 x4 _ _ _ _
set_option maxRecDepth 100000 in
set_option maxHeartbeats 40000000 in
theorem xL_law_1885 {n0 c0 s0 : Nat} {b L : Nat} {xs : Nat → Int32} {S : mSh} {k23 : mMm → Nat → Nat → Nat → Nat → Int32 → Option (Int32 × mSh × mMm × Nat)} (hk23 : ∀ (μ : mMm) (cx : Nat) (x1 : Nat) (x2 : Nat) (x3 : Nat) (x4 : Int32) (d5 : Option Value) (d6 : Option Value) (d7 : Option Value) (d8 : Option Value), mX (ML_law b L xs) n0 c0 s0 23 [some (.ref 1000), some (.ref x1), some (.ref x2), some (.ref x3), some (.int x4), d5, d6, d7, d8] [] (S, μ, cx, 6 * cx) iAI (k23 μ cx x1 x2 x3 x4)) (μ : mMm) (cx : Nat) (x1 : Nat) (x2 : Nat) (x3 : Nat) (x4 : Int32) (d5 : Option Value) (d6 : Option Value) (d7 : Option Value) (d8 : Option Value) : mX (ML_law b L xs) n0 c0 s0 1885 [some (.ref 1000), some (.ref x1), some (.ref x2), some (.ref x3), some (.int x4), d5, d6, d7, d8] [] (S, μ, cx, 6 * cx) iAI (lL_law_1885 k23 L xs S μ cx x1 x2 x3 x4) := by
  unfold lL_law_1885
  refine x_goto (pc := 1885) (tgt := 2293) dL_law_1885 (by decide) ?_
  exact xL_law_2293 (k23 := k23) hk23 μ cx x1 x2 x3 x4 _ _ _ _
set_option maxRecDepth 100000 in
set_option maxHeartbeats 40000000 in
theorem xL_law_1941 {n0 c0 s0 : Nat} {b L : Nat} {xs : Nat → Int32} {S : mSh} {k23 : mMm → Nat → Nat → Nat → Nat → Int32 → Option (Int32 × mSh × mMm × Nat)} (hk23 : ∀ (μ : mMm) (cx : Nat) (x1 : Nat) (x2 : Nat) (x3 : Nat) (x4 : Int32) (d5 : Option Value) (d6 : Option Value) (d7 : Option Value) (d8 : Option Value), mX (ML_law b L xs) n0 c0 s0 23 [some (.ref 1000), some (.ref x1), some (.ref x2), some (.ref x3), some (.int x4), d5, d6, d7, d8] [] (S, μ, cx, 6 * cx) iAI (k23 μ cx x1 x2 x3 x4)) (μ : mMm) (cx : Nat) (x1 : Nat) (x2 : Nat) (x3 : Nat) (x4 : Int32) (d5 : Option Value) (d6 : Option Value) (d7 : Option Value) (d8 : Option Value) : mX (ML_law b L xs) n0 c0 s0 1941 [some (.ref 1000), some (.ref x1), some (.ref x2), some (.ref x3), some (.int x4), d5, d6, d7, d8] [] (S, μ, cx, 6 * cx) iAI (lL_law_1941 k23 L xs S μ cx x1 x2 x3 x4) := by
  unfold lL_law_1941
  refine x_goto (pc := 1941) (tgt := 2293) dL_law_1941 (by decide) ?_
  exact xL_law_2293 (k23 := k23) hk23 μ cx x1 x2 x3 x4 _ _ _ _
set_option maxRecDepth 100000 in
set_option maxHeartbeats 40000000 in
theorem xL_law_1997 {n0 c0 s0 : Nat} {b L : Nat} {xs : Nat → Int32} {S : mSh} {k23 : mMm → Nat → Nat → Nat → Nat → Int32 → Option (Int32 × mSh × mMm × Nat)} (hk23 : ∀ (μ : mMm) (cx : Nat) (x1 : Nat) (x2 : Nat) (x3 : Nat) (x4 : Int32) (d5 : Option Value) (d6 : Option Value) (d7 : Option Value) (d8 : Option Value), mX (ML_law b L xs) n0 c0 s0 23 [some (.ref 1000), some (.ref x1), some (.ref x2), some (.ref x3), some (.int x4), d5, d6, d7, d8] [] (S, μ, cx, 6 * cx) iAI (k23 μ cx x1 x2 x3 x4)) (μ : mMm) (cx : Nat) (x1 : Nat) (x2 : Nat) (x3 : Nat) (x4 : Int32) (d5 : Option Value) (d6 : Option Value) (d7 : Option Value) (d8 : Option Value) : mX (ML_law b L xs) n0 c0 s0 1997 [some (.ref 1000), some (.ref x1), some (.ref x2), some (.ref x3), some (.int x4), d5, d6, d7, d8] [] (S, μ, cx, 6 * cx) iAI (lL_law_1997 k23 L xs S μ cx x1 x2 x3 x4) := by
  unfold lL_law_1997
  refine x_goto (pc := 1997) (tgt := 2293) dL_law_1997 (by decide) ?_
  exact xL_law_2293 (k23 := k23) hk23 μ cx x1 x2 x3 x4 _ _ _ _
set_option maxRecDepth 100000 in
set_option maxHeartbeats 40000000 in
theorem xL_law_2079 {n0 c0 s0 : Nat} {b L : Nat} {xs : Nat → Int32} {S : mSh} {k23 : mMm → Nat → Nat → Nat → Nat → Int32 → Option (Int32 × mSh × mMm × Nat)} (hk23 : ∀ (μ : mMm) (cx : Nat) (x1 : Nat) (x2 : Nat) (x3 : Nat) (x4 : Int32) (d5 : Option Value) (d6 : Option Value) (d7 : Option Value) (d8 : Option Value), mX (ML_law b L xs) n0 c0 s0 23 [some (.ref 1000), some (.ref x1), some (.ref x2), some (.ref x3), some (.int x4), d5, d6, d7, d8] [] (S, μ, cx, 6 * cx) iAI (k23 μ cx x1 x2 x3 x4)) (μ : mMm) (cx : Nat) (x1 : Nat) (x2 : Nat) (x3 : Nat) (x4 : Int32) (d5 : Option Value) (d6 : Option Value) (d7 : Option Value) (d8 : Option Value) : mX (ML_law b L xs) n0 c0 s0 2079 [some (.ref 1000), some (.ref x1), some (.ref x2), some (.ref x3), some (.int x4), d5, d6, d7, d8] [] (S, μ, cx, 6 * cx) iAI (lL_law_2079 k23 L xs S μ cx x1 x2 x3 x4) := by
  unfold lL_law_2079
  refine x_goto (pc := 2079) (tgt := 2293) dL_law_2079 (by decide) ?_
  exact xL_law_2293 (k23 := k23) hk23 μ cx x1 x2 x3 x4 _ _ _ _
set_option maxRecDepth 100000 in
set_option maxHeartbeats 40000000 in
theorem xL_law_2135 {n0 c0 s0 : Nat} {b L : Nat} {xs : Nat → Int32} {S : mSh} {k23 : mMm → Nat → Nat → Nat → Nat → Int32 → Option (Int32 × mSh × mMm × Nat)} (hk23 : ∀ (μ : mMm) (cx : Nat) (x1 : Nat) (x2 : Nat) (x3 : Nat) (x4 : Int32) (d5 : Option Value) (d6 : Option Value) (d7 : Option Value) (d8 : Option Value), mX (ML_law b L xs) n0 c0 s0 23 [some (.ref 1000), some (.ref x1), some (.ref x2), some (.ref x3), some (.int x4), d5, d6, d7, d8] [] (S, μ, cx, 6 * cx) iAI (k23 μ cx x1 x2 x3 x4)) (μ : mMm) (cx : Nat) (x1 : Nat) (x2 : Nat) (x3 : Nat) (x4 : Int32) (d5 : Option Value) (d6 : Option Value) (d7 : Option Value) (d8 : Option Value) : mX (ML_law b L xs) n0 c0 s0 2135 [some (.ref 1000), some (.ref x1), some (.ref x2), some (.ref x3), some (.int x4), d5, d6, d7, d8] [] (S, μ, cx, 6 * cx) iAI (lL_law_2135 k23 L xs S μ cx x1 x2 x3 x4) := by
  unfold lL_law_2135
  refine x_goto (pc := 2135) (tgt := 2293) dL_law_2135 (by decide) ?_
  exact xL_law_2293 (k23 := k23) hk23 μ cx x1 x2 x3 x4 _ _ _ _
set_option maxRecDepth 100000 in
set_option maxHeartbeats 40000000 in
theorem xL_law_2191 {n0 c0 s0 : Nat} {b L : Nat} {xs : Nat → Int32} {S : mSh} {k23 : mMm → Nat → Nat → Nat → Nat → Int32 → Option (Int32 × mSh × mMm × Nat)} (hk23 : ∀ (μ : mMm) (cx : Nat) (x1 : Nat) (x2 : Nat) (x3 : Nat) (x4 : Int32) (d5 : Option Value) (d6 : Option Value) (d7 : Option Value) (d8 : Option Value), mX (ML_law b L xs) n0 c0 s0 23 [some (.ref 1000), some (.ref x1), some (.ref x2), some (.ref x3), some (.int x4), d5, d6, d7, d8] [] (S, μ, cx, 6 * cx) iAI (k23 μ cx x1 x2 x3 x4)) (μ : mMm) (cx : Nat) (x1 : Nat) (x2 : Nat) (x3 : Nat) (x4 : Int32) (d5 : Option Value) (d6 : Option Value) (d7 : Option Value) (d8 : Option Value) : mX (ML_law b L xs) n0 c0 s0 2191 [some (.ref 1000), some (.ref x1), some (.ref x2), some (.ref x3), some (.int x4), d5, d6, d7, d8] [] (S, μ, cx, 6 * cx) iAI (lL_law_2191 k23 L xs S μ cx x1 x2 x3 x4) := by
  unfold lL_law_2191
  refine x_goto (pc := 2191) (tgt := 2293) dL_law_2191 (by decide) ?_
  exact xL_law_2293 (k23 := k23) hk23 μ cx x1 x2 x3 x4 _ _ _ _
set_option maxRecDepth 100000 in
set_option maxHeartbeats 40000000 in
theorem xL_law_2235 {n0 c0 s0 : Nat} {b L : Nat} {xs : Nat → Int32} {S : mSh} {k23 : mMm → Nat → Nat → Nat → Nat → Int32 → Option (Int32 × mSh × mMm × Nat)} (hk23 : ∀ (μ : mMm) (cx : Nat) (x1 : Nat) (x2 : Nat) (x3 : Nat) (x4 : Int32) (d5 : Option Value) (d6 : Option Value) (d7 : Option Value) (d8 : Option Value), mX (ML_law b L xs) n0 c0 s0 23 [some (.ref 1000), some (.ref x1), some (.ref x2), some (.ref x3), some (.int x4), d5, d6, d7, d8] [] (S, μ, cx, 6 * cx) iAI (k23 μ cx x1 x2 x3 x4)) (μ : mMm) (cx : Nat) (x1 : Nat) (x2 : Nat) (x3 : Nat) (x4 : Int32) (d5 : Option Value) (d6 : Option Value) (d7 : Option Value) (d8 : Option Value) : mX (ML_law b L xs) n0 c0 s0 2235 [some (.ref 1000), some (.ref x1), some (.ref x2), some (.ref x3), some (.int x4), d5, d6, d7, d8] [] (S, μ, cx, 6 * cx) iAI (lL_law_2235 k23 L xs S μ cx x1 x2 x3 x4) := by
  unfold lL_law_2235
  refine x_goto (pc := 2235) (tgt := 2293) dL_law_2235 (by decide) ?_
  exact xL_law_2293 (k23 := k23) hk23 μ cx x1 x2 x3 x4 _ _ _ _
set_option maxRecDepth 100000 in
set_option maxHeartbeats 40000000 in
theorem xL_law_2276 {n0 c0 s0 : Nat} {b L : Nat} {xs : Nat → Int32} {S : mSh} {k23 : mMm → Nat → Nat → Nat → Nat → Int32 → Option (Int32 × mSh × mMm × Nat)} (hk23 : ∀ (μ : mMm) (cx : Nat) (x1 : Nat) (x2 : Nat) (x3 : Nat) (x4 : Int32) (d5 : Option Value) (d6 : Option Value) (d7 : Option Value) (d8 : Option Value), mX (ML_law b L xs) n0 c0 s0 23 [some (.ref 1000), some (.ref x1), some (.ref x2), some (.ref x3), some (.int x4), d5, d6, d7, d8] [] (S, μ, cx, 6 * cx) iAI (k23 μ cx x1 x2 x3 x4)) (μ : mMm) (cx : Nat) (x1 : Nat) (x2 : Nat) (x3 : Nat) (x4 : Int32) (d5 : Option Value) (d6 : Option Value) (d7 : Option Value) (d8 : Option Value) : mX (ML_law b L xs) n0 c0 s0 2276 [some (.ref 1000), some (.ref x1), some (.ref x2), some (.ref x3), some (.int x4), d5, d6, d7, d8] [] (S, μ, cx, 6 * cx) iAI (lL_law_2276 k23 L xs S μ cx x1 x2 x3 x4) := by
  unfold lL_law_2276
  refine x_goto (pc := 2276) (tgt := 2293) dL_law_2276 (by decide) ?_
  exact xL_law_2293 (k23 := k23) hk23 μ cx x1 x2 x3 x4 _ _ _ _
set_option maxRecDepth 100000 in
set_option maxHeartbeats 40000000 in
theorem xL_law_23 {n0 c0 s0 : Nat} {b L : Nat} {xs : Nat → Int32} {S : mSh} : ∀ (n : Nat) (μ : mMm) (cx : Nat) (x1 : Nat) (x2 : Nat) (x3 : Nat) (x4 : Int32) (d5 : Option Value) (d6 : Option Value) (d7 : Option Value) (d8 : Option Value), mX (ML_law b L xs) n0 c0 s0 23 [some (.ref 1000), some (.ref x1), some (.ref x2), some (.ref x3), some (.int x4), d5, d6, d7, d8] [] (S, μ, cx, 6 * cx) iAI (lL_law_23 L xs S n μ cx x1 x2 x3 x4) := by
  intro n
  induction n with
  | zero => intros; exact x_none
  | succ n ih =>
    intro μ cx x1 x2 x3 x4 d5 d6 d7 d8
    unfold lL_law_23
    refine x_iload (pc := 23) dL_law_23 rfl ?_
    refine x_aload_n (pc := 25) dL_law_25 (i := 0) rfl rfl ?_
    refine x_slen (pc := 26) (b := b) (L := L) (xs := xs) rfl dL_law_26 ?_
    refine x_iconst (pc := 27) (v := 3) dL_law_27 (by decide) ?_
    refine x_isub (pc := 28) dL_law_28 ?_
    refine x_icmp_gt (pc := 29) (tgt := 2299) dL_law_29 (by decide) ?_ ?_
    · refine x_iconst (pc := 2299) (v := 1) dL_law_2299 (by decide) ?_
      exact x_iret rfl dL_law_2300 rfl rfl
    · refine x_aload_n (pc := 32) dL_law_32 (i := 0) rfl rfl ?_
      refine x_iload (pc := 33) dL_law_33 rfl ?_
      refine x_sld (pc := 35) (b := b) (L := L) (xs := xs) rfl dL_law_35 (fun v6 => ?_)
      refine x_bipush (pc := 36) (v := 63) dL_law_36 (by decide) ?_
      refine x_iand (pc := 38) dL_law_38 ?_
      refine mX.ite (fun hD => ?_) (fun hD => ?_)
      · refine x_tableOut (pc := 39) (tgt := 2293) dL_law_39 hD (by decide) ?_
        exact xL_law_2293 (k23 := (lL_law_23 L xs S n)) ih μ cx x1 x2 x3 x4 _ _ _ _
      · refine mX.ite (fun h0 => ?_) (fun h0 => ?_)
        · refine x_tableIn (pc := 39) (tgt := 264) (off := 225) dL_law_39 (by omega) (by omega) (by rw [h0]; rfl) (by decide) ?_
          refine x_aload_n (pc := 264) dL_law_264 (i := 1) rfl rfl ?_
          refine x_aload_n (pc := 265) dL_law_265 (i := 0) rfl rfl ?_
          refine x_iload (pc := 266) dL_law_266 rfl ?_
          refine x_iconst (pc := 268) (v := 1) dL_law_268 (by decide) ?_
          refine x_iadd (pc := 269) dL_law_269 ?_
          refine x_sld (pc := 270) (b := b) (L := L) (xs := xs) rfl dL_law_270 (fun v7 => ?_)
          refine x_aload_n (pc := 271) dL_law_271 (i := 3) rfl rfl ?_
          refine x_callH (pc := 272) (As := [.ref x1, .int v7, .ref x3]) (rest := []) (mL_addLetter S μ cx (6 * cx) x1 v7 x3) rfl dL_law_272 q145 kL_addLetter rfl ⟨Nat.le_of_ble_eq_true rfl, Nat.le_of_ble_eq_true rfl⟩ rfl (Nat.le_of_ble_eq_true rfl) (fun r8 => ?_)
          refine x_istore (pc := 275) dL_law_275 (Nat.le_of_ble_eq_true rfl) (l' := [some (.ref 1000), some (.ref x1), some (.ref x2), some (.ref x3), some (.int x4), some (.int r8.1), d6, d7, d8]) rfl ?_
          refine x_aload_n (pc := 277) dL_law_277 (i := 2) rfl rfl ?_
          refine x_aload_n (pc := 278) dL_law_278 (i := 0) rfl rfl ?_
          refine x_iload (pc := 279) dL_law_279 rfl ?_
          refine x_iconst (pc := 281) (v := 1) dL_law_281 (by decide) ?_
          refine x_iadd (pc := 282) dL_law_282 ?_
          refine x_sld (pc := 283) (b := b) (L := L) (xs := xs) rfl dL_law_283 (fun v9 => ?_)
          refine x_callVi (pc := 284) (As := [.int v9]) (rest := []) (vx := fun a => a.1) (μf := fun a => a.2) fcX11 (mX11_addLetter S r8.2.1 (cx + r8.2.2) (6 * (cx + r8.2.2)) x2 v9) (fun _ => rfl) rfl (fun _ h => ifok h) dL_law_284 q195 kX11_addLetter rfl ⟨Nat.le_of_ble_eq_true rfl, Nat.le_of_ble_eq_true rfl⟩ rfl (Nat.le_of_ble_eq_true rfl) (fun r10 => ?_)
          refine x_istore (pc := 287) dL_law_287 (Nat.le_of_ble_eq_true rfl) (l' := [some (.ref 1000), some (.ref x1), some (.ref x2), some (.ref x3), some (.int x4), some (.int r8.1), some (.int r10.1), d7, d8]) rfl ?_
          refine x_aload_n (pc := 289) dL_law_289 (i := 2) rfl rfl ?_
          refine x_callVi (pc := 290) (As := []) (rest := []) (vx := fun a => a) (μf := fun _ => r10.2) fcX11 (mX11_thrown S r10.2 (cx + r8.2.2) (6 * (cx + r8.2.2)) x2) (fun _ => rfl) rfl (fun _ h => ifok h) dL_law_290 q216 kX11_thrown rfl ⟨Nat.le_of_ble_eq_true rfl, Nat.le_of_ble_eq_true rfl⟩ rfl (Nat.le_of_ble_eq_true rfl) (fun v11 => ?_)
          refine x_iload (pc := 293) dL_law_293 rfl ?_
          refine x_icmp_eq (pc := 295) (tgt := 300) dL_law_295 (by decide) ?_ ?_
          · refine x_iload (pc := 300) dL_law_300 rfl ?_
            refine x_if_ne (pc := 302) (tgt := 317) dL_law_302 (by decide) ?_ ?_
            · refine x_aload_n (pc := 305) dL_law_305 (i := 3) rfl rfl ?_
              refine x_iconst (pc := 306) (v := 0) dL_law_306 (by decide) ?_
              refine x_ldL (pc := 307) dL_law_307 (fun v12 => ?_)
              refine x_iload (pc := 308) dL_law_308 rfl ?_
              refine x_i2l (pc := 310) dL_law_310 ?_
              refine x_lcmp (pc := 311) dL_law_311 ?_
              refine x_if_eq (pc := 312) (tgt := 317) dL_law_312 (by decide) ?_ ?_
              · exact xL_law_317 (k23 := (lL_law_23 L xs S n)) ih r10.2 (cx + r8.2.2) x1 x2 x3 x4 _ _ _ _
              · refine x_iconst (pc := 315) (v := 0) dL_law_315 (by decide) ?_
                exact x_iret rfl dL_law_316 rfl rfl
            · exact xL_law_317 (k23 := (lL_law_23 L xs S n)) ih r10.2 (cx + r8.2.2) x1 x2 x3 x4 _ _ _ _
          · refine x_iconst (pc := 298) (v := 0) dL_law_298 (by decide) ?_
            exact x_iret rfl dL_law_299 rfl rfl
        · refine mX.ite (fun h1 => ?_) (fun h1 => ?_)
          · refine x_tableIn (pc := 39) (tgt := 320) (off := 281) dL_law_39 (by omega) (by omega) (by rw [h1]; rfl) (by decide) ?_
            refine x_aload_n (pc := 320) dL_law_320 (i := 1) rfl rfl ?_
            refine x_aload_n (pc := 321) dL_law_321 (i := 0) rfl rfl ?_
            refine x_iload (pc := 322) dL_law_322 rfl ?_
            refine x_iconst (pc := 324) (v := 1) dL_law_324 (by decide) ?_
            refine x_iadd (pc := 325) dL_law_325 ?_
            refine x_sld (pc := 326) (b := b) (L := L) (xs := xs) rfl dL_law_326 (fun v13 => ?_)
            refine x_aload_n (pc := 327) dL_law_327 (i := 0) rfl rfl ?_
            refine x_iload (pc := 328) dL_law_328 rfl ?_
            refine x_iconst (pc := 330) (v := 2) dL_law_330 (by decide) ?_
            refine x_iadd (pc := 331) dL_law_331 ?_
            refine x_sld (pc := 332) (b := b) (L := L) (xs := xs) rfl dL_law_332 (fun v14 => ?_)
            refine x_aload_n (pc := 333) dL_law_333 (i := 3) rfl rfl ?_
            refine x_callH (pc := 334) (As := [.ref x1, .int v13, .int v14, .ref x3]) (rest := []) (mL_setLetter S μ cx (6 * cx) x1 v13 v14 x3) rfl dL_law_334 q220 kL_setLetter rfl ⟨Nat.le_of_ble_eq_true rfl, Nat.le_of_ble_eq_true rfl⟩ rfl (Nat.le_of_ble_eq_true rfl) (fun r15 => ?_)
            refine x_istore (pc := 337) dL_law_337 (Nat.le_of_ble_eq_true rfl) (l' := [some (.ref 1000), some (.ref x1), some (.ref x2), some (.ref x3), some (.int x4), some (.int r15.1), d6, d7, d8]) rfl ?_
            refine x_aload_n (pc := 339) dL_law_339 (i := 2) rfl rfl ?_
            refine x_aload_n (pc := 340) dL_law_340 (i := 0) rfl rfl ?_
            refine x_iload (pc := 341) dL_law_341 rfl ?_
            refine x_iconst (pc := 343) (v := 1) dL_law_343 (by decide) ?_
            refine x_iadd (pc := 344) dL_law_344 ?_
            refine x_sld (pc := 345) (b := b) (L := L) (xs := xs) rfl dL_law_345 (fun v16 => ?_)
            refine x_aload_n (pc := 346) dL_law_346 (i := 0) rfl rfl ?_
            refine x_iload (pc := 347) dL_law_347 rfl ?_
            refine x_iconst (pc := 349) (v := 2) dL_law_349 (by decide) ?_
            refine x_iadd (pc := 350) dL_law_350 ?_
            refine x_sld (pc := 351) (b := b) (L := L) (xs := xs) rfl dL_law_351 (fun v17 => ?_)
            refine x_callVi (pc := 352) (As := [.int v16, .int v17]) (rest := []) (vx := fun a => a.1) (μf := fun a => a.2) fcX11 (mX11_setLetter S r15.2.1 (cx + r15.2.2) (6 * (cx + r15.2.2)) x2 v16 v17) (fun _ => rfl) rfl (fun _ h => ifok h) dL_law_352 q242 kX11_setLetter rfl ⟨Nat.le_of_ble_eq_true rfl, Nat.le_of_ble_eq_true rfl⟩ rfl (Nat.le_of_ble_eq_true rfl) (fun r18 => ?_)
            refine x_istore (pc := 355) dL_law_355 (Nat.le_of_ble_eq_true rfl) (l' := [some (.ref 1000), some (.ref x1), some (.ref x2), some (.ref x3), some (.int x4), some (.int r15.1), some (.int r18.1), d7, d8]) rfl ?_
            refine x_aload_n (pc := 357) dL_law_357 (i := 2) rfl rfl ?_
            refine x_callVi (pc := 358) (As := []) (rest := []) (vx := fun a => a) (μf := fun _ => r18.2) fcX11 (mX11_thrown S r18.2 (cx + r15.2.2) (6 * (cx + r15.2.2)) x2) (fun _ => rfl) rfl (fun _ h => ifok h) dL_law_358 q216 kX11_thrown rfl ⟨Nat.le_of_ble_eq_true rfl, Nat.le_of_ble_eq_true rfl⟩ rfl (Nat.le_of_ble_eq_true rfl) (fun v19 => ?_)
            refine x_iload (pc := 361) dL_law_361 rfl ?_
            refine x_icmp_eq (pc := 363) (tgt := 368) dL_law_363 (by decide) ?_ ?_
            · refine x_iload (pc := 368) dL_law_368 rfl ?_
              refine x_if_ne (pc := 370) (tgt := 385) dL_law_370 (by decide) ?_ ?_
              · refine x_aload_n (pc := 373) dL_law_373 (i := 3) rfl rfl ?_
                refine x_iconst (pc := 374) (v := 0) dL_law_374 (by decide) ?_
                refine x_ldL (pc := 375) dL_law_375 (fun v20 => ?_)
                refine x_iload (pc := 376) dL_law_376 rfl ?_
                refine x_i2l (pc := 378) dL_law_378 ?_
                refine x_lcmp (pc := 379) dL_law_379 ?_
                refine x_if_eq (pc := 380) (tgt := 385) dL_law_380 (by decide) ?_ ?_
                · exact xL_law_385 (k23 := (lL_law_23 L xs S n)) ih r18.2 (cx + r15.2.2) x1 x2 x3 x4 _ _ _ _
                · refine x_iconst (pc := 383) (v := 0) dL_law_383 (by decide) ?_
                  exact x_iret rfl dL_law_384 rfl rfl
              · exact xL_law_385 (k23 := (lL_law_23 L xs S n)) ih r18.2 (cx + r15.2.2) x1 x2 x3 x4 _ _ _ _
            · refine x_iconst (pc := 366) (v := 0) dL_law_366 (by decide) ?_
              exact x_iret rfl dL_law_367 rfl rfl
          · refine mX.ite (fun h2 => ?_) (fun h2 => ?_)
            · refine x_tableIn (pc := 39) (tgt := 388) (off := 349) dL_law_39 (by omega) (by omega) (by rw [h2]; rfl) (by decide) ?_
              refine x_aload_n (pc := 388) dL_law_388 (i := 1) rfl rfl ?_
              refine x_callVi (pc := 389) (As := []) (rest := []) (vx := fun a => a.1) (μf := fun a => a.2) fcX10 (mX10_emptyText S μ cx (6 * cx) x1) (fun _ => rfl) rfl (fun _ h => ifok h) dL_law_389 q250 kX10_emptyText rfl ⟨Nat.le_of_ble_eq_true rfl, Nat.le_of_ble_eq_true rfl⟩ rfl (Nat.le_of_ble_eq_true rfl) (fun r21 => ?_)
              refine x_aload_n (pc := 392) dL_law_392 (i := 2) rfl rfl ?_
              refine x_callVi (pc := 393) (As := []) (rest := [.int r21.1]) (vx := fun a => a.1) (μf := fun a => a.2) fcX11 (mX11_emptyText S r21.2 cx (6 * cx) x2) (fun _ => rfl) rfl (fun _ h => ifok h) dL_law_393 q258 kX11_emptyText rfl ⟨Nat.le_of_ble_eq_true rfl, Nat.le_of_ble_eq_true rfl⟩ rfl (Nat.le_of_ble_eq_true rfl) (fun r22 => ?_)
              refine x_icmp_eq (pc := 396) (tgt := 2293) dL_law_396 (by decide) ?_ ?_
              · exact xL_law_2293 (k23 := (lL_law_23 L xs S n)) ih r22.2 cx x1 x2 x3 x4 _ _ _ _
              · refine x_iconst (pc := 399) (v := 0) dL_law_399 (by decide) ?_
                exact x_iret rfl dL_law_400 rfl rfl
            · refine mX.ite (fun h3 => ?_) (fun h3 => ?_)
              · refine x_tableIn (pc := 39) (tgt := 401) (off := 362) dL_law_39 (by omega) (by omega) (by rw [h3]; rfl) (by decide) ?_
                refine x_aload_n (pc := 401) dL_law_401 (i := 1) rfl rfl ?_
                refine x_aload_n (pc := 402) dL_law_402 (i := 0) rfl rfl ?_
                refine x_iload (pc := 403) dL_law_403 rfl ?_
                refine x_iconst (pc := 405) (v := 1) dL_law_405 (by decide) ?_
                refine x_iadd (pc := 406) dL_law_406 ?_
                refine x_sld (pc := 407) (b := b) (L := L) (xs := xs) rfl dL_law_407 (fun v23 => ?_)
                refine x_aload_n (pc := 408) dL_law_408 (i := 3) rfl rfl ?_
                refine x_callH (pc := 409) (As := [.ref x1, .int v23, .ref x3]) (rest := []) (mL_setWindow S μ cx (6 * cx) x1 v23 x3) rfl dL_law_409 q270 kL_setWindow rfl ⟨Nat.le_of_ble_eq_true rfl, Nat.le_of_ble_eq_true rfl⟩ rfl (Nat.le_of_ble_eq_true rfl) (fun r24 => ?_)
                refine x_istore (pc := 412) dL_law_412 (Nat.le_of_ble_eq_true rfl) (l' := [some (.ref 1000), some (.ref x1), some (.ref x2), some (.ref x3), some (.int x4), some (.int r24.1), d6, d7, d8]) rfl ?_
                refine x_aload_n (pc := 414) dL_law_414 (i := 2) rfl rfl ?_
                refine x_aload_n (pc := 415) dL_law_415 (i := 0) rfl rfl ?_
                refine x_iload (pc := 416) dL_law_416 rfl ?_
                refine x_iconst (pc := 418) (v := 1) dL_law_418 (by decide) ?_
                refine x_iadd (pc := 419) dL_law_419 ?_
                refine x_sld (pc := 420) (b := b) (L := L) (xs := xs) rfl dL_law_420 (fun v25 => ?_)
                refine x_callVi (pc := 421) (As := [.int v25]) (rest := []) (vx := fun a => a.1) (μf := fun a => a.2) fcX11 (mX11_setWindow S r24.2.1 (cx + r24.2.2) (6 * (cx + r24.2.2)) x2 v25) (fun _ => rfl) rfl (fun _ h => ifok h) dL_law_421 q281 kX11_setWindow rfl ⟨Nat.le_of_ble_eq_true rfl, Nat.le_of_ble_eq_true rfl⟩ rfl (Nat.le_of_ble_eq_true rfl) (fun r26 => ?_)
                refine x_istore (pc := 424) dL_law_424 (Nat.le_of_ble_eq_true rfl) (l' := [some (.ref 1000), some (.ref x1), some (.ref x2), some (.ref x3), some (.int x4), some (.int r24.1), some (.int r26.1), d7, d8]) rfl ?_
                refine x_aload_n (pc := 426) dL_law_426 (i := 2) rfl rfl ?_
                refine x_callVi (pc := 427) (As := []) (rest := []) (vx := fun a => a) (μf := fun _ => r26.2) fcX11 (mX11_thrown S r26.2 (cx + r24.2.2) (6 * (cx + r24.2.2)) x2) (fun _ => rfl) rfl (fun _ h => ifok h) dL_law_427 q216 kX11_thrown rfl ⟨Nat.le_of_ble_eq_true rfl, Nat.le_of_ble_eq_true rfl⟩ rfl (Nat.le_of_ble_eq_true rfl) (fun v27 => ?_)
                refine x_iload (pc := 430) dL_law_430 rfl ?_
                refine x_icmp_eq (pc := 432) (tgt := 437) dL_law_432 (by decide) ?_ ?_
                · refine x_iload (pc := 437) dL_law_437 rfl ?_
                  refine x_if_ne (pc := 439) (tgt := 454) dL_law_439 (by decide) ?_ ?_
                  · refine x_aload_n (pc := 442) dL_law_442 (i := 3) rfl rfl ?_
                    refine x_iconst (pc := 443) (v := 0) dL_law_443 (by decide) ?_
                    refine x_ldL (pc := 444) dL_law_444 (fun v28 => ?_)
                    refine x_iload (pc := 445) dL_law_445 rfl ?_
                    refine x_i2l (pc := 447) dL_law_447 ?_
                    refine x_lcmp (pc := 448) dL_law_448 ?_
                    refine x_if_eq (pc := 449) (tgt := 454) dL_law_449 (by decide) ?_ ?_
                    · exact xL_law_454 (k23 := (lL_law_23 L xs S n)) ih r26.2 (cx + r24.2.2) x1 x2 x3 x4 _ _ _ _
                    · refine x_iconst (pc := 452) (v := 0) dL_law_452 (by decide) ?_
                      exact x_iret rfl dL_law_453 rfl rfl
                  · exact xL_law_454 (k23 := (lL_law_23 L xs S n)) ih r26.2 (cx + r24.2.2) x1 x2 x3 x4 _ _ _ _
                · refine x_iconst (pc := 435) (v := 0) dL_law_435 (by decide) ?_
                  exact x_iret rfl dL_law_436 rfl rfl
              · refine mX.ite (fun h4 => ?_) (fun h4 => ?_)
                · refine x_tableIn (pc := 39) (tgt := 457) (off := 418) dL_law_39 (by omega) (by omega) (by rw [h4]; rfl) (by decide) ?_
                  refine x_aload_n (pc := 457) dL_law_457 (i := 1) rfl rfl ?_
                  refine x_aload_n (pc := 458) dL_law_458 (i := 0) rfl rfl ?_
                  refine x_iload (pc := 459) dL_law_459 rfl ?_
                  refine x_iconst (pc := 461) (v := 1) dL_law_461 (by decide) ?_
                  refine x_iadd (pc := 462) dL_law_462 ?_
                  refine x_sld (pc := 463) (b := b) (L := L) (xs := xs) rfl dL_law_463 (fun v29 => ?_)
                  refine x_aload_n (pc := 464) dL_law_464 (i := 3) rfl rfl ?_
                  refine x_callH (pc := 465) (As := [.ref x1, .int v29, .ref x3]) (rest := []) (mL_setShortest S μ cx (6 * cx) x1 v29 x3) rfl dL_law_465 q289 kL_setShortest rfl ⟨Nat.le_of_ble_eq_true rfl, Nat.le_of_ble_eq_true rfl⟩ rfl (Nat.le_of_ble_eq_true rfl) (fun r30 => ?_)
                  refine x_istore (pc := 468) dL_law_468 (Nat.le_of_ble_eq_true rfl) (l' := [some (.ref 1000), some (.ref x1), some (.ref x2), some (.ref x3), some (.int x4), some (.int r30.1), d6, d7, d8]) rfl ?_
                  refine x_aload_n (pc := 470) dL_law_470 (i := 2) rfl rfl ?_
                  refine x_aload_n (pc := 471) dL_law_471 (i := 0) rfl rfl ?_
                  refine x_iload (pc := 472) dL_law_472 rfl ?_
                  refine x_iconst (pc := 474) (v := 1) dL_law_474 (by decide) ?_
                  refine x_iadd (pc := 475) dL_law_475 ?_
                  refine x_sld (pc := 476) (b := b) (L := L) (xs := xs) rfl dL_law_476 (fun v31 => ?_)
                  refine x_callVi (pc := 477) (As := [.int v31]) (rest := []) (vx := fun a => a.1) (μf := fun a => a.2) fcX11 (mX11_setShortest S r30.2.1 (cx + r30.2.2) (6 * (cx + r30.2.2)) x2 v31) (fun _ => rfl) rfl (fun _ h => ifok h) dL_law_477 q297 kX11_setShortest rfl ⟨Nat.le_of_ble_eq_true rfl, Nat.le_of_ble_eq_true rfl⟩ rfl (Nat.le_of_ble_eq_true rfl) (fun r32 => ?_)
                  refine x_istore (pc := 480) dL_law_480 (Nat.le_of_ble_eq_true rfl) (l' := [some (.ref 1000), some (.ref x1), some (.ref x2), some (.ref x3), some (.int x4), some (.int r30.1), some (.int r32.1), d7, d8]) rfl ?_
                  refine x_aload_n (pc := 482) dL_law_482 (i := 2) rfl rfl ?_
                  refine x_callVi (pc := 483) (As := []) (rest := []) (vx := fun a => a) (μf := fun _ => r32.2) fcX11 (mX11_thrown S r32.2 (cx + r30.2.2) (6 * (cx + r30.2.2)) x2) (fun _ => rfl) rfl (fun _ h => ifok h) dL_law_483 q216 kX11_thrown rfl ⟨Nat.le_of_ble_eq_true rfl, Nat.le_of_ble_eq_true rfl⟩ rfl (Nat.le_of_ble_eq_true rfl) (fun v33 => ?_)
                  refine x_iload (pc := 486) dL_law_486 rfl ?_
                  refine x_icmp_eq (pc := 488) (tgt := 493) dL_law_488 (by decide) ?_ ?_
                  · refine x_iload (pc := 493) dL_law_493 rfl ?_
                    refine x_if_ne (pc := 495) (tgt := 510) dL_law_495 (by decide) ?_ ?_
                    · refine x_aload_n (pc := 498) dL_law_498 (i := 3) rfl rfl ?_
                      refine x_iconst (pc := 499) (v := 0) dL_law_499 (by decide) ?_
                      refine x_ldL (pc := 500) dL_law_500 (fun v34 => ?_)
                      refine x_iload (pc := 501) dL_law_501 rfl ?_
                      refine x_i2l (pc := 503) dL_law_503 ?_
                      refine x_lcmp (pc := 504) dL_law_504 ?_
                      refine x_if_eq (pc := 505) (tgt := 510) dL_law_505 (by decide) ?_ ?_
                      · exact xL_law_510 (k23 := (lL_law_23 L xs S n)) ih r32.2 (cx + r30.2.2) x1 x2 x3 x4 _ _ _ _
                      · refine x_iconst (pc := 508) (v := 0) dL_law_508 (by decide) ?_
                        exact x_iret rfl dL_law_509 rfl rfl
                    · exact xL_law_510 (k23 := (lL_law_23 L xs S n)) ih r32.2 (cx + r30.2.2) x1 x2 x3 x4 _ _ _ _
                  · refine x_iconst (pc := 491) (v := 0) dL_law_491 (by decide) ?_
                    exact x_iret rfl dL_law_492 rfl rfl
                · refine mX.ite (fun h5 => ?_) (fun h5 => ?_)
                  · refine x_tableIn (pc := 39) (tgt := 513) (off := 474) dL_law_39 (by omega) (by omega) (by rw [h5]; rfl) (by decide) ?_
                    refine x_aload_n (pc := 513) dL_law_513 (i := 1) rfl rfl ?_
                    refine x_aload_n (pc := 514) dL_law_514 (i := 0) rfl rfl ?_
                    refine x_iload (pc := 515) dL_law_515 rfl ?_
                    refine x_iconst (pc := 517) (v := 1) dL_law_517 (by decide) ?_
                    refine x_iadd (pc := 518) dL_law_518 ?_
                    refine x_sld (pc := 519) (b := b) (L := L) (xs := xs) rfl dL_law_519 (fun v35 => ?_)
                    refine x_aload_n (pc := 520) dL_law_520 (i := 3) rfl rfl ?_
                    refine x_callH (pc := 521) (As := [.ref x1, .int v35, .ref x3]) (rest := []) (mL_setLongest S μ cx (6 * cx) x1 v35 x3) rfl dL_law_521 q301 kL_setLongest rfl ⟨Nat.le_of_ble_eq_true rfl, Nat.le_of_ble_eq_true rfl⟩ rfl (Nat.le_of_ble_eq_true rfl) (fun r36 => ?_)
                    refine x_istore (pc := 524) dL_law_524 (Nat.le_of_ble_eq_true rfl) (l' := [some (.ref 1000), some (.ref x1), some (.ref x2), some (.ref x3), some (.int x4), some (.int r36.1), d6, d7, d8]) rfl ?_
                    refine x_aload_n (pc := 526) dL_law_526 (i := 2) rfl rfl ?_
                    refine x_aload_n (pc := 527) dL_law_527 (i := 0) rfl rfl ?_
                    refine x_iload (pc := 528) dL_law_528 rfl ?_
                    refine x_iconst (pc := 530) (v := 1) dL_law_530 (by decide) ?_
                    refine x_iadd (pc := 531) dL_law_531 ?_
                    refine x_sld (pc := 532) (b := b) (L := L) (xs := xs) rfl dL_law_532 (fun v37 => ?_)
                    refine x_callVi (pc := 533) (As := [.int v37]) (rest := []) (vx := fun a => a.1) (μf := fun a => a.2) fcX11 (mX11_setLongest S r36.2.1 (cx + r36.2.2) (6 * (cx + r36.2.2)) x2 v37) (fun _ => rfl) rfl (fun _ h => ifok h) dL_law_533 q309 kX11_setLongest rfl ⟨Nat.le_of_ble_eq_true rfl, Nat.le_of_ble_eq_true rfl⟩ rfl (Nat.le_of_ble_eq_true rfl) (fun r38 => ?_)
                    refine x_istore (pc := 536) dL_law_536 (Nat.le_of_ble_eq_true rfl) (l' := [some (.ref 1000), some (.ref x1), some (.ref x2), some (.ref x3), some (.int x4), some (.int r36.1), some (.int r38.1), d7, d8]) rfl ?_
                    refine x_aload_n (pc := 538) dL_law_538 (i := 2) rfl rfl ?_
                    refine x_callVi (pc := 539) (As := []) (rest := []) (vx := fun a => a) (μf := fun _ => r38.2) fcX11 (mX11_thrown S r38.2 (cx + r36.2.2) (6 * (cx + r36.2.2)) x2) (fun _ => rfl) rfl (fun _ h => ifok h) dL_law_539 q216 kX11_thrown rfl ⟨Nat.le_of_ble_eq_true rfl, Nat.le_of_ble_eq_true rfl⟩ rfl (Nat.le_of_ble_eq_true rfl) (fun v39 => ?_)
                    refine x_iload (pc := 542) dL_law_542 rfl ?_
                    refine x_icmp_eq (pc := 544) (tgt := 549) dL_law_544 (by decide) ?_ ?_
                    · refine x_iload (pc := 549) dL_law_549 rfl ?_
                      refine x_if_ne (pc := 551) (tgt := 566) dL_law_551 (by decide) ?_ ?_
                      · refine x_aload_n (pc := 554) dL_law_554 (i := 3) rfl rfl ?_
                        refine x_iconst (pc := 555) (v := 0) dL_law_555 (by decide) ?_
                        refine x_ldL (pc := 556) dL_law_556 (fun v40 => ?_)
                        refine x_iload (pc := 557) dL_law_557 rfl ?_
                        refine x_i2l (pc := 559) dL_law_559 ?_
                        refine x_lcmp (pc := 560) dL_law_560 ?_
                        refine x_if_eq (pc := 561) (tgt := 566) dL_law_561 (by decide) ?_ ?_
                        · exact xL_law_566 (k23 := (lL_law_23 L xs S n)) ih r38.2 (cx + r36.2.2) x1 x2 x3 x4 _ _ _ _
                        · refine x_iconst (pc := 564) (v := 0) dL_law_564 (by decide) ?_
                          exact x_iret rfl dL_law_565 rfl rfl
                      · exact xL_law_566 (k23 := (lL_law_23 L xs S n)) ih r38.2 (cx + r36.2.2) x1 x2 x3 x4 _ _ _ _
                    · refine x_iconst (pc := 547) (v := 0) dL_law_547 (by decide) ?_
                      exact x_iret rfl dL_law_548 rfl rfl
                  · refine mX.ite (fun h6 => ?_) (fun h6 => ?_)
                    · refine x_tableIn (pc := 39) (tgt := 569) (off := 530) dL_law_39 (by omega) (by omega) (by rw [h6]; rfl) (by decide) ?_
                      refine x_aload_n (pc := 569) dL_law_569 (i := 1) rfl rfl ?_
                      refine x_aload_n (pc := 570) dL_law_570 (i := 0) rfl rfl ?_
                      refine x_iload (pc := 571) dL_law_571 rfl ?_
                      refine x_iconst (pc := 573) (v := 1) dL_law_573 (by decide) ?_
                      refine x_iadd (pc := 574) dL_law_574 ?_
                      refine x_sld (pc := 575) (b := b) (L := L) (xs := xs) rfl dL_law_575 (fun v41 => ?_)
                      refine x_aload_n (pc := 576) dL_law_576 (i := 3) rfl rfl ?_
                      refine x_callH (pc := 577) (As := [.ref x1, .int v41, .ref x3]) (rest := []) (mL_setLetterPrice S μ cx (6 * cx) x1 v41 x3) rfl dL_law_577 q313 kL_setLetterPrice rfl ⟨Nat.le_of_ble_eq_true rfl, Nat.le_of_ble_eq_true rfl⟩ rfl (Nat.le_of_ble_eq_true rfl) (fun r42 => ?_)
                      refine x_istore (pc := 580) dL_law_580 (Nat.le_of_ble_eq_true rfl) (l' := [some (.ref 1000), some (.ref x1), some (.ref x2), some (.ref x3), some (.int x4), some (.int r42.1), d6, d7, d8]) rfl ?_
                      refine x_aload_n (pc := 582) dL_law_582 (i := 2) rfl rfl ?_
                      refine x_aload_n (pc := 583) dL_law_583 (i := 0) rfl rfl ?_
                      refine x_iload (pc := 584) dL_law_584 rfl ?_
                      refine x_iconst (pc := 586) (v := 1) dL_law_586 (by decide) ?_
                      refine x_iadd (pc := 587) dL_law_587 ?_
                      refine x_sld (pc := 588) (b := b) (L := L) (xs := xs) rfl dL_law_588 (fun v43 => ?_)
                      refine x_callVi (pc := 589) (As := [.int v43]) (rest := []) (vx := fun a => a.1) (μf := fun a => a.2) fcX11 (mX11_setLetterPrice S r42.2.1 (cx + r42.2.2) (6 * (cx + r42.2.2)) x2 v43) (fun _ => rfl) rfl (fun _ h => ifok h) dL_law_589 q321 kX11_setLetterPrice rfl ⟨Nat.le_of_ble_eq_true rfl, Nat.le_of_ble_eq_true rfl⟩ rfl (Nat.le_of_ble_eq_true rfl) (fun r44 => ?_)
                      refine x_istore (pc := 592) dL_law_592 (Nat.le_of_ble_eq_true rfl) (l' := [some (.ref 1000), some (.ref x1), some (.ref x2), some (.ref x3), some (.int x4), some (.int r42.1), some (.int r44.1), d7, d8]) rfl ?_
                      refine x_aload_n (pc := 594) dL_law_594 (i := 2) rfl rfl ?_
                      refine x_callVi (pc := 595) (As := []) (rest := []) (vx := fun a => a) (μf := fun _ => r44.2) fcX11 (mX11_thrown S r44.2 (cx + r42.2.2) (6 * (cx + r42.2.2)) x2) (fun _ => rfl) rfl (fun _ h => ifok h) dL_law_595 q216 kX11_thrown rfl ⟨Nat.le_of_ble_eq_true rfl, Nat.le_of_ble_eq_true rfl⟩ rfl (Nat.le_of_ble_eq_true rfl) (fun v45 => ?_)
                      refine x_iload (pc := 598) dL_law_598 rfl ?_
                      refine x_icmp_eq (pc := 600) (tgt := 605) dL_law_600 (by decide) ?_ ?_
                      · refine x_iload (pc := 605) dL_law_605 rfl ?_
                        refine x_if_ne (pc := 607) (tgt := 622) dL_law_607 (by decide) ?_ ?_
                        · refine x_aload_n (pc := 610) dL_law_610 (i := 3) rfl rfl ?_
                          refine x_iconst (pc := 611) (v := 0) dL_law_611 (by decide) ?_
                          refine x_ldL (pc := 612) dL_law_612 (fun v46 => ?_)
                          refine x_iload (pc := 613) dL_law_613 rfl ?_
                          refine x_i2l (pc := 615) dL_law_615 ?_
                          refine x_lcmp (pc := 616) dL_law_616 ?_
                          refine x_if_eq (pc := 617) (tgt := 622) dL_law_617 (by decide) ?_ ?_
                          · exact xL_law_622 (k23 := (lL_law_23 L xs S n)) ih r44.2 (cx + r42.2.2) x1 x2 x3 x4 _ _ _ _
                          · refine x_iconst (pc := 620) (v := 0) dL_law_620 (by decide) ?_
                            exact x_iret rfl dL_law_621 rfl rfl
                        · exact xL_law_622 (k23 := (lL_law_23 L xs S n)) ih r44.2 (cx + r42.2.2) x1 x2 x3 x4 _ _ _ _
                      · refine x_iconst (pc := 603) (v := 0) dL_law_603 (by decide) ?_
                        exact x_iret rfl dL_law_604 rfl rfl
                    · refine mX.ite (fun h7 => ?_) (fun h7 => ?_)
                      · refine x_tableIn (pc := 39) (tgt := 625) (off := 586) dL_law_39 (by omega) (by omega) (by rw [h7]; rfl) (by decide) ?_
                        refine x_aload_n (pc := 625) dL_law_625 (i := 1) rfl rfl ?_
                        refine x_aload_n (pc := 626) dL_law_626 (i := 0) rfl rfl ?_
                        refine x_iload (pc := 627) dL_law_627 rfl ?_
                        refine x_iconst (pc := 629) (v := 1) dL_law_629 (by decide) ?_
                        refine x_iadd (pc := 630) dL_law_630 ?_
                        refine x_sld (pc := 631) (b := b) (L := L) (xs := xs) rfl dL_law_631 (fun v47 => ?_)
                        refine x_aload_n (pc := 632) dL_law_632 (i := 3) rfl rfl ?_
                        refine x_callH (pc := 633) (As := [.ref x1, .int v47, .ref x3]) (rest := []) (mL_setRepeatPrice S μ cx (6 * cx) x1 v47 x3) rfl dL_law_633 q325 kL_setRepeatPrice rfl ⟨Nat.le_of_ble_eq_true rfl, Nat.le_of_ble_eq_true rfl⟩ rfl (Nat.le_of_ble_eq_true rfl) (fun r48 => ?_)
                        refine x_istore (pc := 636) dL_law_636 (Nat.le_of_ble_eq_true rfl) (l' := [some (.ref 1000), some (.ref x1), some (.ref x2), some (.ref x3), some (.int x4), some (.int r48.1), d6, d7, d8]) rfl ?_
                        refine x_aload_n (pc := 638) dL_law_638 (i := 2) rfl rfl ?_
                        refine x_aload_n (pc := 639) dL_law_639 (i := 0) rfl rfl ?_
                        refine x_iload (pc := 640) dL_law_640 rfl ?_
                        refine x_iconst (pc := 642) (v := 1) dL_law_642 (by decide) ?_
                        refine x_iadd (pc := 643) dL_law_643 ?_
                        refine x_sld (pc := 644) (b := b) (L := L) (xs := xs) rfl dL_law_644 (fun v49 => ?_)
                        refine x_callVi (pc := 645) (As := [.int v49]) (rest := []) (vx := fun a => a.1) (μf := fun a => a.2) fcX11 (mX11_setRepeatPrice S r48.2.1 (cx + r48.2.2) (6 * (cx + r48.2.2)) x2 v49) (fun _ => rfl) rfl (fun _ h => ifok h) dL_law_645 q333 kX11_setRepeatPrice rfl ⟨Nat.le_of_ble_eq_true rfl, Nat.le_of_ble_eq_true rfl⟩ rfl (Nat.le_of_ble_eq_true rfl) (fun r50 => ?_)
                        refine x_istore (pc := 648) dL_law_648 (Nat.le_of_ble_eq_true rfl) (l' := [some (.ref 1000), some (.ref x1), some (.ref x2), some (.ref x3), some (.int x4), some (.int r48.1), some (.int r50.1), d7, d8]) rfl ?_
                        refine x_aload_n (pc := 650) dL_law_650 (i := 2) rfl rfl ?_
                        refine x_callVi (pc := 651) (As := []) (rest := []) (vx := fun a => a) (μf := fun _ => r50.2) fcX11 (mX11_thrown S r50.2 (cx + r48.2.2) (6 * (cx + r48.2.2)) x2) (fun _ => rfl) rfl (fun _ h => ifok h) dL_law_651 q216 kX11_thrown rfl ⟨Nat.le_of_ble_eq_true rfl, Nat.le_of_ble_eq_true rfl⟩ rfl (Nat.le_of_ble_eq_true rfl) (fun v51 => ?_)
                        refine x_iload (pc := 654) dL_law_654 rfl ?_
                        refine x_icmp_eq (pc := 656) (tgt := 661) dL_law_656 (by decide) ?_ ?_
                        · refine x_iload (pc := 661) dL_law_661 rfl ?_
                          refine x_if_ne (pc := 663) (tgt := 678) dL_law_663 (by decide) ?_ ?_
                          · refine x_aload_n (pc := 666) dL_law_666 (i := 3) rfl rfl ?_
                            refine x_iconst (pc := 667) (v := 0) dL_law_667 (by decide) ?_
                            refine x_ldL (pc := 668) dL_law_668 (fun v52 => ?_)
                            refine x_iload (pc := 669) dL_law_669 rfl ?_
                            refine x_i2l (pc := 671) dL_law_671 ?_
                            refine x_lcmp (pc := 672) dL_law_672 ?_
                            refine x_if_eq (pc := 673) (tgt := 678) dL_law_673 (by decide) ?_ ?_
                            · exact xL_law_678 (k23 := (lL_law_23 L xs S n)) ih r50.2 (cx + r48.2.2) x1 x2 x3 x4 _ _ _ _
                            · refine x_iconst (pc := 676) (v := 0) dL_law_676 (by decide) ?_
                              exact x_iret rfl dL_law_677 rfl rfl
                          · exact xL_law_678 (k23 := (lL_law_23 L xs S n)) ih r50.2 (cx + r48.2.2) x1 x2 x3 x4 _ _ _ _
                        · refine x_iconst (pc := 659) (v := 0) dL_law_659 (by decide) ?_
                          exact x_iret rfl dL_law_660 rfl rfl
                      · refine mX.ite (fun h8 => ?_) (fun h8 => ?_)
                        · refine x_tableIn (pc := 39) (tgt := 681) (off := 642) dL_law_39 (by omega) (by omega) (by rw [h8]; rfl) (by decide) ?_
                          refine x_aload_n (pc := 681) dL_law_681 (i := 1) rfl rfl ?_
                          refine x_aload_n (pc := 682) dL_law_682 (i := 0) rfl rfl ?_
                          refine x_iload (pc := 683) dL_law_683 rfl ?_
                          refine x_iconst (pc := 685) (v := 1) dL_law_685 (by decide) ?_
                          refine x_iadd (pc := 686) dL_law_686 ?_
                          refine x_sld (pc := 687) (b := b) (L := L) (xs := xs) rfl dL_law_687 (fun v53 => ?_)
                          refine x_aload_n (pc := 688) dL_law_688 (i := 3) rfl rfl ?_
                          refine x_callH (pc := 689) (As := [.ref x1, .int v53, .ref x3]) (rest := []) (mL_pack S μ cx (6 * cx) x1 v53 x3) rfl dL_law_689 q337 kL_pack rfl ⟨Nat.le_of_ble_eq_true rfl, Nat.le_of_ble_eq_true rfl⟩ rfl (Nat.le_of_ble_eq_true rfl) (fun r54 => ?_)
                          refine x_istore (pc := 692) dL_law_692 (Nat.le_of_ble_eq_true rfl) (l' := [some (.ref 1000), some (.ref x1), some (.ref x2), some (.ref x3), some (.int x4), some (.int r54.1), d6, d7, d8]) rfl ?_
                          refine x_aload_n (pc := 694) dL_law_694 (i := 2) rfl rfl ?_
                          refine x_aload_n (pc := 695) dL_law_695 (i := 0) rfl rfl ?_
                          refine x_iload (pc := 696) dL_law_696 rfl ?_
                          refine x_iconst (pc := 698) (v := 1) dL_law_698 (by decide) ?_
                          refine x_iadd (pc := 699) dL_law_699 ?_
                          refine x_sld (pc := 700) (b := b) (L := L) (xs := xs) rfl dL_law_700 (fun v55 => ?_)
                          refine x_callVi (pc := 701) (As := [.int v55]) (rest := []) (vx := fun a => a.1) (μf := fun a => a.2) fcX11 (mX11_pack S r54.2.1 (cx + r54.2.2) (6 * (cx + r54.2.2)) x2 v55) (fun _ => rfl) rfl (fun _ h => ifok h) dL_law_701 q419 kX11_pack rfl ⟨Nat.le_of_ble_eq_true rfl, Nat.le_of_ble_eq_true rfl⟩ rfl (Nat.le_of_ble_eq_true rfl) (fun r56 => ?_)
                          refine x_istore (pc := 704) dL_law_704 (Nat.le_of_ble_eq_true rfl) (l' := [some (.ref 1000), some (.ref x1), some (.ref x2), some (.ref x3), some (.int x4), some (.int r54.1), some (.int r56.1), d7, d8]) rfl ?_
                          refine x_aload_n (pc := 706) dL_law_706 (i := 2) rfl rfl ?_
                          refine x_callVi (pc := 707) (As := []) (rest := []) (vx := fun a => a) (μf := fun _ => r56.2) fcX11 (mX11_thrown S r56.2 (cx + r54.2.2) (6 * (cx + r54.2.2)) x2) (fun _ => rfl) rfl (fun _ h => ifok h) dL_law_707 q216 kX11_thrown rfl ⟨Nat.le_of_ble_eq_true rfl, Nat.le_of_ble_eq_true rfl⟩ rfl (Nat.le_of_ble_eq_true rfl) (fun v57 => ?_)
                          refine x_iload (pc := 710) dL_law_710 rfl ?_
                          refine x_icmp_eq (pc := 712) (tgt := 717) dL_law_712 (by decide) ?_ ?_
                          · refine x_iload (pc := 717) dL_law_717 rfl ?_
                            refine x_if_ne (pc := 719) (tgt := 734) dL_law_719 (by decide) ?_ ?_
                            · refine x_aload_n (pc := 722) dL_law_722 (i := 3) rfl rfl ?_
                              refine x_iconst (pc := 723) (v := 0) dL_law_723 (by decide) ?_
                              refine x_ldL (pc := 724) dL_law_724 (fun v58 => ?_)
                              refine x_iload (pc := 725) dL_law_725 rfl ?_
                              refine x_i2l (pc := 727) dL_law_727 ?_
                              refine x_lcmp (pc := 728) dL_law_728 ?_
                              refine x_if_eq (pc := 729) (tgt := 734) dL_law_729 (by decide) ?_ ?_
                              · exact xL_law_734 (k23 := (lL_law_23 L xs S n)) ih r56.2 (cx + r54.2.2) x1 x2 x3 x4 _ _ _ _
                              · refine x_iconst (pc := 732) (v := 0) dL_law_732 (by decide) ?_
                                exact x_iret rfl dL_law_733 rfl rfl
                            · exact xL_law_734 (k23 := (lL_law_23 L xs S n)) ih r56.2 (cx + r54.2.2) x1 x2 x3 x4 _ _ _ _
                          · refine x_iconst (pc := 715) (v := 0) dL_law_715 (by decide) ?_
                            exact x_iret rfl dL_law_716 rfl rfl
                        · refine mX.ite (fun h9 => ?_) (fun h9 => ?_)
                          · refine x_tableIn (pc := 39) (tgt := 737) (off := 698) dL_law_39 (by omega) (by omega) (by rw [h9]; rfl) (by decide) ?_
                            refine x_aload_n (pc := 737) dL_law_737 (i := 1) rfl rfl ?_
                            refine x_aload_n (pc := 738) dL_law_738 (i := 3) rfl rfl ?_
                            refine x_callH (pc := 739) (As := [.ref x1, .ref x3]) (rest := []) (mL_unpack S μ cx (6 * cx) x1 x3) rfl dL_law_739 q452 kL_unpack rfl ⟨Nat.le_of_ble_eq_true rfl, Nat.le_of_ble_eq_true rfl⟩ rfl (Nat.le_of_ble_eq_true rfl) (fun r59 => ?_)
                            refine x_istore (pc := 742) dL_law_742 (Nat.le_of_ble_eq_true rfl) (l' := [some (.ref 1000), some (.ref x1), some (.ref x2), some (.ref x3), some (.int x4), some (.int r59.1), d6, d7, d8]) rfl ?_
                            refine x_aload_n (pc := 744) dL_law_744 (i := 2) rfl rfl ?_
                            refine x_callVi (pc := 745) (As := []) (rest := []) (vx := fun a => a.1) (μf := fun a => a.2) fcX11 (mX11_unpack S r59.2.1 (cx + r59.2.2) (6 * (cx + r59.2.2)) x2) (fun _ => rfl) rfl (fun _ h => ifok h) dL_law_745 q485 kX11_unpack rfl ⟨Nat.le_of_ble_eq_true rfl, Nat.le_of_ble_eq_true rfl⟩ rfl (Nat.le_of_ble_eq_true rfl) (fun r60 => ?_)
                            refine x_istore (pc := 748) dL_law_748 (Nat.le_of_ble_eq_true rfl) (l' := [some (.ref 1000), some (.ref x1), some (.ref x2), some (.ref x3), some (.int x4), some (.int r59.1), some (.int r60.1), d7, d8]) rfl ?_
                            refine x_aload_n (pc := 750) dL_law_750 (i := 2) rfl rfl ?_
                            refine x_callVi (pc := 751) (As := []) (rest := []) (vx := fun a => a) (μf := fun _ => r60.2) fcX11 (mX11_thrown S r60.2 (cx + r59.2.2) (6 * (cx + r59.2.2)) x2) (fun _ => rfl) rfl (fun _ h => ifok h) dL_law_751 q216 kX11_thrown rfl ⟨Nat.le_of_ble_eq_true rfl, Nat.le_of_ble_eq_true rfl⟩ rfl (Nat.le_of_ble_eq_true rfl) (fun v61 => ?_)
                            refine x_iload (pc := 754) dL_law_754 rfl ?_
                            refine x_icmp_eq (pc := 756) (tgt := 761) dL_law_756 (by decide) ?_ ?_
                            · refine x_iload (pc := 761) dL_law_761 rfl ?_
                              refine x_if_ne (pc := 763) (tgt := 778) dL_law_763 (by decide) ?_ ?_
                              · refine x_aload_n (pc := 766) dL_law_766 (i := 3) rfl rfl ?_
                                refine x_iconst (pc := 767) (v := 0) dL_law_767 (by decide) ?_
                                refine x_ldL (pc := 768) dL_law_768 (fun v62 => ?_)
                                refine x_iload (pc := 769) dL_law_769 rfl ?_
                                refine x_i2l (pc := 771) dL_law_771 ?_
                                refine x_lcmp (pc := 772) dL_law_772 ?_
                                refine x_if_eq (pc := 773) (tgt := 778) dL_law_773 (by decide) ?_ ?_
                                · exact xL_law_778 (k23 := (lL_law_23 L xs S n)) ih r60.2 (cx + r59.2.2) x1 x2 x3 x4 _ _ _ _
                                · refine x_iconst (pc := 776) (v := 0) dL_law_776 (by decide) ?_
                                  exact x_iret rfl dL_law_777 rfl rfl
                              · exact xL_law_778 (k23 := (lL_law_23 L xs S n)) ih r60.2 (cx + r59.2.2) x1 x2 x3 x4 _ _ _ _
                            · refine x_iconst (pc := 759) (v := 0) dL_law_759 (by decide) ?_
                              exact x_iret rfl dL_law_760 rfl rfl
                          · refine mX.ite (fun h10 => ?_) (fun h10 => ?_)
                            · refine x_tableIn (pc := 39) (tgt := 781) (off := 742) dL_law_39 (by omega) (by omega) (by rw [h10]; rfl) (by decide) ?_
                              refine x_aload_n (pc := 781) dL_law_781 (i := 1) rfl rfl ?_
                              refine x_aload_n (pc := 782) dL_law_782 (i := 0) rfl rfl ?_
                              refine x_iload (pc := 783) dL_law_783 rfl ?_
                              refine x_iconst (pc := 785) (v := 1) dL_law_785 (by decide) ?_
                              refine x_iadd (pc := 786) dL_law_786 ?_
                              refine x_sld (pc := 787) (b := b) (L := L) (xs := xs) rfl dL_law_787 (fun v63 => ?_)
                              refine x_aload_n (pc := 788) dL_law_788 (i := 3) rfl rfl ?_
                              refine x_callH (pc := 789) (As := [.ref x1, .int v63, .ref x3]) (rest := []) (mL_addToken S μ cx (6 * cx) x1 v63 x3) rfl dL_law_789 q508 kL_addToken rfl ⟨Nat.le_of_ble_eq_true rfl, Nat.le_of_ble_eq_true rfl⟩ rfl (Nat.le_of_ble_eq_true rfl) (fun r64 => ?_)
                              refine x_istore (pc := 792) dL_law_792 (Nat.le_of_ble_eq_true rfl) (l' := [some (.ref 1000), some (.ref x1), some (.ref x2), some (.ref x3), some (.int x4), some (.int r64.1), d6, d7, d8]) rfl ?_
                              refine x_aload_n (pc := 794) dL_law_794 (i := 2) rfl rfl ?_
                              refine x_aload_n (pc := 795) dL_law_795 (i := 0) rfl rfl ?_
                              refine x_iload (pc := 796) dL_law_796 rfl ?_
                              refine x_iconst (pc := 798) (v := 1) dL_law_798 (by decide) ?_
                              refine x_iadd (pc := 799) dL_law_799 ?_
                              refine x_sld (pc := 800) (b := b) (L := L) (xs := xs) rfl dL_law_800 (fun v65 => ?_)
                              refine x_callVi (pc := 801) (As := [.int v65]) (rest := []) (vx := fun a => a.1) (μf := fun a => a.2) fcX11 (mX11_addToken S r64.2.1 (cx + r64.2.2) (6 * (cx + r64.2.2)) x2 v65) (fun _ => rfl) rfl (fun _ h => ifok h) dL_law_801 q520 kX11_addToken rfl ⟨Nat.le_of_ble_eq_true rfl, Nat.le_of_ble_eq_true rfl⟩ rfl (Nat.le_of_ble_eq_true rfl) (fun r66 => ?_)
                              refine x_istore (pc := 804) dL_law_804 (Nat.le_of_ble_eq_true rfl) (l' := [some (.ref 1000), some (.ref x1), some (.ref x2), some (.ref x3), some (.int x4), some (.int r64.1), some (.int r66.1), d7, d8]) rfl ?_
                              refine x_aload_n (pc := 806) dL_law_806 (i := 2) rfl rfl ?_
                              refine x_callVi (pc := 807) (As := []) (rest := []) (vx := fun a => a) (μf := fun _ => r66.2) fcX11 (mX11_thrown S r66.2 (cx + r64.2.2) (6 * (cx + r64.2.2)) x2) (fun _ => rfl) rfl (fun _ h => ifok h) dL_law_807 q216 kX11_thrown rfl ⟨Nat.le_of_ble_eq_true rfl, Nat.le_of_ble_eq_true rfl⟩ rfl (Nat.le_of_ble_eq_true rfl) (fun v67 => ?_)
                              refine x_iload (pc := 810) dL_law_810 rfl ?_
                              refine x_icmp_eq (pc := 812) (tgt := 817) dL_law_812 (by decide) ?_ ?_
                              · refine x_iload (pc := 817) dL_law_817 rfl ?_
                                refine x_if_ne (pc := 819) (tgt := 834) dL_law_819 (by decide) ?_ ?_
                                · refine x_aload_n (pc := 822) dL_law_822 (i := 3) rfl rfl ?_
                                  refine x_iconst (pc := 823) (v := 0) dL_law_823 (by decide) ?_
                                  refine x_ldL (pc := 824) dL_law_824 (fun v68 => ?_)
                                  refine x_iload (pc := 825) dL_law_825 rfl ?_
                                  refine x_i2l (pc := 827) dL_law_827 ?_
                                  refine x_lcmp (pc := 828) dL_law_828 ?_
                                  refine x_if_eq (pc := 829) (tgt := 834) dL_law_829 (by decide) ?_ ?_
                                  · exact xL_law_834 (k23 := (lL_law_23 L xs S n)) ih r66.2 (cx + r64.2.2) x1 x2 x3 x4 _ _ _ _
                                  · refine x_iconst (pc := 832) (v := 0) dL_law_832 (by decide) ?_
                                    exact x_iret rfl dL_law_833 rfl rfl
                                · exact xL_law_834 (k23 := (lL_law_23 L xs S n)) ih r66.2 (cx + r64.2.2) x1 x2 x3 x4 _ _ _ _
                              · refine x_iconst (pc := 815) (v := 0) dL_law_815 (by decide) ?_
                                exact x_iret rfl dL_law_816 rfl rfl
                            · refine mX.ite (fun h11 => ?_) (fun h11 => ?_)
                              · refine x_tableIn (pc := 39) (tgt := 837) (off := 798) dL_law_39 (by omega) (by omega) (by rw [h11]; rfl) (by decide) ?_
                                refine x_aload_n (pc := 837) dL_law_837 (i := 1) rfl rfl ?_
                                refine x_aload_n (pc := 838) dL_law_838 (i := 0) rfl rfl ?_
                                refine x_iload (pc := 839) dL_law_839 rfl ?_
                                refine x_iconst (pc := 841) (v := 1) dL_law_841 (by decide) ?_
                                refine x_iadd (pc := 842) dL_law_842 ?_
                                refine x_sld (pc := 843) (b := b) (L := L) (xs := xs) rfl dL_law_843 (fun v69 => ?_)
                                refine x_aload_n (pc := 844) dL_law_844 (i := 0) rfl rfl ?_
                                refine x_iload (pc := 845) dL_law_845 rfl ?_
                                refine x_iconst (pc := 847) (v := 2) dL_law_847 (by decide) ?_
                                refine x_iadd (pc := 848) dL_law_848 ?_
                                refine x_sld (pc := 849) (b := b) (L := L) (xs := xs) rfl dL_law_849 (fun v70 => ?_)
                                refine x_aload_n (pc := 850) dL_law_850 (i := 3) rfl rfl ?_
                                refine x_callH (pc := 851) (As := [.ref x1, .int v69, .int v70, .ref x3]) (rest := []) (mL_addRepeat S μ cx (6 * cx) x1 v69 v70 x3) rfl dL_law_851 q528 kL_addRepeat rfl ⟨Nat.le_of_ble_eq_true rfl, Nat.le_of_ble_eq_true rfl⟩ rfl (Nat.le_of_ble_eq_true rfl) (fun r71 => ?_)
                                refine x_istore (pc := 854) dL_law_854 (Nat.le_of_ble_eq_true rfl) (l' := [some (.ref 1000), some (.ref x1), some (.ref x2), some (.ref x3), some (.int x4), some (.int r71.1), d6, d7, d8]) rfl ?_
                                refine x_aload_n (pc := 856) dL_law_856 (i := 2) rfl rfl ?_
                                refine x_aload_n (pc := 857) dL_law_857 (i := 0) rfl rfl ?_
                                refine x_iload (pc := 858) dL_law_858 rfl ?_
                                refine x_iconst (pc := 860) (v := 1) dL_law_860 (by decide) ?_
                                refine x_iadd (pc := 861) dL_law_861 ?_
                                refine x_sld (pc := 862) (b := b) (L := L) (xs := xs) rfl dL_law_862 (fun v72 => ?_)
                                refine x_aload_n (pc := 863) dL_law_863 (i := 0) rfl rfl ?_
                                refine x_iload (pc := 864) dL_law_864 rfl ?_
                                refine x_iconst (pc := 866) (v := 2) dL_law_866 (by decide) ?_
                                refine x_iadd (pc := 867) dL_law_867 ?_
                                refine x_sld (pc := 868) (b := b) (L := L) (xs := xs) rfl dL_law_868 (fun v73 => ?_)
                                refine x_callVi (pc := 869) (As := [.int v72, .int v73]) (rest := []) (vx := fun a => a.1) (μf := fun a => a.2) fcX11 (mX11_addRepeat S r71.2.1 (cx + r71.2.2) (6 * (cx + r71.2.2)) x2 v72 v73) (fun _ => rfl) rfl (fun _ h => ifok h) dL_law_869 q535 kX11_addRepeat rfl ⟨Nat.le_of_ble_eq_true rfl, Nat.le_of_ble_eq_true rfl⟩ rfl (Nat.le_of_ble_eq_true rfl) (fun r74 => ?_)
                                refine x_istore (pc := 872) dL_law_872 (Nat.le_of_ble_eq_true rfl) (l' := [some (.ref 1000), some (.ref x1), some (.ref x2), some (.ref x3), some (.int x4), some (.int r71.1), some (.int r74.1), d7, d8]) rfl ?_
                                refine x_aload_n (pc := 874) dL_law_874 (i := 2) rfl rfl ?_
                                refine x_callVi (pc := 875) (As := []) (rest := []) (vx := fun a => a) (μf := fun _ => r74.2) fcX11 (mX11_thrown S r74.2 (cx + r71.2.2) (6 * (cx + r71.2.2)) x2) (fun _ => rfl) rfl (fun _ h => ifok h) dL_law_875 q216 kX11_thrown rfl ⟨Nat.le_of_ble_eq_true rfl, Nat.le_of_ble_eq_true rfl⟩ rfl (Nat.le_of_ble_eq_true rfl) (fun v75 => ?_)
                                refine x_iload (pc := 878) dL_law_878 rfl ?_
                                refine x_icmp_eq (pc := 880) (tgt := 885) dL_law_880 (by decide) ?_ ?_
                                · refine x_iload (pc := 885) dL_law_885 rfl ?_
                                  refine x_if_ne (pc := 887) (tgt := 902) dL_law_887 (by decide) ?_ ?_
                                  · refine x_aload_n (pc := 890) dL_law_890 (i := 3) rfl rfl ?_
                                    refine x_iconst (pc := 891) (v := 0) dL_law_891 (by decide) ?_
                                    refine x_ldL (pc := 892) dL_law_892 (fun v76 => ?_)
                                    refine x_iload (pc := 893) dL_law_893 rfl ?_
                                    refine x_i2l (pc := 895) dL_law_895 ?_
                                    refine x_lcmp (pc := 896) dL_law_896 ?_
                                    refine x_if_eq (pc := 897) (tgt := 902) dL_law_897 (by decide) ?_ ?_
                                    · exact xL_law_902 (k23 := (lL_law_23 L xs S n)) ih r74.2 (cx + r71.2.2) x1 x2 x3 x4 _ _ _ _
                                    · refine x_iconst (pc := 900) (v := 0) dL_law_900 (by decide) ?_
                                      exact x_iret rfl dL_law_901 rfl rfl
                                  · exact xL_law_902 (k23 := (lL_law_23 L xs S n)) ih r74.2 (cx + r71.2.2) x1 x2 x3 x4 _ _ _ _
                                · refine x_iconst (pc := 883) (v := 0) dL_law_883 (by decide) ?_
                                  exact x_iret rfl dL_law_884 rfl rfl
                              · refine mX.ite (fun h12 => ?_) (fun h12 => ?_)
                                · refine x_tableIn (pc := 39) (tgt := 905) (off := 866) dL_law_39 (by omega) (by omega) (by rw [h12]; rfl) (by decide) ?_
                                  refine x_aload_n (pc := 905) dL_law_905 (i := 1) rfl rfl ?_
                                  refine x_aload_n (pc := 906) dL_law_906 (i := 3) rfl rfl ?_
                                  refine x_callH (pc := 907) (As := [.ref x1, .ref x3]) (rest := []) (mL_takeLast S μ cx (6 * cx) x1 x3) rfl dL_law_907 q539 kL_takeLast rfl ⟨Nat.le_of_ble_eq_true rfl, Nat.le_of_ble_eq_true rfl⟩ rfl (Nat.le_of_ble_eq_true rfl) (fun r77 => ?_)
                                  refine x_istore (pc := 910) dL_law_910 (Nat.le_of_ble_eq_true rfl) (l' := [some (.ref 1000), some (.ref x1), some (.ref x2), some (.ref x3), some (.int x4), some (.int r77.1), d6, d7, d8]) rfl ?_
                                  refine x_aload_n (pc := 912) dL_law_912 (i := 2) rfl rfl ?_
                                  refine x_callVi (pc := 913) (As := []) (rest := []) (vx := fun a => a.1) (μf := fun a => a.2) fcX11 (mX11_takeLast S r77.2.1 (cx + r77.2.2) (6 * (cx + r77.2.2)) x2) (fun _ => rfl) rfl (fun _ h => ifok h) dL_law_913 q546 kX11_takeLast rfl ⟨Nat.le_of_ble_eq_true rfl, Nat.le_of_ble_eq_true rfl⟩ rfl (Nat.le_of_ble_eq_true rfl) (fun r78 => ?_)
                                  refine x_istore (pc := 916) dL_law_916 (Nat.le_of_ble_eq_true rfl) (l' := [some (.ref 1000), some (.ref x1), some (.ref x2), some (.ref x3), some (.int x4), some (.int r77.1), some (.int r78.1), d7, d8]) rfl ?_
                                  refine x_aload_n (pc := 918) dL_law_918 (i := 2) rfl rfl ?_
                                  refine x_callVi (pc := 919) (As := []) (rest := []) (vx := fun a => a) (μf := fun _ => r78.2) fcX11 (mX11_thrown S r78.2 (cx + r77.2.2) (6 * (cx + r77.2.2)) x2) (fun _ => rfl) rfl (fun _ h => ifok h) dL_law_919 q216 kX11_thrown rfl ⟨Nat.le_of_ble_eq_true rfl, Nat.le_of_ble_eq_true rfl⟩ rfl (Nat.le_of_ble_eq_true rfl) (fun v79 => ?_)
                                  refine x_iload (pc := 922) dL_law_922 rfl ?_
                                  refine x_icmp_eq (pc := 924) (tgt := 929) dL_law_924 (by decide) ?_ ?_
                                  · refine x_iload (pc := 929) dL_law_929 rfl ?_
                                    refine x_if_ne (pc := 931) (tgt := 946) dL_law_931 (by decide) ?_ ?_
                                    · refine x_aload_n (pc := 934) dL_law_934 (i := 3) rfl rfl ?_
                                      refine x_iconst (pc := 935) (v := 0) dL_law_935 (by decide) ?_
                                      refine x_ldL (pc := 936) dL_law_936 (fun v80 => ?_)
                                      refine x_iload (pc := 937) dL_law_937 rfl ?_
                                      refine x_i2l (pc := 939) dL_law_939 ?_
                                      refine x_lcmp (pc := 940) dL_law_940 ?_
                                      refine x_if_eq (pc := 941) (tgt := 946) dL_law_941 (by decide) ?_ ?_
                                      · exact xL_law_946 (k23 := (lL_law_23 L xs S n)) ih r78.2 (cx + r77.2.2) x1 x2 x3 x4 _ _ _ _
                                      · refine x_iconst (pc := 944) (v := 0) dL_law_944 (by decide) ?_
                                        exact x_iret rfl dL_law_945 rfl rfl
                                    · exact xL_law_946 (k23 := (lL_law_23 L xs S n)) ih r78.2 (cx + r77.2.2) x1 x2 x3 x4 _ _ _ _
                                  · refine x_iconst (pc := 927) (v := 0) dL_law_927 (by decide) ?_
                                    exact x_iret rfl dL_law_928 rfl rfl
                                · refine mX.ite (fun h13 => ?_) (fun h13 => ?_)
                                  · refine x_tableIn (pc := 39) (tgt := 949) (off := 910) dL_law_39 (by omega) (by omega) (by rw [h13]; rfl) (by decide) ?_
                                    refine x_aload_n (pc := 949) dL_law_949 (i := 1) rfl rfl ?_
                                    refine x_callVi (pc := 950) (As := []) (rest := []) (vx := fun a => a.1) (μf := fun a => a.2) fcX10 (mX10_emptySack S μ cx (6 * cx) x1) (fun _ => rfl) rfl (fun _ h => ifok h) dL_law_950 q550 kX10_emptySack rfl ⟨Nat.le_of_ble_eq_true rfl, Nat.le_of_ble_eq_true rfl⟩ rfl (Nat.le_of_ble_eq_true rfl) (fun r81 => ?_)
                                    refine x_aload_n (pc := 953) dL_law_953 (i := 2) rfl rfl ?_
                                    refine x_callVi (pc := 954) (As := []) (rest := [.int r81.1]) (vx := fun a => a.1) (μf := fun a => a.2) fcX11 (mX11_emptySack S r81.2 cx (6 * cx) x2) (fun _ => rfl) rfl (fun _ h => ifok h) dL_law_954 q555 kX11_emptySack rfl ⟨Nat.le_of_ble_eq_true rfl, Nat.le_of_ble_eq_true rfl⟩ rfl (Nat.le_of_ble_eq_true rfl) (fun r82 => ?_)
                                    refine x_icmp_eq (pc := 957) (tgt := 2293) dL_law_957 (by decide) ?_ ?_
                                    · exact xL_law_2293 (k23 := (lL_law_23 L xs S n)) ih r82.2 cx x1 x2 x3 x4 _ _ _ _
                                    · refine x_iconst (pc := 960) (v := 0) dL_law_960 (by decide) ?_
                                      exact x_iret rfl dL_law_961 rfl rfl
                                  · refine mX.ite (fun h14 => ?_) (fun h14 => ?_)
                                    · refine x_tableIn (pc := 39) (tgt := 962) (off := 923) dL_law_39 (by omega) (by omega) (by rw [h14]; rfl) (by decide) ?_
                                      refine x_aload_n (pc := 962) dL_law_962 (i := 1) rfl rfl ?_
                                      refine x_aload_n (pc := 963) dL_law_963 (i := 0) rfl rfl ?_
                                      refine x_iload (pc := 964) dL_law_964 rfl ?_
                                      refine x_iconst (pc := 966) (v := 1) dL_law_966 (by decide) ?_
                                      refine x_iadd (pc := 967) dL_law_967 ?_
                                      refine x_sld (pc := 968) (b := b) (L := L) (xs := xs) rfl dL_law_968 (fun v83 => ?_)
                                      refine x_aload_n (pc := 969) dL_law_969 (i := 3) rfl rfl ?_
                                      refine x_callH (pc := 970) (As := [.ref x1, .int v83, .ref x3]) (rest := []) (mL_append S μ cx (6 * cx) x1 v83 x3) rfl dL_law_970 q559 kL_append rfl ⟨Nat.le_of_ble_eq_true rfl, Nat.le_of_ble_eq_true rfl⟩ rfl (Nat.le_of_ble_eq_true rfl) (fun r84 => ?_)
                                      refine x_istore (pc := 973) dL_law_973 (Nat.le_of_ble_eq_true rfl) (l' := [some (.ref 1000), some (.ref x1), some (.ref x2), some (.ref x3), some (.int x4), some (.int r84.1), d6, d7, d8]) rfl ?_
                                      refine x_aload_n (pc := 975) dL_law_975 (i := 2) rfl rfl ?_
                                      refine x_aload_n (pc := 976) dL_law_976 (i := 0) rfl rfl ?_
                                      refine x_iload (pc := 977) dL_law_977 rfl ?_
                                      refine x_iconst (pc := 979) (v := 1) dL_law_979 (by decide) ?_
                                      refine x_iadd (pc := 980) dL_law_980 ?_
                                      refine x_sld (pc := 981) (b := b) (L := L) (xs := xs) rfl dL_law_981 (fun v85 => ?_)
                                      refine x_callVi (pc := 982) (As := [.int v85]) (rest := []) (vx := fun a => a.1) (μf := fun a => a.2) fcX11 (mX11_append S r84.2.1 (cx + r84.2.2) (6 * (cx + r84.2.2)) x2 v85) (fun _ => rfl) rfl (fun _ h => ifok h) dL_law_982 q571 kX11_append rfl ⟨Nat.le_of_ble_eq_true rfl, Nat.le_of_ble_eq_true rfl⟩ rfl (Nat.le_of_ble_eq_true rfl) (fun r86 => ?_)
                                      refine x_istore (pc := 985) dL_law_985 (Nat.le_of_ble_eq_true rfl) (l' := [some (.ref 1000), some (.ref x1), some (.ref x2), some (.ref x3), some (.int x4), some (.int r84.1), some (.int r86.1), d7, d8]) rfl ?_
                                      refine x_aload_n (pc := 987) dL_law_987 (i := 2) rfl rfl ?_
                                      refine x_callVi (pc := 988) (As := []) (rest := []) (vx := fun a => a) (μf := fun _ => r86.2) fcX11 (mX11_thrown S r86.2 (cx + r84.2.2) (6 * (cx + r84.2.2)) x2) (fun _ => rfl) rfl (fun _ h => ifok h) dL_law_988 q216 kX11_thrown rfl ⟨Nat.le_of_ble_eq_true rfl, Nat.le_of_ble_eq_true rfl⟩ rfl (Nat.le_of_ble_eq_true rfl) (fun v87 => ?_)
                                      refine x_iload (pc := 991) dL_law_991 rfl ?_
                                      refine x_icmp_eq (pc := 993) (tgt := 998) dL_law_993 (by decide) ?_ ?_
                                      · refine x_iload (pc := 998) dL_law_998 rfl ?_
                                        refine x_if_ne (pc := 1000) (tgt := 1015) dL_law_1000 (by decide) ?_ ?_
                                        · refine x_aload_n (pc := 1003) dL_law_1003 (i := 3) rfl rfl ?_
                                          refine x_iconst (pc := 1004) (v := 0) dL_law_1004 (by decide) ?_
                                          refine x_ldL (pc := 1005) dL_law_1005 (fun v88 => ?_)
                                          refine x_iload (pc := 1006) dL_law_1006 rfl ?_
                                          refine x_i2l (pc := 1008) dL_law_1008 ?_
                                          refine x_lcmp (pc := 1009) dL_law_1009 ?_
                                          refine x_if_eq (pc := 1010) (tgt := 1015) dL_law_1010 (by decide) ?_ ?_
                                          · exact xL_law_1015 (k23 := (lL_law_23 L xs S n)) ih r86.2 (cx + r84.2.2) x1 x2 x3 x4 _ _ _ _
                                          · refine x_iconst (pc := 1013) (v := 0) dL_law_1013 (by decide) ?_
                                            exact x_iret rfl dL_law_1014 rfl rfl
                                        · exact xL_law_1015 (k23 := (lL_law_23 L xs S n)) ih r86.2 (cx + r84.2.2) x1 x2 x3 x4 _ _ _ _
                                      · refine x_iconst (pc := 996) (v := 0) dL_law_996 (by decide) ?_
                                        exact x_iret rfl dL_law_997 rfl rfl
                                    · refine mX.ite (fun h15 => ?_) (fun h15 => ?_)
                                      · refine x_tableIn (pc := 39) (tgt := 1018) (off := 979) dL_law_39 (by omega) (by omega) (by rw [h15]; rfl) (by decide) ?_
                                        refine x_aload_n (pc := 1018) dL_law_1018 (i := 1) rfl rfl ?_
                                        refine x_callVi (pc := 1019) (As := []) (rest := []) (vx := fun a => a.1) (μf := fun a => a.2) fcX10 (mX10_clearBuffer S μ cx (6 * cx) x1) (fun _ => rfl) rfl (fun _ h => ifok h) dL_law_1019 q576 kX10_clearBuffer rfl ⟨Nat.le_of_ble_eq_true rfl, Nat.le_of_ble_eq_true rfl⟩ rfl (Nat.le_of_ble_eq_true rfl) (fun r89 => ?_)
                                        refine x_aload_n (pc := 1022) dL_law_1022 (i := 2) rfl rfl ?_
                                        refine x_callVi (pc := 1023) (As := []) (rest := [.int r89.1]) (vx := fun a => a.1) (μf := fun a => a.2) fcX11 (mX11_clearBuffer S r89.2 cx (6 * cx) x2) (fun _ => rfl) rfl (fun _ h => ifok h) dL_law_1023 q584 kX11_clearBuffer rfl ⟨Nat.le_of_ble_eq_true rfl, Nat.le_of_ble_eq_true rfl⟩ rfl (Nat.le_of_ble_eq_true rfl) (fun r90 => ?_)
                                        refine x_icmp_eq (pc := 1026) (tgt := 2293) dL_law_1026 (by decide) ?_ ?_
                                        · exact xL_law_2293 (k23 := (lL_law_23 L xs S n)) ih r90.2 cx x1 x2 x3 x4 _ _ _ _
                                        · refine x_iconst (pc := 1029) (v := 0) dL_law_1029 (by decide) ?_
                                          exact x_iret rfl dL_law_1030 rfl rfl
                                      · refine mX.ite (fun h16 => ?_) (fun h16 => ?_)
                                        · refine x_tableIn (pc := 39) (tgt := 1031) (off := 992) dL_law_39 (by omega) (by omega) (by rw [h16]; rfl) (by decide) ?_
                                          refine x_aload_n (pc := 1031) dL_law_1031 (i := 1) rfl rfl ?_
                                          refine x_callVi (pc := 1032) (As := []) (rest := []) (vx := fun a => a) (μf := fun _ => μ) fcX10 (mX10_firstError S μ cx (6 * cx) x1) (fun _ => rfl) rfl (fun _ h => ifok h) dL_law_1032 q588 kX10_firstError rfl ⟨Nat.le_of_ble_eq_true rfl, Nat.le_of_ble_eq_true rfl⟩ rfl (Nat.le_of_ble_eq_true rfl) (fun v91 => ?_)
                                          refine x_aload_n (pc := 1035) dL_law_1035 (i := 2) rfl rfl ?_
                                          refine x_callVi (pc := 1036) (As := []) (rest := [.int v91]) (vx := fun a => a.1) (μf := fun a => a.2) fcX11 (mX11_firstError S μ cx (6 * cx) x2) (fun _ => rfl) rfl (fun _ h => ifok h) dL_law_1036 q624 kX11_firstError rfl ⟨Nat.le_of_ble_eq_true rfl, Nat.le_of_ble_eq_true rfl⟩ rfl (Nat.le_of_ble_eq_true rfl) (fun r92 => ?_)
                                          refine x_icmp_eq (pc := 1039) (tgt := 2293) dL_law_1039 (by decide) ?_ ?_
                                          · exact xL_law_2293 (k23 := (lL_law_23 L xs S n)) ih r92.2 cx x1 x2 x3 x4 _ _ _ _
                                          · refine x_iconst (pc := 1042) (v := 0) dL_law_1042 (by decide) ?_
                                            exact x_iret rfl dL_law_1043 rfl rfl
                                        · refine mX.ite (fun h17 => ?_) (fun h17 => ?_)
                                          · refine x_tableIn (pc := 39) (tgt := 1044) (off := 1005) dL_law_39 (by omega) (by omega) (by rw [h17]; rfl) (by decide) ?_
                                            refine x_aload_n (pc := 1044) dL_law_1044 (i := 1) rfl rfl ?_
                                            refine x_aload_n (pc := 1045) dL_law_1045 (i := 3) rfl rfl ?_
                                            refine x_callH (pc := 1046) (As := [.ref x1, .ref x3]) (rest := []) (mL_work S μ cx (6 * cx) x1 x3) rfl dL_law_1046 q651 kL_work rfl ⟨Nat.le_of_ble_eq_true rfl, Nat.le_of_ble_eq_true rfl⟩ rfl (Nat.le_of_ble_eq_true rfl) (fun r93 => ?_)
                                            refine x_istore (pc := 1049) dL_law_1049 (Nat.le_of_ble_eq_true rfl) (l' := [some (.ref 1000), some (.ref x1), some (.ref x2), some (.ref x3), some (.int x4), some (.int r93.1), d6, d7, d8]) rfl ?_
                                            refine x_aload_n (pc := 1051) dL_law_1051 (i := 2) rfl rfl ?_
                                            refine x_callVi (pc := 1052) (As := []) (rest := []) (vx := fun a => a.1) (μf := fun a => a.2) fcX11 (mX11_work S r93.2.1 (cx + r93.2.2) (6 * (cx + r93.2.2)) x2) (fun _ => rfl) rfl (fun _ h => ifok h) dL_law_1052 q694 kX11_work rfl ⟨Nat.le_of_ble_eq_true rfl, Nat.le_of_ble_eq_true rfl⟩ rfl (Nat.le_of_ble_eq_true rfl) (fun r94 => ?_)
                                            refine x_istore (pc := 1055) dL_law_1055 (Nat.le_of_ble_eq_true rfl) (l' := [some (.ref 1000), some (.ref x1), some (.ref x2), some (.ref x3), some (.int x4), some (.int r93.1), some (.int r94.1), d7, d8]) rfl ?_
                                            refine x_aload_n (pc := 1057) dL_law_1057 (i := 2) rfl rfl ?_
                                            refine x_callVi (pc := 1058) (As := []) (rest := []) (vx := fun a => a) (μf := fun _ => r94.2) fcX11 (mX11_thrown S r94.2 (cx + r93.2.2) (6 * (cx + r93.2.2)) x2) (fun _ => rfl) rfl (fun _ h => ifok h) dL_law_1058 q216 kX11_thrown rfl ⟨Nat.le_of_ble_eq_true rfl, Nat.le_of_ble_eq_true rfl⟩ rfl (Nat.le_of_ble_eq_true rfl) (fun v95 => ?_)
                                            refine x_iload (pc := 1061) dL_law_1061 rfl ?_
                                            refine x_icmp_eq (pc := 1063) (tgt := 1068) dL_law_1063 (by decide) ?_ ?_
                                            · refine x_iload (pc := 1068) dL_law_1068 rfl ?_
                                              refine x_if_ne (pc := 1070) (tgt := 1085) dL_law_1070 (by decide) ?_ ?_
                                              · refine x_aload_n (pc := 1073) dL_law_1073 (i := 3) rfl rfl ?_
                                                refine x_iconst (pc := 1074) (v := 0) dL_law_1074 (by decide) ?_
                                                refine x_ldL (pc := 1075) dL_law_1075 (fun v96 => ?_)
                                                refine x_iload (pc := 1076) dL_law_1076 rfl ?_
                                                refine x_i2l (pc := 1078) dL_law_1078 ?_
                                                refine x_lcmp (pc := 1079) dL_law_1079 ?_
                                                refine x_if_eq (pc := 1080) (tgt := 1085) dL_law_1080 (by decide) ?_ ?_
                                                · exact xL_law_1085 (k23 := (lL_law_23 L xs S n)) ih r94.2 (cx + r93.2.2) x1 x2 x3 x4 _ _ _ _
                                                · refine x_iconst (pc := 1083) (v := 0) dL_law_1083 (by decide) ?_
                                                  exact x_iret rfl dL_law_1084 rfl rfl
                                              · exact xL_law_1085 (k23 := (lL_law_23 L xs S n)) ih r94.2 (cx + r93.2.2) x1 x2 x3 x4 _ _ _ _
                                            · refine x_iconst (pc := 1066) (v := 0) dL_law_1066 (by decide) ?_
                                              exact x_iret rfl dL_law_1067 rfl rfl
                                          · refine mX.ite (fun h18 => ?_) (fun h18 => ?_)
                                            · refine x_tableIn (pc := 39) (tgt := 1088) (off := 1049) dL_law_39 (by omega) (by omega) (by rw [h18]; rfl) (by decide) ?_
                                              refine x_aload_n (pc := 1088) dL_law_1088 (i := 1) rfl rfl ?_
                                              refine x_callVi (pc := 1089) (As := []) (rest := []) (vx := fun a => a) (μf := fun _ => μ) fcX10 (mX10_hasStopped S μ cx (6 * cx) x1) (fun _ => rfl) rfl (fun _ h => ifok h) dL_law_1089 q706 kX10_hasStopped rfl ⟨Nat.le_of_ble_eq_true rfl, Nat.le_of_ble_eq_true rfl⟩ rfl (Nat.le_of_ble_eq_true rfl) (fun v97 => ?_)
                                              refine x_aload_n (pc := 1092) dL_law_1092 (i := 2) rfl rfl ?_
                                              refine x_callVi (pc := 1093) (As := []) (rest := [.int v97]) (vx := fun a => a.1) (μf := fun a => a.2) fcX11 (mX11_hasStopped S μ cx (6 * cx) x2) (fun _ => rfl) rfl (fun _ h => ifok h) dL_law_1093 q710 kX11_hasStopped rfl ⟨Nat.le_of_ble_eq_true rfl, Nat.le_of_ble_eq_true rfl⟩ rfl (Nat.le_of_ble_eq_true rfl) (fun r98 => ?_)
                                              refine x_icmp_eq (pc := 1096) (tgt := 2293) dL_law_1096 (by decide) ?_ ?_
                                              · exact xL_law_2293 (k23 := (lL_law_23 L xs S n)) ih r98.2 cx x1 x2 x3 x4 _ _ _ _
                                              · refine x_iconst (pc := 1099) (v := 0) dL_law_1099 (by decide) ?_
                                                exact x_iret rfl dL_law_1100 rfl rfl
                                            · refine mX.ite (fun h19 => ?_) (fun h19 => ?_)
                                              · refine x_tableIn (pc := 39) (tgt := 1101) (off := 1062) dL_law_39 (by omega) (by omega) (by rw [h19]; rfl) (by decide) ?_
                                                refine x_aload_n (pc := 1101) dL_law_1101 (i := 1) rfl rfl ?_
                                                refine x_aload_n (pc := 1102) dL_law_1102 (i := 3) rfl rfl ?_
                                                refine x_callH (pc := 1103) (As := [.ref x1, .ref x3]) (rest := []) (mL_stoppedPart S μ cx (6 * cx) x1 x3) rfl dL_law_1103 q714 kL_stoppedPart rfl ⟨Nat.le_of_ble_eq_true rfl, Nat.le_of_ble_eq_true rfl⟩ rfl (Nat.le_of_ble_eq_true rfl) (fun r99 => ?_)
                                                refine x_istore (pc := 1106) dL_law_1106 (Nat.le_of_ble_eq_true rfl) (l' := [some (.ref 1000), some (.ref x1), some (.ref x2), some (.ref x3), some (.int x4), some (.int r99.1), d6, d7, d8]) rfl ?_
                                                refine x_aload_n (pc := 1108) dL_law_1108 (i := 2) rfl rfl ?_
                                                refine x_callVi (pc := 1109) (As := []) (rest := []) (vx := fun a => a.1) (μf := fun a => a.2) fcX11 (mX11_stoppedPart S r99.2.1 (cx + r99.2.2) (6 * (cx + r99.2.2)) x2) (fun _ => rfl) rfl (fun _ h => ifok h) dL_law_1109 q721 kX11_stoppedPart rfl ⟨Nat.le_of_ble_eq_true rfl, Nat.le_of_ble_eq_true rfl⟩ rfl (Nat.le_of_ble_eq_true rfl) (fun r100 => ?_)
                                                refine x_istore (pc := 1112) dL_law_1112 (Nat.le_of_ble_eq_true rfl) (l' := [some (.ref 1000), some (.ref x1), some (.ref x2), some (.ref x3), some (.int x4), some (.int r99.1), some (.int r100.1), d7, d8]) rfl ?_
                                                refine x_aload_n (pc := 1114) dL_law_1114 (i := 2) rfl rfl ?_
                                                refine x_callVi (pc := 1115) (As := []) (rest := []) (vx := fun a => a) (μf := fun _ => r100.2) fcX11 (mX11_thrown S r100.2 (cx + r99.2.2) (6 * (cx + r99.2.2)) x2) (fun _ => rfl) rfl (fun _ h => ifok h) dL_law_1115 q216 kX11_thrown rfl ⟨Nat.le_of_ble_eq_true rfl, Nat.le_of_ble_eq_true rfl⟩ rfl (Nat.le_of_ble_eq_true rfl) (fun v101 => ?_)
                                                refine x_iload (pc := 1118) dL_law_1118 rfl ?_
                                                refine x_icmp_eq (pc := 1120) (tgt := 1125) dL_law_1120 (by decide) ?_ ?_
                                                · refine x_iload (pc := 1125) dL_law_1125 rfl ?_
                                                  refine x_if_ne (pc := 1127) (tgt := 1142) dL_law_1127 (by decide) ?_ ?_
                                                  · refine x_aload_n (pc := 1130) dL_law_1130 (i := 3) rfl rfl ?_
                                                    refine x_iconst (pc := 1131) (v := 0) dL_law_1131 (by decide) ?_
                                                    refine x_ldL (pc := 1132) dL_law_1132 (fun v102 => ?_)
                                                    refine x_iload (pc := 1133) dL_law_1133 rfl ?_
                                                    refine x_i2l (pc := 1135) dL_law_1135 ?_
                                                    refine x_lcmp (pc := 1136) dL_law_1136 ?_
                                                    refine x_if_eq (pc := 1137) (tgt := 1142) dL_law_1137 (by decide) ?_ ?_
                                                    · exact xL_law_1142 (k23 := (lL_law_23 L xs S n)) ih r100.2 (cx + r99.2.2) x1 x2 x3 x4 _ _ _ _
                                                    · refine x_iconst (pc := 1140) (v := 0) dL_law_1140 (by decide) ?_
                                                      exact x_iret rfl dL_law_1141 rfl rfl
                                                  · exact xL_law_1142 (k23 := (lL_law_23 L xs S n)) ih r100.2 (cx + r99.2.2) x1 x2 x3 x4 _ _ _ _
                                                · refine x_iconst (pc := 1123) (v := 0) dL_law_1123 (by decide) ?_
                                                  exact x_iret rfl dL_law_1124 rfl rfl
                                              · refine mX.ite (fun h20 => ?_) (fun h20 => ?_)
                                                · refine x_tableIn (pc := 39) (tgt := 1145) (off := 1106) dL_law_39 (by omega) (by omega) (by rw [h20]; rfl) (by decide) ?_
                                                  refine x_aload_n (pc := 1145) dL_law_1145 (i := 1) rfl rfl ?_
                                                  refine x_aload_n (pc := 1146) dL_law_1146 (i := 3) rfl rfl ?_
                                                  refine x_callH (pc := 1147) (As := [.ref x1, .ref x3]) (rest := []) (mL_whyStopped S μ cx (6 * cx) x1 x3) rfl dL_law_1147 q725 kL_whyStopped rfl ⟨Nat.le_of_ble_eq_true rfl, Nat.le_of_ble_eq_true rfl⟩ rfl (Nat.le_of_ble_eq_true rfl) (fun r103 => ?_)
                                                  refine x_istore (pc := 1150) dL_law_1150 (Nat.le_of_ble_eq_true rfl) (l' := [some (.ref 1000), some (.ref x1), some (.ref x2), some (.ref x3), some (.int x4), some (.int r103.1), d6, d7, d8]) rfl ?_
                                                  refine x_aload_n (pc := 1152) dL_law_1152 (i := 2) rfl rfl ?_
                                                  refine x_callVi (pc := 1153) (As := []) (rest := []) (vx := fun a => a.1) (μf := fun a => a.2) fcX11 (mX11_whyStopped S r103.2.1 (cx + r103.2.2) (6 * (cx + r103.2.2)) x2) (fun _ => rfl) rfl (fun _ h => ifok h) dL_law_1153 q732 kX11_whyStopped rfl ⟨Nat.le_of_ble_eq_true rfl, Nat.le_of_ble_eq_true rfl⟩ rfl (Nat.le_of_ble_eq_true rfl) (fun r104 => ?_)
                                                  refine x_istore (pc := 1156) dL_law_1156 (Nat.le_of_ble_eq_true rfl) (l' := [some (.ref 1000), some (.ref x1), some (.ref x2), some (.ref x3), some (.int x4), some (.int r103.1), some (.int r104.1), d7, d8]) rfl ?_
                                                  refine x_aload_n (pc := 1158) dL_law_1158 (i := 2) rfl rfl ?_
                                                  refine x_callVi (pc := 1159) (As := []) (rest := []) (vx := fun a => a) (μf := fun _ => r104.2) fcX11 (mX11_thrown S r104.2 (cx + r103.2.2) (6 * (cx + r103.2.2)) x2) (fun _ => rfl) rfl (fun _ h => ifok h) dL_law_1159 q216 kX11_thrown rfl ⟨Nat.le_of_ble_eq_true rfl, Nat.le_of_ble_eq_true rfl⟩ rfl (Nat.le_of_ble_eq_true rfl) (fun v105 => ?_)
                                                  refine x_iload (pc := 1162) dL_law_1162 rfl ?_
                                                  refine x_icmp_eq (pc := 1164) (tgt := 1169) dL_law_1164 (by decide) ?_ ?_
                                                  · refine x_iload (pc := 1169) dL_law_1169 rfl ?_
                                                    refine x_if_ne (pc := 1171) (tgt := 1186) dL_law_1171 (by decide) ?_ ?_
                                                    · refine x_aload_n (pc := 1174) dL_law_1174 (i := 3) rfl rfl ?_
                                                      refine x_iconst (pc := 1175) (v := 0) dL_law_1175 (by decide) ?_
                                                      refine x_ldL (pc := 1176) dL_law_1176 (fun v106 => ?_)
                                                      refine x_iload (pc := 1177) dL_law_1177 rfl ?_
                                                      refine x_i2l (pc := 1179) dL_law_1179 ?_
                                                      refine x_lcmp (pc := 1180) dL_law_1180 ?_
                                                      refine x_if_eq (pc := 1181) (tgt := 1186) dL_law_1181 (by decide) ?_ ?_
                                                      · exact xL_law_1186 (k23 := (lL_law_23 L xs S n)) ih r104.2 (cx + r103.2.2) x1 x2 x3 x4 _ _ _ _
                                                      · refine x_iconst (pc := 1184) (v := 0) dL_law_1184 (by decide) ?_
                                                        exact x_iret rfl dL_law_1185 rfl rfl
                                                    · exact xL_law_1186 (k23 := (lL_law_23 L xs S n)) ih r104.2 (cx + r103.2.2) x1 x2 x3 x4 _ _ _ _
                                                  · refine x_iconst (pc := 1167) (v := 0) dL_law_1167 (by decide) ?_
                                                    exact x_iret rfl dL_law_1168 rfl rfl
                                                · refine mX.ite (fun h21 => ?_) (fun h21 => ?_)
                                                  · refine x_tableIn (pc := 39) (tgt := 1189) (off := 1150) dL_law_39 (by omega) (by omega) (by rw [h21]; rfl) (by decide) ?_
                                                    refine x_aload_n (pc := 1189) dL_law_1189 (i := 1) rfl rfl ?_
                                                    refine x_aload_n (pc := 1190) dL_law_1190 (i := 3) rfl rfl ?_
                                                    refine x_callH (pc := 1191) (As := [.ref x1, .ref x3]) (rest := []) (mL_undo S μ cx (6 * cx) x1 x3) rfl dL_law_1191 q736 kL_undo rfl ⟨Nat.le_of_ble_eq_true rfl, Nat.le_of_ble_eq_true rfl⟩ rfl (Nat.le_of_ble_eq_true rfl) (fun r107 => ?_)
                                                    refine x_istore (pc := 1194) dL_law_1194 (Nat.le_of_ble_eq_true rfl) (l' := [some (.ref 1000), some (.ref x1), some (.ref x2), some (.ref x3), some (.int x4), some (.int r107.1), d6, d7, d8]) rfl ?_
                                                    refine x_aload_n (pc := 1196) dL_law_1196 (i := 2) rfl rfl ?_
                                                    refine x_callVi (pc := 1197) (As := []) (rest := []) (vx := fun a => a.1) (μf := fun a => a.2) fcX11 (mX11_undo S r107.2.1 (cx + r107.2.2) (6 * (cx + r107.2.2)) x2) (fun _ => rfl) rfl (fun _ h => ifok h) dL_law_1197 q748 kX11_undo rfl ⟨Nat.le_of_ble_eq_true rfl, Nat.le_of_ble_eq_true rfl⟩ rfl (Nat.le_of_ble_eq_true rfl) (fun r108 => ?_)
                                                    refine x_istore (pc := 1200) dL_law_1200 (Nat.le_of_ble_eq_true rfl) (l' := [some (.ref 1000), some (.ref x1), some (.ref x2), some (.ref x3), some (.int x4), some (.int r107.1), some (.int r108.1), d7, d8]) rfl ?_
                                                    refine x_aload_n (pc := 1202) dL_law_1202 (i := 2) rfl rfl ?_
                                                    refine x_callVi (pc := 1203) (As := []) (rest := []) (vx := fun a => a) (μf := fun _ => r108.2) fcX11 (mX11_thrown S r108.2 (cx + r107.2.2) (6 * (cx + r107.2.2)) x2) (fun _ => rfl) rfl (fun _ h => ifok h) dL_law_1203 q216 kX11_thrown rfl ⟨Nat.le_of_ble_eq_true rfl, Nat.le_of_ble_eq_true rfl⟩ rfl (Nat.le_of_ble_eq_true rfl) (fun v109 => ?_)
                                                    refine x_iload (pc := 1206) dL_law_1206 rfl ?_
                                                    refine x_icmp_eq (pc := 1208) (tgt := 1213) dL_law_1208 (by decide) ?_ ?_
                                                    · refine x_iload (pc := 1213) dL_law_1213 rfl ?_
                                                      refine x_if_ne (pc := 1215) (tgt := 1230) dL_law_1215 (by decide) ?_ ?_
                                                      · refine x_aload_n (pc := 1218) dL_law_1218 (i := 3) rfl rfl ?_
                                                        refine x_iconst (pc := 1219) (v := 0) dL_law_1219 (by decide) ?_
                                                        refine x_ldL (pc := 1220) dL_law_1220 (fun v110 => ?_)
                                                        refine x_iload (pc := 1221) dL_law_1221 rfl ?_
                                                        refine x_i2l (pc := 1223) dL_law_1223 ?_
                                                        refine x_lcmp (pc := 1224) dL_law_1224 ?_
                                                        refine x_if_eq (pc := 1225) (tgt := 1230) dL_law_1225 (by decide) ?_ ?_
                                                        · exact xL_law_1230 (k23 := (lL_law_23 L xs S n)) ih r108.2 (cx + r107.2.2) x1 x2 x3 x4 _ _ _ _
                                                        · refine x_iconst (pc := 1228) (v := 0) dL_law_1228 (by decide) ?_
                                                          exact x_iret rfl dL_law_1229 rfl rfl
                                                      · exact xL_law_1230 (k23 := (lL_law_23 L xs S n)) ih r108.2 (cx + r107.2.2) x1 x2 x3 x4 _ _ _ _
                                                    · refine x_iconst (pc := 1211) (v := 0) dL_law_1211 (by decide) ?_
                                                      exact x_iret rfl dL_law_1212 rfl rfl
                                                  · refine mX.ite (fun h22 => ?_) (fun h22 => ?_)
                                                    · refine x_tableIn (pc := 39) (tgt := 1233) (off := 1194) dL_law_39 (by omega) (by omega) (by rw [h22]; rfl) (by decide) ?_
                                                      refine x_aload_n (pc := 1233) dL_law_1233 (i := 1) rfl rfl ?_
                                                      refine x_callVi (pc := 1234) (As := []) (rest := []) (vx := fun a => a.1) (μf := fun a => a.2) fcX10 (mX10_keep S μ cx (6 * cx) x1) (fun _ => rfl) rfl (fun _ h => ifok h) dL_law_1234 q752 kX10_keep rfl ⟨Nat.le_of_ble_eq_true rfl, Nat.le_of_ble_eq_true rfl⟩ rfl (Nat.le_of_ble_eq_true rfl) (fun r111 => ?_)
                                                      refine x_aload_n (pc := 1237) dL_law_1237 (i := 2) rfl rfl ?_
                                                      refine x_callVi (pc := 1238) (As := []) (rest := [.int r111.1]) (vx := fun a => a.1) (μf := fun a => a.2) fcX11 (mX11_keep S r111.2 cx (6 * cx) x2) (fun _ => rfl) rfl (fun _ h => ifok h) dL_law_1238 q757 kX11_keep rfl ⟨Nat.le_of_ble_eq_true rfl, Nat.le_of_ble_eq_true rfl⟩ rfl (Nat.le_of_ble_eq_true rfl) (fun r112 => ?_)
                                                      refine x_icmp_eq (pc := 1241) (tgt := 2293) dL_law_1241 (by decide) ?_ ?_
                                                      · exact xL_law_2293 (k23 := (lL_law_23 L xs S n)) ih r112.2 cx x1 x2 x3 x4 _ _ _ _
                                                      · refine x_iconst (pc := 1244) (v := 0) dL_law_1244 (by decide) ?_
                                                        exact x_iret rfl dL_law_1245 rfl rfl
                                                    · refine mX.ite (fun h23 => ?_) (fun h23 => ?_)
                                                      · refine x_tableIn (pc := 39) (tgt := 1246) (off := 1207) dL_law_39 (by omega) (by omega) (by rw [h23]; rfl) (by decide) ?_
                                                        refine x_aload_n (pc := 1246) dL_law_1246 (i := 1) rfl rfl ?_
                                                        refine x_aload_n (pc := 1247) dL_law_1247 (i := 3) rfl rfl ?_
                                                        refine x_callH (pc := 1248) (As := [.ref x1, .ref x3]) (rest := []) (mL_restore S μ cx (6 * cx) x1 x3) rfl dL_law_1248 q762 kL_restore rfl ⟨Nat.le_of_ble_eq_true rfl, Nat.le_of_ble_eq_true rfl⟩ rfl (Nat.le_of_ble_eq_true rfl) (fun r113 => ?_)
                                                        refine x_istore (pc := 1251) dL_law_1251 (Nat.le_of_ble_eq_true rfl) (l' := [some (.ref 1000), some (.ref x1), some (.ref x2), some (.ref x3), some (.int x4), some (.int r113.1), d6, d7, d8]) rfl ?_
                                                        refine x_aload_n (pc := 1253) dL_law_1253 (i := 2) rfl rfl ?_
                                                        refine x_callVi (pc := 1254) (As := []) (rest := []) (vx := fun a => a.1) (μf := fun a => a.2) fcX11 (mX11_restore S r113.2.1 (cx + r113.2.2) (6 * (cx + r113.2.2)) x2) (fun _ => rfl) rfl (fun _ h => ifok h) dL_law_1254 q769 kX11_restore rfl ⟨Nat.le_of_ble_eq_true rfl, Nat.le_of_ble_eq_true rfl⟩ rfl (Nat.le_of_ble_eq_true rfl) (fun r114 => ?_)
                                                        refine x_istore (pc := 1257) dL_law_1257 (Nat.le_of_ble_eq_true rfl) (l' := [some (.ref 1000), some (.ref x1), some (.ref x2), some (.ref x3), some (.int x4), some (.int r113.1), some (.int r114.1), d7, d8]) rfl ?_
                                                        refine x_aload_n (pc := 1259) dL_law_1259 (i := 2) rfl rfl ?_
                                                        refine x_callVi (pc := 1260) (As := []) (rest := []) (vx := fun a => a) (μf := fun _ => r114.2) fcX11 (mX11_thrown S r114.2 (cx + r113.2.2) (6 * (cx + r113.2.2)) x2) (fun _ => rfl) rfl (fun _ h => ifok h) dL_law_1260 q216 kX11_thrown rfl ⟨Nat.le_of_ble_eq_true rfl, Nat.le_of_ble_eq_true rfl⟩ rfl (Nat.le_of_ble_eq_true rfl) (fun v115 => ?_)
                                                        refine x_iload (pc := 1263) dL_law_1263 rfl ?_
                                                        refine x_icmp_eq (pc := 1265) (tgt := 1270) dL_law_1265 (by decide) ?_ ?_
                                                        · refine x_iload (pc := 1270) dL_law_1270 rfl ?_
                                                          refine x_if_ne (pc := 1272) (tgt := 1287) dL_law_1272 (by decide) ?_ ?_
                                                          · refine x_aload_n (pc := 1275) dL_law_1275 (i := 3) rfl rfl ?_
                                                            refine x_iconst (pc := 1276) (v := 0) dL_law_1276 (by decide) ?_
                                                            refine x_ldL (pc := 1277) dL_law_1277 (fun v116 => ?_)
                                                            refine x_iload (pc := 1278) dL_law_1278 rfl ?_
                                                            refine x_i2l (pc := 1280) dL_law_1280 ?_
                                                            refine x_lcmp (pc := 1281) dL_law_1281 ?_
                                                            refine x_if_eq (pc := 1282) (tgt := 1287) dL_law_1282 (by decide) ?_ ?_
                                                            · exact xL_law_1287 (k23 := (lL_law_23 L xs S n)) ih r114.2 (cx + r113.2.2) x1 x2 x3 x4 _ _ _ _
                                                            · refine x_iconst (pc := 1285) (v := 0) dL_law_1285 (by decide) ?_
                                                              exact x_iret rfl dL_law_1286 rfl rfl
                                                          · exact xL_law_1287 (k23 := (lL_law_23 L xs S n)) ih r114.2 (cx + r113.2.2) x1 x2 x3 x4 _ _ _ _
                                                        · refine x_iconst (pc := 1268) (v := 0) dL_law_1268 (by decide) ?_
                                                          exact x_iret rfl dL_law_1269 rfl rfl
                                                      · refine mX.ite (fun h24 => ?_) (fun h24 => ?_)
                                                        · refine x_tableIn (pc := 39) (tgt := 1290) (off := 1251) dL_law_39 (by omega) (by omega) (by rw [h24]; rfl) (by decide) ?_
                                                          refine x_aload_n (pc := 1290) dL_law_1290 (i := 1) rfl rfl ?_
                                                          refine x_callVi (pc := 1291) (As := []) (rest := []) (vx := fun a => a) (μf := fun _ => μ) fcX10 (mX10_savedStates S μ cx (6 * cx) x1) (fun _ => rfl) rfl (fun _ h => ifok h) dL_law_1291 q773 kX10_savedStates rfl ⟨Nat.le_of_ble_eq_true rfl, Nat.le_of_ble_eq_true rfl⟩ rfl (Nat.le_of_ble_eq_true rfl) (fun v117 => ?_)
                                                          refine x_aload_n (pc := 1294) dL_law_1294 (i := 2) rfl rfl ?_
                                                          refine x_callVi (pc := 1295) (As := []) (rest := [.int v117]) (vx := fun a => a.1) (μf := fun a => a.2) fcX11 (mX11_savedStates S μ cx (6 * cx) x2) (fun _ => rfl) rfl (fun _ h => ifok h) dL_law_1295 q777 kX11_savedStates rfl ⟨Nat.le_of_ble_eq_true rfl, Nat.le_of_ble_eq_true rfl⟩ rfl (Nat.le_of_ble_eq_true rfl) (fun r118 => ?_)
                                                          refine x_icmp_eq (pc := 1298) (tgt := 2293) dL_law_1298 (by decide) ?_ ?_
                                                          · exact xL_law_2293 (k23 := (lL_law_23 L xs S n)) ih r118.2 cx x1 x2 x3 x4 _ _ _ _
                                                          · refine x_iconst (pc := 1301) (v := 0) dL_law_1301 (by decide) ?_
                                                            exact x_iret rfl dL_law_1302 rfl rfl
                                                        · refine mX.ite (fun h25 => ?_) (fun h25 => ?_)
                                                          · refine x_tableIn (pc := 39) (tgt := 1303) (off := 1264) dL_law_39 (by omega) (by omega) (by rw [h25]; rfl) (by decide) ?_
                                                            refine x_aload_n (pc := 1303) dL_law_1303 (i := 1) rfl rfl ?_
                                                            refine x_callVi (pc := 1304) (As := []) (rest := []) (vx := fun a => a) (μf := fun _ => μ) fcX10 (mX10_textLength S μ cx (6 * cx) x1) (fun _ => rfl) rfl (fun _ h => ifok h) dL_law_1304 q781 kX10_textLength rfl ⟨Nat.le_of_ble_eq_true rfl, Nat.le_of_ble_eq_true rfl⟩ rfl (Nat.le_of_ble_eq_true rfl) (fun v119 => ?_)
                                                            refine x_aload_n (pc := 1307) dL_law_1307 (i := 2) rfl rfl ?_
                                                            refine x_callVi (pc := 1308) (As := []) (rest := [.int v119]) (vx := fun a => a.1) (μf := fun a => a.2) fcX11 (mX11_textLength S μ cx (6 * cx) x2) (fun _ => rfl) rfl (fun _ h => ifok h) dL_law_1308 q785 kX11_textLength rfl ⟨Nat.le_of_ble_eq_true rfl, Nat.le_of_ble_eq_true rfl⟩ rfl (Nat.le_of_ble_eq_true rfl) (fun r120 => ?_)
                                                            refine x_icmp_eq (pc := 1311) (tgt := 2293) dL_law_1311 (by decide) ?_ ?_
                                                            · exact xL_law_2293 (k23 := (lL_law_23 L xs S n)) ih r120.2 cx x1 x2 x3 x4 _ _ _ _
                                                            · refine x_iconst (pc := 1314) (v := 0) dL_law_1314 (by decide) ?_
                                                              exact x_iret rfl dL_law_1315 rfl rfl
                                                          · refine mX.ite (fun h26 => ?_) (fun h26 => ?_)
                                                            · refine x_tableIn (pc := 39) (tgt := 1316) (off := 1277) dL_law_39 (by omega) (by omega) (by rw [h26]; rfl) (by decide) ?_
                                                              refine x_aload_n (pc := 1316) dL_law_1316 (i := 1) rfl rfl ?_
                                                              refine x_aload_n (pc := 1317) dL_law_1317 (i := 0) rfl rfl ?_
                                                              refine x_iload (pc := 1318) dL_law_1318 rfl ?_
                                                              refine x_iconst (pc := 1320) (v := 1) dL_law_1320 (by decide) ?_
                                                              refine x_iadd (pc := 1321) dL_law_1321 ?_
                                                              refine x_sld (pc := 1322) (b := b) (L := L) (xs := xs) rfl dL_law_1322 (fun v121 => ?_)
                                                              refine x_aload_n (pc := 1323) dL_law_1323 (i := 3) rfl rfl ?_
                                                              refine x_callH (pc := 1324) (As := [.ref x1, .int v121, .ref x3]) (rest := []) (mL_letterAt S μ cx (6 * cx) x1 v121 x3) rfl dL_law_1324 q789 kL_letterAt rfl ⟨Nat.le_of_ble_eq_true rfl, Nat.le_of_ble_eq_true rfl⟩ rfl (Nat.le_of_ble_eq_true rfl) (fun r122 => ?_)
                                                              refine x_istore (pc := 1327) dL_law_1327 (Nat.le_of_ble_eq_true rfl) (l' := [some (.ref 1000), some (.ref x1), some (.ref x2), some (.ref x3), some (.int x4), some (.int r122.1), d6, d7, d8]) rfl ?_
                                                              refine x_aload_n (pc := 1329) dL_law_1329 (i := 2) rfl rfl ?_
                                                              refine x_aload_n (pc := 1330) dL_law_1330 (i := 0) rfl rfl ?_
                                                              refine x_iload (pc := 1331) dL_law_1331 rfl ?_
                                                              refine x_iconst (pc := 1333) (v := 1) dL_law_1333 (by decide) ?_
                                                              refine x_iadd (pc := 1334) dL_law_1334 ?_
                                                              refine x_sld (pc := 1335) (b := b) (L := L) (xs := xs) rfl dL_law_1335 (fun v123 => ?_)
                                                              refine x_callVi (pc := 1336) (As := [.int v123]) (rest := []) (vx := fun a => a.1) (μf := fun a => a.2) fcX11 (mX11_letterAt S r122.2.1 (cx + r122.2.2) (6 * (cx + r122.2.2)) x2 v123) (fun _ => rfl) rfl (fun _ h => ifok h) dL_law_1336 q796 kX11_letterAt rfl ⟨Nat.le_of_ble_eq_true rfl, Nat.le_of_ble_eq_true rfl⟩ rfl (Nat.le_of_ble_eq_true rfl) (fun r124 => ?_)
                                                              refine x_istore (pc := 1339) dL_law_1339 (Nat.le_of_ble_eq_true rfl) (l' := [some (.ref 1000), some (.ref x1), some (.ref x2), some (.ref x3), some (.int x4), some (.int r122.1), some (.int r124.1), d7, d8]) rfl ?_
                                                              refine x_aload_n (pc := 1341) dL_law_1341 (i := 2) rfl rfl ?_
                                                              refine x_callVi (pc := 1342) (As := []) (rest := []) (vx := fun a => a) (μf := fun _ => r124.2) fcX11 (mX11_thrown S r124.2 (cx + r122.2.2) (6 * (cx + r122.2.2)) x2) (fun _ => rfl) rfl (fun _ h => ifok h) dL_law_1342 q216 kX11_thrown rfl ⟨Nat.le_of_ble_eq_true rfl, Nat.le_of_ble_eq_true rfl⟩ rfl (Nat.le_of_ble_eq_true rfl) (fun v125 => ?_)
                                                              refine x_iload (pc := 1345) dL_law_1345 rfl ?_
                                                              refine x_icmp_eq (pc := 1347) (tgt := 1352) dL_law_1347 (by decide) ?_ ?_
                                                              · refine x_iload (pc := 1352) dL_law_1352 rfl ?_
                                                                refine x_if_ne (pc := 1354) (tgt := 1369) dL_law_1354 (by decide) ?_ ?_
                                                                · refine x_aload_n (pc := 1357) dL_law_1357 (i := 3) rfl rfl ?_
                                                                  refine x_iconst (pc := 1358) (v := 0) dL_law_1358 (by decide) ?_
                                                                  refine x_ldL (pc := 1359) dL_law_1359 (fun v126 => ?_)
                                                                  refine x_iload (pc := 1360) dL_law_1360 rfl ?_
                                                                  refine x_i2l (pc := 1362) dL_law_1362 ?_
                                                                  refine x_lcmp (pc := 1363) dL_law_1363 ?_
                                                                  refine x_if_eq (pc := 1364) (tgt := 1369) dL_law_1364 (by decide) ?_ ?_
                                                                  · exact xL_law_1369 (k23 := (lL_law_23 L xs S n)) ih r124.2 (cx + r122.2.2) x1 x2 x3 x4 _ _ _ _
                                                                  · refine x_iconst (pc := 1367) (v := 0) dL_law_1367 (by decide) ?_
                                                                    exact x_iret rfl dL_law_1368 rfl rfl
                                                                · exact xL_law_1369 (k23 := (lL_law_23 L xs S n)) ih r124.2 (cx + r122.2.2) x1 x2 x3 x4 _ _ _ _
                                                              · refine x_iconst (pc := 1350) (v := 0) dL_law_1350 (by decide) ?_
                                                                exact x_iret rfl dL_law_1351 rfl rfl
                                                            · refine mX.ite (fun h27 => ?_) (fun h27 => ?_)
                                                              · refine x_tableIn (pc := 39) (tgt := 1372) (off := 1333) dL_law_39 (by omega) (by omega) (by rw [h27]; rfl) (by decide) ?_
                                                                refine x_aload_n (pc := 1372) dL_law_1372 (i := 1) rfl rfl ?_
                                                                refine x_callVi (pc := 1373) (As := []) (rest := []) (vx := fun a => a) (μf := fun _ => μ) fcX10 (mX10_window S μ cx (6 * cx) x1) (fun _ => rfl) rfl (fun _ h => ifok h) dL_law_1373 q800 kX10_window rfl ⟨Nat.le_of_ble_eq_true rfl, Nat.le_of_ble_eq_true rfl⟩ rfl (Nat.le_of_ble_eq_true rfl) (fun v127 => ?_)
                                                                refine x_aload_n (pc := 1376) dL_law_1376 (i := 2) rfl rfl ?_
                                                                refine x_callVi (pc := 1377) (As := []) (rest := [.int v127]) (vx := fun a => a.1) (μf := fun a => a.2) fcX11 (mX11_window S μ cx (6 * cx) x2) (fun _ => rfl) rfl (fun _ h => ifok h) dL_law_1377 q804 kX11_window rfl ⟨Nat.le_of_ble_eq_true rfl, Nat.le_of_ble_eq_true rfl⟩ rfl (Nat.le_of_ble_eq_true rfl) (fun r128 => ?_)
                                                                refine x_icmp_eq (pc := 1380) (tgt := 2293) dL_law_1380 (by decide) ?_ ?_
                                                                · exact xL_law_2293 (k23 := (lL_law_23 L xs S n)) ih r128.2 cx x1 x2 x3 x4 _ _ _ _
                                                                · refine x_iconst (pc := 1383) (v := 0) dL_law_1383 (by decide) ?_
                                                                  exact x_iret rfl dL_law_1384 rfl rfl
                                                              · refine mX.ite (fun h28 => ?_) (fun h28 => ?_)
                                                                · refine x_tableIn (pc := 39) (tgt := 1385) (off := 1346) dL_law_39 (by omega) (by omega) (by rw [h28]; rfl) (by decide) ?_
                                                                  refine x_aload_n (pc := 1385) dL_law_1385 (i := 1) rfl rfl ?_
                                                                  refine x_callVi (pc := 1386) (As := []) (rest := []) (vx := fun a => a) (μf := fun _ => μ) fcX10 (mX10_shortest S μ cx (6 * cx) x1) (fun _ => rfl) rfl (fun _ h => ifok h) dL_law_1386 q808 kX10_shortest rfl ⟨Nat.le_of_ble_eq_true rfl, Nat.le_of_ble_eq_true rfl⟩ rfl (Nat.le_of_ble_eq_true rfl) (fun v129 => ?_)
                                                                  refine x_aload_n (pc := 1389) dL_law_1389 (i := 2) rfl rfl ?_
                                                                  refine x_callVi (pc := 1390) (As := []) (rest := [.int v129]) (vx := fun a => a.1) (μf := fun a => a.2) fcX11 (mX11_shortest S μ cx (6 * cx) x2) (fun _ => rfl) rfl (fun _ h => ifok h) dL_law_1390 q812 kX11_shortest rfl ⟨Nat.le_of_ble_eq_true rfl, Nat.le_of_ble_eq_true rfl⟩ rfl (Nat.le_of_ble_eq_true rfl) (fun r130 => ?_)
                                                                  refine x_icmp_eq (pc := 1393) (tgt := 2293) dL_law_1393 (by decide) ?_ ?_
                                                                  · exact xL_law_2293 (k23 := (lL_law_23 L xs S n)) ih r130.2 cx x1 x2 x3 x4 _ _ _ _
                                                                  · refine x_iconst (pc := 1396) (v := 0) dL_law_1396 (by decide) ?_
                                                                    exact x_iret rfl dL_law_1397 rfl rfl
                                                                · refine mX.ite (fun h29 => ?_) (fun h29 => ?_)
                                                                  · refine x_tableIn (pc := 39) (tgt := 1398) (off := 1359) dL_law_39 (by omega) (by omega) (by rw [h29]; rfl) (by decide) ?_
                                                                    refine x_aload_n (pc := 1398) dL_law_1398 (i := 1) rfl rfl ?_
                                                                    refine x_callVi (pc := 1399) (As := []) (rest := []) (vx := fun a => a) (μf := fun _ => μ) fcX10 (mX10_longest S μ cx (6 * cx) x1) (fun _ => rfl) rfl (fun _ h => ifok h) dL_law_1399 q816 kX10_longest rfl ⟨Nat.le_of_ble_eq_true rfl, Nat.le_of_ble_eq_true rfl⟩ rfl (Nat.le_of_ble_eq_true rfl) (fun v131 => ?_)
                                                                    refine x_aload_n (pc := 1402) dL_law_1402 (i := 2) rfl rfl ?_
                                                                    refine x_callVi (pc := 1403) (As := []) (rest := [.int v131]) (vx := fun a => a.1) (μf := fun a => a.2) fcX11 (mX11_longest S μ cx (6 * cx) x2) (fun _ => rfl) rfl (fun _ h => ifok h) dL_law_1403 q820 kX11_longest rfl ⟨Nat.le_of_ble_eq_true rfl, Nat.le_of_ble_eq_true rfl⟩ rfl (Nat.le_of_ble_eq_true rfl) (fun r132 => ?_)
                                                                    refine x_icmp_eq (pc := 1406) (tgt := 2293) dL_law_1406 (by decide) ?_ ?_
                                                                    · exact xL_law_2293 (k23 := (lL_law_23 L xs S n)) ih r132.2 cx x1 x2 x3 x4 _ _ _ _
                                                                    · refine x_iconst (pc := 1409) (v := 0) dL_law_1409 (by decide) ?_
                                                                      exact x_iret rfl dL_law_1410 rfl rfl
                                                                  · refine mX.ite (fun h30 => ?_) (fun h30 => ?_)
                                                                    · refine x_tableIn (pc := 39) (tgt := 1411) (off := 1372) dL_law_39 (by omega) (by omega) (by rw [h30]; rfl) (by decide) ?_
                                                                      refine x_aload_n (pc := 1411) dL_law_1411 (i := 1) rfl rfl ?_
                                                                      refine x_callVi (pc := 1412) (As := []) (rest := []) (vx := fun a => a) (μf := fun _ => μ) fcX10 (mX10_tokens S μ cx (6 * cx) x1) (fun _ => rfl) rfl (fun _ h => ifok h) dL_law_1412 q824 kX10_tokens rfl ⟨Nat.le_of_ble_eq_true rfl, Nat.le_of_ble_eq_true rfl⟩ rfl (Nat.le_of_ble_eq_true rfl) (fun v133 => ?_)
                                                                      refine x_aload_n (pc := 1415) dL_law_1415 (i := 2) rfl rfl ?_
                                                                      refine x_callVi (pc := 1416) (As := []) (rest := [.int v133]) (vx := fun a => a.1) (μf := fun a => a.2) fcX11 (mX11_tokens S μ cx (6 * cx) x2) (fun _ => rfl) rfl (fun _ h => ifok h) dL_law_1416 q828 kX11_tokens rfl ⟨Nat.le_of_ble_eq_true rfl, Nat.le_of_ble_eq_true rfl⟩ rfl (Nat.le_of_ble_eq_true rfl) (fun r134 => ?_)
                                                                      refine x_icmp_eq (pc := 1419) (tgt := 2293) dL_law_1419 (by decide) ?_ ?_
                                                                      · exact xL_law_2293 (k23 := (lL_law_23 L xs S n)) ih r134.2 cx x1 x2 x3 x4 _ _ _ _
                                                                      · refine x_iconst (pc := 1422) (v := 0) dL_law_1422 (by decide) ?_
                                                                        exact x_iret rfl dL_law_1423 rfl rfl
                                                                    · refine mX.ite (fun h31 => ?_) (fun h31 => ?_)
                                                                      · refine x_tableIn (pc := 39) (tgt := 1424) (off := 1385) dL_law_39 (by omega) (by omega) (by rw [h31]; rfl) (by decide) ?_
                                                                        refine x_aload_n (pc := 1424) dL_law_1424 (i := 1) rfl rfl ?_
                                                                        refine x_aload_n (pc := 1425) dL_law_1425 (i := 0) rfl rfl ?_
                                                                        refine x_iload (pc := 1426) dL_law_1426 rfl ?_
                                                                        refine x_iconst (pc := 1428) (v := 1) dL_law_1428 (by decide) ?_
                                                                        refine x_iadd (pc := 1429) dL_law_1429 ?_
                                                                        refine x_sld (pc := 1430) (b := b) (L := L) (xs := xs) rfl dL_law_1430 (fun v135 => ?_)
                                                                        refine x_aload_n (pc := 1431) dL_law_1431 (i := 3) rfl rfl ?_
                                                                        refine x_callH (pc := 1432) (As := [.ref x1, .int v135, .ref x3]) (rest := []) (mL_isRepeat S μ cx (6 * cx) x1 v135 x3) rfl dL_law_1432 q832 kL_isRepeat rfl ⟨Nat.le_of_ble_eq_true rfl, Nat.le_of_ble_eq_true rfl⟩ rfl (Nat.le_of_ble_eq_true rfl) (fun r136 => ?_)
                                                                        refine x_istore (pc := 1435) dL_law_1435 (Nat.le_of_ble_eq_true rfl) (l' := [some (.ref 1000), some (.ref x1), some (.ref x2), some (.ref x3), some (.int x4), some (.int r136.1), d6, d7, d8]) rfl ?_
                                                                        refine x_aload_n (pc := 1437) dL_law_1437 (i := 2) rfl rfl ?_
                                                                        refine x_aload_n (pc := 1438) dL_law_1438 (i := 0) rfl rfl ?_
                                                                        refine x_iload (pc := 1439) dL_law_1439 rfl ?_
                                                                        refine x_iconst (pc := 1441) (v := 1) dL_law_1441 (by decide) ?_
                                                                        refine x_iadd (pc := 1442) dL_law_1442 ?_
                                                                        refine x_sld (pc := 1443) (b := b) (L := L) (xs := xs) rfl dL_law_1443 (fun v137 => ?_)
                                                                        refine x_callVi (pc := 1444) (As := [.int v137]) (rest := []) (vx := fun a => a.1) (μf := fun a => a.2) fcX11 (mX11_isRepeat S r136.2.1 (cx + r136.2.2) (6 * (cx + r136.2.2)) x2 v137) (fun _ => rfl) rfl (fun _ h => ifok h) dL_law_1444 q844 kX11_isRepeat rfl ⟨Nat.le_of_ble_eq_true rfl, Nat.le_of_ble_eq_true rfl⟩ rfl (Nat.le_of_ble_eq_true rfl) (fun r138 => ?_)
                                                                        refine x_istore (pc := 1447) dL_law_1447 (Nat.le_of_ble_eq_true rfl) (l' := [some (.ref 1000), some (.ref x1), some (.ref x2), some (.ref x3), some (.int x4), some (.int r136.1), some (.int r138.1), d7, d8]) rfl ?_
                                                                        refine x_aload_n (pc := 1449) dL_law_1449 (i := 2) rfl rfl ?_
                                                                        refine x_callVi (pc := 1450) (As := []) (rest := []) (vx := fun a => a) (μf := fun _ => r138.2) fcX11 (mX11_thrown S r138.2 (cx + r136.2.2) (6 * (cx + r136.2.2)) x2) (fun _ => rfl) rfl (fun _ h => ifok h) dL_law_1450 q216 kX11_thrown rfl ⟨Nat.le_of_ble_eq_true rfl, Nat.le_of_ble_eq_true rfl⟩ rfl (Nat.le_of_ble_eq_true rfl) (fun v139 => ?_)
                                                                        refine x_iload (pc := 1453) dL_law_1453 rfl ?_
                                                                        refine x_icmp_eq (pc := 1455) (tgt := 1460) dL_law_1455 (by decide) ?_ ?_
                                                                        · refine x_iload (pc := 1460) dL_law_1460 rfl ?_
                                                                          refine x_if_ne (pc := 1462) (tgt := 1484) dL_law_1462 (by decide) ?_ ?_
                                                                          · refine x_aload_n (pc := 1465) dL_law_1465 (i := 3) rfl rfl ?_
                                                                            refine x_iconst (pc := 1466) (v := 0) dL_law_1466 (by decide) ?_
                                                                            refine x_ldL (pc := 1467) dL_law_1467 (fun v140 => ?_)
                                                                            refine x_iload (pc := 1468) dL_law_1468 rfl ?_
                                                                            refine x_if_eq (pc := 1470) (tgt := 1477) dL_law_1470 (by decide) ?_ ?_
                                                                            · refine x_lconst (pc := 1477) (v := 0) dL_law_1477 (by decide) ?_
                                                                              exact xL_law_1478 (k23 := (lL_law_23 L xs S n)) ih r138.2 (cx + r136.2.2) x1 x2 x3 x4 (0 : Int64) v140 _ _ _ _
                                                                            · refine x_lconst (pc := 1473) (v := 1) dL_law_1473 (by decide) ?_
                                                                              refine x_goto (pc := 1474) (tgt := 1478) dL_law_1474 (by decide) ?_
                                                                              exact xL_law_1478 (k23 := (lL_law_23 L xs S n)) ih r138.2 (cx + r136.2.2) x1 x2 x3 x4 (1 : Int64) v140 _ _ _ _
                                                                          · exact xL_law_1484 (k23 := (lL_law_23 L xs S n)) ih r138.2 (cx + r136.2.2) x1 x2 x3 x4 _ _ _ _
                                                                        · refine x_iconst (pc := 1458) (v := 0) dL_law_1458 (by decide) ?_
                                                                          exact x_iret rfl dL_law_1459 rfl rfl
                                                                      · refine mX.ite (fun h32 => ?_) (fun h32 => ?_)
                                                                        · refine x_tableIn (pc := 39) (tgt := 1487) (off := 1448) dL_law_39 (by omega) (by omega) (by rw [h32]; rfl) (by decide) ?_
                                                                          refine x_aload_n (pc := 1487) dL_law_1487 (i := 1) rfl rfl ?_
                                                                          refine x_aload_n (pc := 1488) dL_law_1488 (i := 0) rfl rfl ?_
                                                                          refine x_iload (pc := 1489) dL_law_1489 rfl ?_
                                                                          refine x_iconst (pc := 1491) (v := 1) dL_law_1491 (by decide) ?_
                                                                          refine x_iadd (pc := 1492) dL_law_1492 ?_
                                                                          refine x_sld (pc := 1493) (b := b) (L := L) (xs := xs) rfl dL_law_1493 (fun v141 => ?_)
                                                                          refine x_aload_n (pc := 1494) dL_law_1494 (i := 3) rfl rfl ?_
                                                                          refine x_callH (pc := 1495) (As := [.ref x1, .int v141, .ref x3]) (rest := []) (mL_letterOf S μ cx (6 * cx) x1 v141 x3) rfl dL_law_1495 q852 kL_letterOf rfl ⟨Nat.le_of_ble_eq_true rfl, Nat.le_of_ble_eq_true rfl⟩ rfl (Nat.le_of_ble_eq_true rfl) (fun r142 => ?_)
                                                                          refine x_istore (pc := 1498) dL_law_1498 (Nat.le_of_ble_eq_true rfl) (l' := [some (.ref 1000), some (.ref x1), some (.ref x2), some (.ref x3), some (.int x4), some (.int r142.1), d6, d7, d8]) rfl ?_
                                                                          refine x_aload_n (pc := 1500) dL_law_1500 (i := 2) rfl rfl ?_
                                                                          refine x_aload_n (pc := 1501) dL_law_1501 (i := 0) rfl rfl ?_
                                                                          refine x_iload (pc := 1502) dL_law_1502 rfl ?_
                                                                          refine x_iconst (pc := 1504) (v := 1) dL_law_1504 (by decide) ?_
                                                                          refine x_iadd (pc := 1505) dL_law_1505 ?_
                                                                          refine x_sld (pc := 1506) (b := b) (L := L) (xs := xs) rfl dL_law_1506 (fun v143 => ?_)
                                                                          refine x_callVi (pc := 1507) (As := [.int v143]) (rest := []) (vx := fun a => a.1) (μf := fun a => a.2) fcX11 (mX11_letterOf S r142.2.1 (cx + r142.2.2) (6 * (cx + r142.2.2)) x2 v143) (fun _ => rfl) rfl (fun _ h => ifok h) dL_law_1507 q860 kX11_letterOf rfl ⟨Nat.le_of_ble_eq_true rfl, Nat.le_of_ble_eq_true rfl⟩ rfl (Nat.le_of_ble_eq_true rfl) (fun r144 => ?_)
                                                                          refine x_istore (pc := 1510) dL_law_1510 (Nat.le_of_ble_eq_true rfl) (l' := [some (.ref 1000), some (.ref x1), some (.ref x2), some (.ref x3), some (.int x4), some (.int r142.1), some (.int r144.1), d7, d8]) rfl ?_
                                                                          refine x_aload_n (pc := 1512) dL_law_1512 (i := 2) rfl rfl ?_
                                                                          refine x_callVi (pc := 1513) (As := []) (rest := []) (vx := fun a => a) (μf := fun _ => r144.2) fcX11 (mX11_thrown S r144.2 (cx + r142.2.2) (6 * (cx + r142.2.2)) x2) (fun _ => rfl) rfl (fun _ h => ifok h) dL_law_1513 q216 kX11_thrown rfl ⟨Nat.le_of_ble_eq_true rfl, Nat.le_of_ble_eq_true rfl⟩ rfl (Nat.le_of_ble_eq_true rfl) (fun v145 => ?_)
                                                                          refine x_iload (pc := 1516) dL_law_1516 rfl ?_
                                                                          refine x_icmp_eq (pc := 1518) (tgt := 1523) dL_law_1518 (by decide) ?_ ?_
                                                                          · refine x_iload (pc := 1523) dL_law_1523 rfl ?_
                                                                            refine x_if_ne (pc := 1525) (tgt := 1540) dL_law_1525 (by decide) ?_ ?_
                                                                            · refine x_aload_n (pc := 1528) dL_law_1528 (i := 3) rfl rfl ?_
                                                                              refine x_iconst (pc := 1529) (v := 0) dL_law_1529 (by decide) ?_
                                                                              refine x_ldL (pc := 1530) dL_law_1530 (fun v146 => ?_)
                                                                              refine x_iload (pc := 1531) dL_law_1531 rfl ?_
                                                                              refine x_i2l (pc := 1533) dL_law_1533 ?_
                                                                              refine x_lcmp (pc := 1534) dL_law_1534 ?_
                                                                              refine x_if_eq (pc := 1535) (tgt := 1540) dL_law_1535 (by decide) ?_ ?_
                                                                              · exact xL_law_1540 (k23 := (lL_law_23 L xs S n)) ih r144.2 (cx + r142.2.2) x1 x2 x3 x4 _ _ _ _
                                                                              · refine x_iconst (pc := 1538) (v := 0) dL_law_1538 (by decide) ?_
                                                                                exact x_iret rfl dL_law_1539 rfl rfl
                                                                            · exact xL_law_1540 (k23 := (lL_law_23 L xs S n)) ih r144.2 (cx + r142.2.2) x1 x2 x3 x4 _ _ _ _
                                                                          · refine x_iconst (pc := 1521) (v := 0) dL_law_1521 (by decide) ?_
                                                                            exact x_iret rfl dL_law_1522 rfl rfl
                                                                        · refine mX.ite (fun h33 => ?_) (fun h33 => ?_)
                                                                          · refine x_tableIn (pc := 39) (tgt := 1543) (off := 1504) dL_law_39 (by omega) (by omega) (by rw [h33]; rfl) (by decide) ?_
                                                                            refine x_aload_n (pc := 1543) dL_law_1543 (i := 1) rfl rfl ?_
                                                                            refine x_aload_n (pc := 1544) dL_law_1544 (i := 0) rfl rfl ?_
                                                                            refine x_iload (pc := 1545) dL_law_1545 rfl ?_
                                                                            refine x_iconst (pc := 1547) (v := 1) dL_law_1547 (by decide) ?_
                                                                            refine x_iadd (pc := 1548) dL_law_1548 ?_
                                                                            refine x_sld (pc := 1549) (b := b) (L := L) (xs := xs) rfl dL_law_1549 (fun v147 => ?_)
                                                                            refine x_aload_n (pc := 1550) dL_law_1550 (i := 3) rfl rfl ?_
                                                                            refine x_callH (pc := 1551) (As := [.ref x1, .int v147, .ref x3]) (rest := []) (mL_distanceOf S μ cx (6 * cx) x1 v147 x3) rfl dL_law_1551 q864 kL_distanceOf rfl ⟨Nat.le_of_ble_eq_true rfl, Nat.le_of_ble_eq_true rfl⟩ rfl (Nat.le_of_ble_eq_true rfl) (fun r148 => ?_)
                                                                            refine x_istore (pc := 1554) dL_law_1554 (Nat.le_of_ble_eq_true rfl) (l' := [some (.ref 1000), some (.ref x1), some (.ref x2), some (.ref x3), some (.int x4), some (.int r148.1), d6, d7, d8]) rfl ?_
                                                                            refine x_aload_n (pc := 1556) dL_law_1556 (i := 2) rfl rfl ?_
                                                                            refine x_aload_n (pc := 1557) dL_law_1557 (i := 0) rfl rfl ?_
                                                                            refine x_iload (pc := 1558) dL_law_1558 rfl ?_
                                                                            refine x_iconst (pc := 1560) (v := 1) dL_law_1560 (by decide) ?_
                                                                            refine x_iadd (pc := 1561) dL_law_1561 ?_
                                                                            refine x_sld (pc := 1562) (b := b) (L := L) (xs := xs) rfl dL_law_1562 (fun v149 => ?_)
                                                                            refine x_callVi (pc := 1563) (As := [.int v149]) (rest := []) (vx := fun a => a.1) (μf := fun a => a.2) fcX11 (mX11_distanceOf S r148.2.1 (cx + r148.2.2) (6 * (cx + r148.2.2)) x2 v149) (fun _ => rfl) rfl (fun _ h => ifok h) dL_law_1563 q871 kX11_distanceOf rfl ⟨Nat.le_of_ble_eq_true rfl, Nat.le_of_ble_eq_true rfl⟩ rfl (Nat.le_of_ble_eq_true rfl) (fun r150 => ?_)
                                                                            refine x_istore (pc := 1566) dL_law_1566 (Nat.le_of_ble_eq_true rfl) (l' := [some (.ref 1000), some (.ref x1), some (.ref x2), some (.ref x3), some (.int x4), some (.int r148.1), some (.int r150.1), d7, d8]) rfl ?_
                                                                            refine x_aload_n (pc := 1568) dL_law_1568 (i := 2) rfl rfl ?_
                                                                            refine x_callVi (pc := 1569) (As := []) (rest := []) (vx := fun a => a) (μf := fun _ => r150.2) fcX11 (mX11_thrown S r150.2 (cx + r148.2.2) (6 * (cx + r148.2.2)) x2) (fun _ => rfl) rfl (fun _ h => ifok h) dL_law_1569 q216 kX11_thrown rfl ⟨Nat.le_of_ble_eq_true rfl, Nat.le_of_ble_eq_true rfl⟩ rfl (Nat.le_of_ble_eq_true rfl) (fun v151 => ?_)
                                                                            refine x_iload (pc := 1572) dL_law_1572 rfl ?_
                                                                            refine x_icmp_eq (pc := 1574) (tgt := 1579) dL_law_1574 (by decide) ?_ ?_
                                                                            · refine x_iload (pc := 1579) dL_law_1579 rfl ?_
                                                                              refine x_if_ne (pc := 1581) (tgt := 1596) dL_law_1581 (by decide) ?_ ?_
                                                                              · refine x_aload_n (pc := 1584) dL_law_1584 (i := 3) rfl rfl ?_
                                                                                refine x_iconst (pc := 1585) (v := 0) dL_law_1585 (by decide) ?_
                                                                                refine x_ldL (pc := 1586) dL_law_1586 (fun v152 => ?_)
                                                                                refine x_iload (pc := 1587) dL_law_1587 rfl ?_
                                                                                refine x_i2l (pc := 1589) dL_law_1589 ?_
                                                                                refine x_lcmp (pc := 1590) dL_law_1590 ?_
                                                                                refine x_if_eq (pc := 1591) (tgt := 1596) dL_law_1591 (by decide) ?_ ?_
                                                                                · exact xL_law_1596 (k23 := (lL_law_23 L xs S n)) ih r150.2 (cx + r148.2.2) x1 x2 x3 x4 _ _ _ _
                                                                                · refine x_iconst (pc := 1594) (v := 0) dL_law_1594 (by decide) ?_
                                                                                  exact x_iret rfl dL_law_1595 rfl rfl
                                                                              · exact xL_law_1596 (k23 := (lL_law_23 L xs S n)) ih r150.2 (cx + r148.2.2) x1 x2 x3 x4 _ _ _ _
                                                                            · refine x_iconst (pc := 1577) (v := 0) dL_law_1577 (by decide) ?_
                                                                              exact x_iret rfl dL_law_1578 rfl rfl
                                                                          · refine mX.ite (fun h34 => ?_) (fun h34 => ?_)
                                                                            · refine x_tableIn (pc := 39) (tgt := 1599) (off := 1560) dL_law_39 (by omega) (by omega) (by rw [h34]; rfl) (by decide) ?_
                                                                              refine x_aload_n (pc := 1599) dL_law_1599 (i := 1) rfl rfl ?_
                                                                              refine x_aload_n (pc := 1600) dL_law_1600 (i := 0) rfl rfl ?_
                                                                              refine x_iload (pc := 1601) dL_law_1601 rfl ?_
                                                                              refine x_iconst (pc := 1603) (v := 1) dL_law_1603 (by decide) ?_
                                                                              refine x_iadd (pc := 1604) dL_law_1604 ?_
                                                                              refine x_sld (pc := 1605) (b := b) (L := L) (xs := xs) rfl dL_law_1605 (fun v153 => ?_)
                                                                              refine x_aload_n (pc := 1606) dL_law_1606 (i := 3) rfl rfl ?_
                                                                              refine x_callH (pc := 1607) (As := [.ref x1, .int v153, .ref x3]) (rest := []) (mL_lengthOf S μ cx (6 * cx) x1 v153 x3) rfl dL_law_1607 q875 kL_lengthOf rfl ⟨Nat.le_of_ble_eq_true rfl, Nat.le_of_ble_eq_true rfl⟩ rfl (Nat.le_of_ble_eq_true rfl) (fun r154 => ?_)
                                                                              refine x_istore (pc := 1610) dL_law_1610 (Nat.le_of_ble_eq_true rfl) (l' := [some (.ref 1000), some (.ref x1), some (.ref x2), some (.ref x3), some (.int x4), some (.int r154.1), d6, d7, d8]) rfl ?_
                                                                              refine x_aload_n (pc := 1612) dL_law_1612 (i := 2) rfl rfl ?_
                                                                              refine x_aload_n (pc := 1613) dL_law_1613 (i := 0) rfl rfl ?_
                                                                              refine x_iload (pc := 1614) dL_law_1614 rfl ?_
                                                                              refine x_iconst (pc := 1616) (v := 1) dL_law_1616 (by decide) ?_
                                                                              refine x_iadd (pc := 1617) dL_law_1617 ?_
                                                                              refine x_sld (pc := 1618) (b := b) (L := L) (xs := xs) rfl dL_law_1618 (fun v155 => ?_)
                                                                              refine x_callVi (pc := 1619) (As := [.int v155]) (rest := []) (vx := fun a => a.1) (μf := fun a => a.2) fcX11 (mX11_lengthOf S r154.2.1 (cx + r154.2.2) (6 * (cx + r154.2.2)) x2 v155) (fun _ => rfl) rfl (fun _ h => ifok h) dL_law_1619 q883 kX11_lengthOf rfl ⟨Nat.le_of_ble_eq_true rfl, Nat.le_of_ble_eq_true rfl⟩ rfl (Nat.le_of_ble_eq_true rfl) (fun r156 => ?_)
                                                                              refine x_istore (pc := 1622) dL_law_1622 (Nat.le_of_ble_eq_true rfl) (l' := [some (.ref 1000), some (.ref x1), some (.ref x2), some (.ref x3), some (.int x4), some (.int r154.1), some (.int r156.1), d7, d8]) rfl ?_
                                                                              refine x_aload_n (pc := 1624) dL_law_1624 (i := 2) rfl rfl ?_
                                                                              refine x_callVi (pc := 1625) (As := []) (rest := []) (vx := fun a => a) (μf := fun _ => r156.2) fcX11 (mX11_thrown S r156.2 (cx + r154.2.2) (6 * (cx + r154.2.2)) x2) (fun _ => rfl) rfl (fun _ h => ifok h) dL_law_1625 q216 kX11_thrown rfl ⟨Nat.le_of_ble_eq_true rfl, Nat.le_of_ble_eq_true rfl⟩ rfl (Nat.le_of_ble_eq_true rfl) (fun v157 => ?_)
                                                                              refine x_iload (pc := 1628) dL_law_1628 rfl ?_
                                                                              refine x_icmp_eq (pc := 1630) (tgt := 1635) dL_law_1630 (by decide) ?_ ?_
                                                                              · refine x_iload (pc := 1635) dL_law_1635 rfl ?_
                                                                                refine x_if_ne (pc := 1637) (tgt := 1652) dL_law_1637 (by decide) ?_ ?_
                                                                                · refine x_aload_n (pc := 1640) dL_law_1640 (i := 3) rfl rfl ?_
                                                                                  refine x_iconst (pc := 1641) (v := 0) dL_law_1641 (by decide) ?_
                                                                                  refine x_ldL (pc := 1642) dL_law_1642 (fun v158 => ?_)
                                                                                  refine x_iload (pc := 1643) dL_law_1643 rfl ?_
                                                                                  refine x_i2l (pc := 1645) dL_law_1645 ?_
                                                                                  refine x_lcmp (pc := 1646) dL_law_1646 ?_
                                                                                  refine x_if_eq (pc := 1647) (tgt := 1652) dL_law_1647 (by decide) ?_ ?_
                                                                                  · exact xL_law_1652 (k23 := (lL_law_23 L xs S n)) ih r156.2 (cx + r154.2.2) x1 x2 x3 x4 _ _ _ _
                                                                                  · refine x_iconst (pc := 1650) (v := 0) dL_law_1650 (by decide) ?_
                                                                                    exact x_iret rfl dL_law_1651 rfl rfl
                                                                                · exact xL_law_1652 (k23 := (lL_law_23 L xs S n)) ih r156.2 (cx + r154.2.2) x1 x2 x3 x4 _ _ _ _
                                                                              · refine x_iconst (pc := 1633) (v := 0) dL_law_1633 (by decide) ?_
                                                                                exact x_iret rfl dL_law_1634 rfl rfl
                                                                            · refine mX.ite (fun h35 => ?_) (fun h35 => ?_)
                                                                              · refine x_tableIn (pc := 39) (tgt := 1655) (off := 1616) dL_law_39 (by omega) (by omega) (by rw [h35]; rfl) (by decide) ?_
                                                                                refine x_aload_n (pc := 1655) dL_law_1655 (i := 1) rfl rfl ?_
                                                                                refine x_callVi (pc := 1656) (As := []) (rest := []) (vx := fun a => a) (μf := fun _ => μ) fcX10 (mX10_sackCost S μ cx (6 * cx) x1) (fun _ => rfl) rfl (fun _ h => ifok h) dL_law_1656 q887 kX10_sackCost rfl ⟨Nat.le_of_ble_eq_true rfl, Nat.le_of_ble_eq_true rfl⟩ rfl (Nat.le_of_ble_eq_true rfl) (fun v159 => ?_)
                                                                                refine x_aload_n (pc := 1659) dL_law_1659 (i := 2) rfl rfl ?_
                                                                                refine x_callVi (pc := 1660) (As := []) (rest := [.int v159]) (vx := fun a => a.1) (μf := fun a => a.2) fcX11 (mX11_sackCost S μ cx (6 * cx) x2) (fun _ => rfl) rfl (fun _ h => ifok h) dL_law_1660 q897 kX11_sackCost rfl ⟨Nat.le_of_ble_eq_true rfl, Nat.le_of_ble_eq_true rfl⟩ rfl (Nat.le_of_ble_eq_true rfl) (fun r160 => ?_)
                                                                                refine x_icmp_eq (pc := 1663) (tgt := 2293) dL_law_1663 (by decide) ?_ ?_
                                                                                · exact xL_law_2293 (k23 := (lL_law_23 L xs S n)) ih r160.2 cx x1 x2 x3 x4 _ _ _ _
                                                                                · refine x_iconst (pc := 1666) (v := 0) dL_law_1666 (by decide) ?_
                                                                                  exact x_iret rfl dL_law_1667 rfl rfl
                                                                              · refine mX.ite (fun h36 => ?_) (fun h36 => ?_)
                                                                                · refine x_tableIn (pc := 39) (tgt := 1668) (off := 1629) dL_law_39 (by omega) (by omega) (by rw [h36]; rfl) (by decide) ?_
                                                                                  refine x_aload_n (pc := 1668) dL_law_1668 (i := 1) rfl rfl ?_
                                                                                  refine x_callVi (pc := 1669) (As := []) (rest := []) (vx := fun a => a) (μf := fun _ => μ) fcX10 (mX10_sackLetters S μ cx (6 * cx) x1) (fun _ => rfl) rfl (fun _ h => ifok h) dL_law_1669 q905 kX10_sackLetters rfl ⟨Nat.le_of_ble_eq_true rfl, Nat.le_of_ble_eq_true rfl⟩ rfl (Nat.le_of_ble_eq_true rfl) (fun v161 => ?_)
                                                                                  refine x_aload_n (pc := 1672) dL_law_1672 (i := 2) rfl rfl ?_
                                                                                  refine x_callVi (pc := 1673) (As := []) (rest := [.int v161]) (vx := fun a => a.1) (μf := fun a => a.2) fcX11 (mX11_sackLetters S μ cx (6 * cx) x2) (fun _ => rfl) rfl (fun _ h => ifok h) dL_law_1673 q914 kX11_sackLetters rfl ⟨Nat.le_of_ble_eq_true rfl, Nat.le_of_ble_eq_true rfl⟩ rfl (Nat.le_of_ble_eq_true rfl) (fun r162 => ?_)
                                                                                  refine x_icmp_eq (pc := 1676) (tgt := 2293) dL_law_1676 (by decide) ?_ ?_
                                                                                  · exact xL_law_2293 (k23 := (lL_law_23 L xs S n)) ih r162.2 cx x1 x2 x3 x4 _ _ _ _
                                                                                  · refine x_iconst (pc := 1679) (v := 0) dL_law_1679 (by decide) ?_
                                                                                    exact x_iret rfl dL_law_1680 rfl rfl
                                                                                · refine mX.ite (fun h37 => ?_) (fun h37 => ?_)
                                                                                  · refine x_tableIn (pc := 39) (tgt := 1681) (off := 1642) dL_law_39 (by omega) (by omega) (by rw [h37]; rfl) (by decide) ?_
                                                                                    refine x_aload_n (pc := 1681) dL_law_1681 (i := 1) rfl rfl ?_
                                                                                    refine x_callVi (pc := 1682) (As := []) (rest := []) (vx := fun a => a.1) (μf := fun a => a.2) fcX10 (mX10_wrongToken S μ cx (6 * cx) x1) (fun _ => rfl) rfl (fun _ h => ifok h) dL_law_1682 q922 kX10_wrongToken rfl ⟨Nat.le_of_ble_eq_true rfl, Nat.le_of_ble_eq_true rfl⟩ rfl (Nat.le_of_ble_eq_true rfl) (fun r163 => ?_)
                                                                                    refine x_aload_n (pc := 1685) dL_law_1685 (i := 2) rfl rfl ?_
                                                                                    refine x_callVi (pc := 1686) (As := []) (rest := [.int r163.1]) (vx := fun a => a.1) (μf := fun a => a.2) fcX11 (mX11_wrongToken S r163.2 cx (6 * cx) x2) (fun _ => rfl) rfl (fun _ h => ifok h) dL_law_1686 q927 kX11_wrongToken rfl ⟨Nat.le_of_ble_eq_true rfl, Nat.le_of_ble_eq_true rfl⟩ rfl (Nat.le_of_ble_eq_true rfl) (fun r164 => ?_)
                                                                                    refine x_icmp_eq (pc := 1689) (tgt := 2293) dL_law_1689 (by decide) ?_ ?_
                                                                                    · exact xL_law_2293 (k23 := (lL_law_23 L xs S n)) ih r164.2 cx x1 x2 x3 x4 _ _ _ _
                                                                                    · refine x_iconst (pc := 1692) (v := 0) dL_law_1692 (by decide) ?_
                                                                                      exact x_iret rfl dL_law_1693 rfl rfl
                                                                                  · refine mX.ite (fun h38 => ?_) (fun h38 => ?_)
                                                                                    · refine x_tableIn (pc := 39) (tgt := 1694) (off := 1655) dL_law_39 (by omega) (by omega) (by rw [h38]; rfl) (by decide) ?_
                                                                                      refine x_aload_n (pc := 1694) dL_law_1694 (i := 1) rfl rfl ?_
                                                                                      refine x_callVi (pc := 1695) (As := []) (rest := []) (vx := fun a => a.1) (μf := fun a => a.2) fcX10 (mX10_wrongReason S μ cx (6 * cx) x1) (fun _ => rfl) rfl (fun _ h => ifok h) dL_law_1695 q931 kX10_wrongReason rfl ⟨Nat.le_of_ble_eq_true rfl, Nat.le_of_ble_eq_true rfl⟩ rfl (Nat.le_of_ble_eq_true rfl) (fun r165 => ?_)
                                                                                      refine x_aload_n (pc := 1698) dL_law_1698 (i := 2) rfl rfl ?_
                                                                                      refine x_callVi (pc := 1699) (As := []) (rest := [.int r165.1]) (vx := fun a => a.1) (μf := fun a => a.2) fcX11 (mX11_wrongReason S r165.2 cx (6 * cx) x2) (fun _ => rfl) rfl (fun _ h => ifok h) dL_law_1699 q935 kX11_wrongReason rfl ⟨Nat.le_of_ble_eq_true rfl, Nat.le_of_ble_eq_true rfl⟩ rfl (Nat.le_of_ble_eq_true rfl) (fun r166 => ?_)
                                                                                      refine x_icmp_eq (pc := 1702) (tgt := 2293) dL_law_1702 (by decide) ?_ ?_
                                                                                      · exact xL_law_2293 (k23 := (lL_law_23 L xs S n)) ih r166.2 cx x1 x2 x3 x4 _ _ _ _
                                                                                      · refine x_iconst (pc := 1705) (v := 0) dL_law_1705 (by decide) ?_
                                                                                        exact x_iret rfl dL_law_1706 rfl rfl
                                                                                    · refine mX.ite (fun h39 => ?_) (fun h39 => ?_)
                                                                                      · refine x_tableIn (pc := 39) (tgt := 1707) (off := 1668) dL_law_39 (by omega) (by omega) (by rw [h39]; rfl) (by decide) ?_
                                                                                        refine x_aload_n (pc := 1707) dL_law_1707 (i := 1) rfl rfl ?_
                                                                                        refine x_callVi (pc := 1708) (As := []) (rest := []) (vx := fun a => a.1) (μf := fun a => a.2) fcX10 (mX10_isForText S μ cx (6 * cx) x1) (fun _ => rfl) rfl (fun _ h => ifok h) dL_law_1708 q939 kX10_isForText rfl ⟨Nat.le_of_ble_eq_true rfl, Nat.le_of_ble_eq_true rfl⟩ rfl (Nat.le_of_ble_eq_true rfl) (fun r167 => ?_)
                                                                                        refine x_aload_n (pc := 1711) dL_law_1711 (i := 2) rfl rfl ?_
                                                                                        refine x_callVi (pc := 1712) (As := []) (rest := [.int r167.1]) (vx := fun a => a.1) (μf := fun a => a.2) fcX11 (mX11_isForText S r167.2 cx (6 * cx) x2) (fun _ => rfl) rfl (fun _ h => ifok h) dL_law_1712 q948 kX11_isForText rfl ⟨Nat.le_of_ble_eq_true rfl, Nat.le_of_ble_eq_true rfl⟩ rfl (Nat.le_of_ble_eq_true rfl) (fun r168 => ?_)
                                                                                        refine x_icmp_eq (pc := 1715) (tgt := 2293) dL_law_1715 (by decide) ?_ ?_
                                                                                        · exact xL_law_2293 (k23 := (lL_law_23 L xs S n)) ih r168.2 cx x1 x2 x3 x4 _ _ _ _
                                                                                        · refine x_iconst (pc := 1718) (v := 0) dL_law_1718 (by decide) ?_
                                                                                          exact x_iret rfl dL_law_1719 rfl rfl
                                                                                      · refine mX.ite (fun h40 => ?_) (fun h40 => ?_)
                                                                                        · refine x_tableIn (pc := 39) (tgt := 1720) (off := 1681) dL_law_39 (by omega) (by omega) (by rw [h40]; rfl) (by decide) ?_
                                                                                          refine x_aload_n (pc := 1720) dL_law_1720 (i := 1) rfl rfl ?_
                                                                                          refine x_aload_n (pc := 1721) dL_law_1721 (i := 0) rfl rfl ?_
                                                                                          refine x_iload (pc := 1722) dL_law_1722 rfl ?_
                                                                                          refine x_iconst (pc := 1724) (v := 1) dL_law_1724 (by decide) ?_
                                                                                          refine x_iadd (pc := 1725) dL_law_1725 ?_
                                                                                          refine x_sld (pc := 1726) (b := b) (L := L) (xs := xs) rfl dL_law_1726 (fun v169 => ?_)
                                                                                          refine x_aload_n (pc := 1727) dL_law_1727 (i := 3) rfl rfl ?_
                                                                                          refine x_callH (pc := 1728) (As := [.ref x1, .int v169, .ref x3]) (rest := []) (mL_repeatLength S μ cx (6 * cx) x1 v169 x3) rfl dL_law_1728 q956 kL_repeatLength rfl ⟨Nat.le_of_ble_eq_true rfl, Nat.le_of_ble_eq_true rfl⟩ rfl (Nat.le_of_ble_eq_true rfl) (fun r170 => ?_)
                                                                                          refine x_istore (pc := 1731) dL_law_1731 (Nat.le_of_ble_eq_true rfl) (l' := [some (.ref 1000), some (.ref x1), some (.ref x2), some (.ref x3), some (.int x4), some (.int r170.1), d6, d7, d8]) rfl ?_
                                                                                          refine x_aload_n (pc := 1733) dL_law_1733 (i := 2) rfl rfl ?_
                                                                                          refine x_aload_n (pc := 1734) dL_law_1734 (i := 0) rfl rfl ?_
                                                                                          refine x_iload (pc := 1735) dL_law_1735 rfl ?_
                                                                                          refine x_iconst (pc := 1737) (v := 1) dL_law_1737 (by decide) ?_
                                                                                          refine x_iadd (pc := 1738) dL_law_1738 ?_
                                                                                          refine x_sld (pc := 1739) (b := b) (L := L) (xs := xs) rfl dL_law_1739 (fun v171 => ?_)
                                                                                          refine x_callVi (pc := 1740) (As := [.int v171]) (rest := []) (vx := fun a => a.1) (μf := fun a => a.2) fcX11 (mX11_repeatLength S r170.2.1 (cx + r170.2.2) (6 * (cx + r170.2.2)) x2 v171) (fun _ => rfl) rfl (fun _ h => ifok h) dL_law_1740 q964 kX11_repeatLength rfl ⟨Nat.le_of_ble_eq_true rfl, Nat.le_of_ble_eq_true rfl⟩ rfl (Nat.le_of_ble_eq_true rfl) (fun r172 => ?_)
                                                                                          refine x_istore (pc := 1743) dL_law_1743 (Nat.le_of_ble_eq_true rfl) (l' := [some (.ref 1000), some (.ref x1), some (.ref x2), some (.ref x3), some (.int x4), some (.int r170.1), some (.int r172.1), d7, d8]) rfl ?_
                                                                                          refine x_aload_n (pc := 1745) dL_law_1745 (i := 2) rfl rfl ?_
                                                                                          refine x_callVi (pc := 1746) (As := []) (rest := []) (vx := fun a => a) (μf := fun _ => r172.2) fcX11 (mX11_thrown S r172.2 (cx + r170.2.2) (6 * (cx + r170.2.2)) x2) (fun _ => rfl) rfl (fun _ h => ifok h) dL_law_1746 q216 kX11_thrown rfl ⟨Nat.le_of_ble_eq_true rfl, Nat.le_of_ble_eq_true rfl⟩ rfl (Nat.le_of_ble_eq_true rfl) (fun v173 => ?_)
                                                                                          refine x_iload (pc := 1749) dL_law_1749 rfl ?_
                                                                                          refine x_icmp_eq (pc := 1751) (tgt := 1756) dL_law_1751 (by decide) ?_ ?_
                                                                                          · refine x_iload (pc := 1756) dL_law_1756 rfl ?_
                                                                                            refine x_if_ne (pc := 1758) (tgt := 1773) dL_law_1758 (by decide) ?_ ?_
                                                                                            · refine x_aload_n (pc := 1761) dL_law_1761 (i := 3) rfl rfl ?_
                                                                                              refine x_iconst (pc := 1762) (v := 0) dL_law_1762 (by decide) ?_
                                                                                              refine x_ldL (pc := 1763) dL_law_1763 (fun v174 => ?_)
                                                                                              refine x_iload (pc := 1764) dL_law_1764 rfl ?_
                                                                                              refine x_i2l (pc := 1766) dL_law_1766 ?_
                                                                                              refine x_lcmp (pc := 1767) dL_law_1767 ?_
                                                                                              refine x_if_eq (pc := 1768) (tgt := 1773) dL_law_1768 (by decide) ?_ ?_
                                                                                              · exact xL_law_1773 (k23 := (lL_law_23 L xs S n)) ih r172.2 (cx + r170.2.2) x1 x2 x3 x4 _ _ _ _
                                                                                              · refine x_iconst (pc := 1771) (v := 0) dL_law_1771 (by decide) ?_
                                                                                                exact x_iret rfl dL_law_1772 rfl rfl
                                                                                            · exact xL_law_1773 (k23 := (lL_law_23 L xs S n)) ih r172.2 (cx + r170.2.2) x1 x2 x3 x4 _ _ _ _
                                                                                          · refine x_iconst (pc := 1754) (v := 0) dL_law_1754 (by decide) ?_
                                                                                            exact x_iret rfl dL_law_1755 rfl rfl
                                                                                        · refine mX.ite (fun h41 => ?_) (fun h41 => ?_)
                                                                                          · refine x_tableIn (pc := 39) (tgt := 1776) (off := 1737) dL_law_39 (by omega) (by omega) (by rw [h41]; rfl) (by decide) ?_
                                                                                            refine x_aload_n (pc := 1776) dL_law_1776 (i := 1) rfl rfl ?_
                                                                                            refine x_aload_n (pc := 1777) dL_law_1777 (i := 0) rfl rfl ?_
                                                                                            refine x_iload (pc := 1778) dL_law_1778 rfl ?_
                                                                                            refine x_iconst (pc := 1780) (v := 1) dL_law_1780 (by decide) ?_
                                                                                            refine x_iadd (pc := 1781) dL_law_1781 ?_
                                                                                            refine x_sld (pc := 1782) (b := b) (L := L) (xs := xs) rfl dL_law_1782 (fun v175 => ?_)
                                                                                            refine x_aload_n (pc := 1783) dL_law_1783 (i := 3) rfl rfl ?_
                                                                                            refine x_callH (pc := 1784) (As := [.ref x1, .int v175, .ref x3]) (rest := []) (mL_repeatLengthByPairs S μ cx (6 * cx) x1 v175 x3) rfl dL_law_1784 q968 kL_repeatLengthByPairs rfl ⟨Nat.le_of_ble_eq_true rfl, Nat.le_of_ble_eq_true rfl⟩ rfl (Nat.le_of_ble_eq_true rfl) (fun r176 => ?_)
                                                                                            refine x_istore (pc := 1787) dL_law_1787 (Nat.le_of_ble_eq_true rfl) (l' := [some (.ref 1000), some (.ref x1), some (.ref x2), some (.ref x3), some (.int x4), some (.int r176.1), d6, d7, d8]) rfl ?_
                                                                                            refine x_aload_n (pc := 1789) dL_law_1789 (i := 2) rfl rfl ?_
                                                                                            refine x_aload_n (pc := 1790) dL_law_1790 (i := 0) rfl rfl ?_
                                                                                            refine x_iload (pc := 1791) dL_law_1791 rfl ?_
                                                                                            refine x_iconst (pc := 1793) (v := 1) dL_law_1793 (by decide) ?_
                                                                                            refine x_iadd (pc := 1794) dL_law_1794 ?_
                                                                                            refine x_sld (pc := 1795) (b := b) (L := L) (xs := xs) rfl dL_law_1795 (fun v177 => ?_)
                                                                                            refine x_callVi (pc := 1796) (As := [.int v177]) (rest := []) (vx := fun a => a.1) (μf := fun a => a.2) fcX11 (mX11_repeatLengthByPairs S r176.2.1 (cx + r176.2.2) (6 * (cx + r176.2.2)) x2 v177) (fun _ => rfl) rfl (fun _ h => ifok h) dL_law_1796 q994 kX11_repeatLengthByPairs rfl ⟨Nat.le_of_ble_eq_true rfl, Nat.le_of_ble_eq_true rfl⟩ rfl (Nat.le_of_ble_eq_true rfl) (fun r178 => ?_)
                                                                                            refine x_istore (pc := 1799) dL_law_1799 (Nat.le_of_ble_eq_true rfl) (l' := [some (.ref 1000), some (.ref x1), some (.ref x2), some (.ref x3), some (.int x4), some (.int r176.1), some (.int r178.1), d7, d8]) rfl ?_
                                                                                            refine x_aload_n (pc := 1801) dL_law_1801 (i := 2) rfl rfl ?_
                                                                                            refine x_callVi (pc := 1802) (As := []) (rest := []) (vx := fun a => a) (μf := fun _ => r178.2) fcX11 (mX11_thrown S r178.2 (cx + r176.2.2) (6 * (cx + r176.2.2)) x2) (fun _ => rfl) rfl (fun _ h => ifok h) dL_law_1802 q216 kX11_thrown rfl ⟨Nat.le_of_ble_eq_true rfl, Nat.le_of_ble_eq_true rfl⟩ rfl (Nat.le_of_ble_eq_true rfl) (fun v179 => ?_)
                                                                                            refine x_iload (pc := 1805) dL_law_1805 rfl ?_
                                                                                            refine x_icmp_eq (pc := 1807) (tgt := 1812) dL_law_1807 (by decide) ?_ ?_
                                                                                            · refine x_iload (pc := 1812) dL_law_1812 rfl ?_
                                                                                              refine x_if_ne (pc := 1814) (tgt := 1829) dL_law_1814 (by decide) ?_ ?_
                                                                                              · refine x_aload_n (pc := 1817) dL_law_1817 (i := 3) rfl rfl ?_
                                                                                                refine x_iconst (pc := 1818) (v := 0) dL_law_1818 (by decide) ?_
                                                                                                refine x_ldL (pc := 1819) dL_law_1819 (fun v180 => ?_)
                                                                                                refine x_iload (pc := 1820) dL_law_1820 rfl ?_
                                                                                                refine x_i2l (pc := 1822) dL_law_1822 ?_
                                                                                                refine x_lcmp (pc := 1823) dL_law_1823 ?_
                                                                                                refine x_if_eq (pc := 1824) (tgt := 1829) dL_law_1824 (by decide) ?_ ?_
                                                                                                · exact xL_law_1829 (k23 := (lL_law_23 L xs S n)) ih r178.2 (cx + r176.2.2) x1 x2 x3 x4 _ _ _ _
                                                                                                · refine x_iconst (pc := 1827) (v := 0) dL_law_1827 (by decide) ?_
                                                                                                  exact x_iret rfl dL_law_1828 rfl rfl
                                                                                              · exact xL_law_1829 (k23 := (lL_law_23 L xs S n)) ih r178.2 (cx + r176.2.2) x1 x2 x3 x4 _ _ _ _
                                                                                            · refine x_iconst (pc := 1810) (v := 0) dL_law_1810 (by decide) ?_
                                                                                              exact x_iret rfl dL_law_1811 rfl rfl
                                                                                          · refine mX.ite (fun h42 => ?_) (fun h42 => ?_)
                                                                                            · refine x_tableIn (pc := 39) (tgt := 1832) (off := 1793) dL_law_39 (by omega) (by omega) (by rw [h42]; rfl) (by decide) ?_
                                                                                              refine x_aload_n (pc := 1832) dL_law_1832 (i := 1) rfl rfl ?_
                                                                                              refine x_aload_n (pc := 1833) dL_law_1833 (i := 0) rfl rfl ?_
                                                                                              refine x_iload (pc := 1834) dL_law_1834 rfl ?_
                                                                                              refine x_iconst (pc := 1836) (v := 1) dL_law_1836 (by decide) ?_
                                                                                              refine x_iadd (pc := 1837) dL_law_1837 ?_
                                                                                              refine x_sld (pc := 1838) (b := b) (L := L) (xs := xs) rfl dL_law_1838 (fun v181 => ?_)
                                                                                              refine x_aload_n (pc := 1839) dL_law_1839 (i := 3) rfl rfl ?_
                                                                                              refine x_callH (pc := 1840) (As := [.ref x1, .int v181, .ref x3]) (rest := []) (mL_repeatDistance S μ cx (6 * cx) x1 v181 x3) rfl dL_law_1840 q1006 kL_repeatDistance rfl ⟨Nat.le_of_ble_eq_true rfl, Nat.le_of_ble_eq_true rfl⟩ rfl (Nat.le_of_ble_eq_true rfl) (fun r182 => ?_)
                                                                                              refine x_istore (pc := 1843) dL_law_1843 (Nat.le_of_ble_eq_true rfl) (l' := [some (.ref 1000), some (.ref x1), some (.ref x2), some (.ref x3), some (.int x4), some (.int r182.1), d6, d7, d8]) rfl ?_
                                                                                              refine x_aload_n (pc := 1845) dL_law_1845 (i := 2) rfl rfl ?_
                                                                                              refine x_aload_n (pc := 1846) dL_law_1846 (i := 0) rfl rfl ?_
                                                                                              refine x_iload (pc := 1847) dL_law_1847 rfl ?_
                                                                                              refine x_iconst (pc := 1849) (v := 1) dL_law_1849 (by decide) ?_
                                                                                              refine x_iadd (pc := 1850) dL_law_1850 ?_
                                                                                              refine x_sld (pc := 1851) (b := b) (L := L) (xs := xs) rfl dL_law_1851 (fun v183 => ?_)
                                                                                              refine x_callVi (pc := 1852) (As := [.int v183]) (rest := []) (vx := fun a => a.1) (μf := fun a => a.2) fcX11 (mX11_repeatDistance S r182.2.1 (cx + r182.2.2) (6 * (cx + r182.2.2)) x2 v183) (fun _ => rfl) rfl (fun _ h => ifok h) dL_law_1852 q1014 kX11_repeatDistance rfl ⟨Nat.le_of_ble_eq_true rfl, Nat.le_of_ble_eq_true rfl⟩ rfl (Nat.le_of_ble_eq_true rfl) (fun r184 => ?_)
                                                                                              refine x_istore (pc := 1855) dL_law_1855 (Nat.le_of_ble_eq_true rfl) (l' := [some (.ref 1000), some (.ref x1), some (.ref x2), some (.ref x3), some (.int x4), some (.int r182.1), some (.int r184.1), d7, d8]) rfl ?_
                                                                                              refine x_aload_n (pc := 1857) dL_law_1857 (i := 2) rfl rfl ?_
                                                                                              refine x_callVi (pc := 1858) (As := []) (rest := []) (vx := fun a => a) (μf := fun _ => r184.2) fcX11 (mX11_thrown S r184.2 (cx + r182.2.2) (6 * (cx + r182.2.2)) x2) (fun _ => rfl) rfl (fun _ h => ifok h) dL_law_1858 q216 kX11_thrown rfl ⟨Nat.le_of_ble_eq_true rfl, Nat.le_of_ble_eq_true rfl⟩ rfl (Nat.le_of_ble_eq_true rfl) (fun v185 => ?_)
                                                                                              refine x_iload (pc := 1861) dL_law_1861 rfl ?_
                                                                                              refine x_icmp_eq (pc := 1863) (tgt := 1868) dL_law_1863 (by decide) ?_ ?_
                                                                                              · refine x_iload (pc := 1868) dL_law_1868 rfl ?_
                                                                                                refine x_if_ne (pc := 1870) (tgt := 1885) dL_law_1870 (by decide) ?_ ?_
                                                                                                · refine x_aload_n (pc := 1873) dL_law_1873 (i := 3) rfl rfl ?_
                                                                                                  refine x_iconst (pc := 1874) (v := 0) dL_law_1874 (by decide) ?_
                                                                                                  refine x_ldL (pc := 1875) dL_law_1875 (fun v186 => ?_)
                                                                                                  refine x_iload (pc := 1876) dL_law_1876 rfl ?_
                                                                                                  refine x_i2l (pc := 1878) dL_law_1878 ?_
                                                                                                  refine x_lcmp (pc := 1879) dL_law_1879 ?_
                                                                                                  refine x_if_eq (pc := 1880) (tgt := 1885) dL_law_1880 (by decide) ?_ ?_
                                                                                                  · exact xL_law_1885 (k23 := (lL_law_23 L xs S n)) ih r184.2 (cx + r182.2.2) x1 x2 x3 x4 _ _ _ _
                                                                                                  · refine x_iconst (pc := 1883) (v := 0) dL_law_1883 (by decide) ?_
                                                                                                    exact x_iret rfl dL_law_1884 rfl rfl
                                                                                                · exact xL_law_1885 (k23 := (lL_law_23 L xs S n)) ih r184.2 (cx + r182.2.2) x1 x2 x3 x4 _ _ _ _
                                                                                              · refine x_iconst (pc := 1866) (v := 0) dL_law_1866 (by decide) ?_
                                                                                                exact x_iret rfl dL_law_1867 rfl rfl
                                                                                            · refine mX.ite (fun h43 => ?_) (fun h43 => ?_)
                                                                                              · refine x_tableIn (pc := 39) (tgt := 1888) (off := 1849) dL_law_39 (by omega) (by omega) (by rw [h43]; rfl) (by decide) ?_
                                                                                                refine x_aload_n (pc := 1888) dL_law_1888 (i := 1) rfl rfl ?_
                                                                                                refine x_aload_n (pc := 1889) dL_law_1889 (i := 0) rfl rfl ?_
                                                                                                refine x_iload (pc := 1890) dL_law_1890 rfl ?_
                                                                                                refine x_iconst (pc := 1892) (v := 1) dL_law_1892 (by decide) ?_
                                                                                                refine x_iadd (pc := 1893) dL_law_1893 ?_
                                                                                                refine x_sld (pc := 1894) (b := b) (L := L) (xs := xs) rfl dL_law_1894 (fun v187 => ?_)
                                                                                                refine x_aload_n (pc := 1895) dL_law_1895 (i := 3) rfl rfl ?_
                                                                                                refine x_callH (pc := 1896) (As := [.ref x1, .int v187, .ref x3]) (rest := []) (mL_costBy S μ cx (6 * cx) x1 v187 x3) rfl dL_law_1896 q1022 kL_costBy rfl ⟨Nat.le_of_ble_eq_true rfl, Nat.le_of_ble_eq_true rfl⟩ rfl (Nat.le_of_ble_eq_true rfl) (fun r188 => ?_)
                                                                                                refine x_istore (pc := 1899) dL_law_1899 (Nat.le_of_ble_eq_true rfl) (l' := [some (.ref 1000), some (.ref x1), some (.ref x2), some (.ref x3), some (.int x4), some (.int r188.1), d6, d7, d8]) rfl ?_
                                                                                                refine x_aload_n (pc := 1901) dL_law_1901 (i := 2) rfl rfl ?_
                                                                                                refine x_aload_n (pc := 1902) dL_law_1902 (i := 0) rfl rfl ?_
                                                                                                refine x_iload (pc := 1903) dL_law_1903 rfl ?_
                                                                                                refine x_iconst (pc := 1905) (v := 1) dL_law_1905 (by decide) ?_
                                                                                                refine x_iadd (pc := 1906) dL_law_1906 ?_
                                                                                                refine x_sld (pc := 1907) (b := b) (L := L) (xs := xs) rfl dL_law_1907 (fun v189 => ?_)
                                                                                                refine x_callVi (pc := 1908) (As := [.int v189]) (rest := []) (vx := fun a => a.1) (μf := fun a => a.2) fcX11 (mX11_costBy S r188.2.1 (cx + r188.2.2) (6 * (cx + r188.2.2)) x2 v189) (fun _ => rfl) rfl (fun _ h => ifok h) dL_law_1908 q1029 kX11_costBy rfl ⟨Nat.le_of_ble_eq_true rfl, Nat.le_of_ble_eq_true rfl⟩ rfl (Nat.le_of_ble_eq_true rfl) (fun r190 => ?_)
                                                                                                refine x_istore (pc := 1911) dL_law_1911 (Nat.le_of_ble_eq_true rfl) (l' := [some (.ref 1000), some (.ref x1), some (.ref x2), some (.ref x3), some (.int x4), some (.int r188.1), some (.int r190.1), d7, d8]) rfl ?_
                                                                                                refine x_aload_n (pc := 1913) dL_law_1913 (i := 2) rfl rfl ?_
                                                                                                refine x_callVi (pc := 1914) (As := []) (rest := []) (vx := fun a => a) (μf := fun _ => r190.2) fcX11 (mX11_thrown S r190.2 (cx + r188.2.2) (6 * (cx + r188.2.2)) x2) (fun _ => rfl) rfl (fun _ h => ifok h) dL_law_1914 q216 kX11_thrown rfl ⟨Nat.le_of_ble_eq_true rfl, Nat.le_of_ble_eq_true rfl⟩ rfl (Nat.le_of_ble_eq_true rfl) (fun v191 => ?_)
                                                                                                refine x_iload (pc := 1917) dL_law_1917 rfl ?_
                                                                                                refine x_icmp_eq (pc := 1919) (tgt := 1924) dL_law_1919 (by decide) ?_ ?_
                                                                                                · refine x_iload (pc := 1924) dL_law_1924 rfl ?_
                                                                                                  refine x_if_ne (pc := 1926) (tgt := 1941) dL_law_1926 (by decide) ?_ ?_
                                                                                                  · refine x_aload_n (pc := 1929) dL_law_1929 (i := 3) rfl rfl ?_
                                                                                                    refine x_iconst (pc := 1930) (v := 0) dL_law_1930 (by decide) ?_
                                                                                                    refine x_ldL (pc := 1931) dL_law_1931 (fun v192 => ?_)
                                                                                                    refine x_iload (pc := 1932) dL_law_1932 rfl ?_
                                                                                                    refine x_i2l (pc := 1934) dL_law_1934 ?_
                                                                                                    refine x_lcmp (pc := 1935) dL_law_1935 ?_
                                                                                                    refine x_if_eq (pc := 1936) (tgt := 1941) dL_law_1936 (by decide) ?_ ?_
                                                                                                    · exact xL_law_1941 (k23 := (lL_law_23 L xs S n)) ih r190.2 (cx + r188.2.2) x1 x2 x3 x4 _ _ _ _
                                                                                                    · refine x_iconst (pc := 1939) (v := 0) dL_law_1939 (by decide) ?_
                                                                                                      exact x_iret rfl dL_law_1940 rfl rfl
                                                                                                  · exact xL_law_1941 (k23 := (lL_law_23 L xs S n)) ih r190.2 (cx + r188.2.2) x1 x2 x3 x4 _ _ _ _
                                                                                                · refine x_iconst (pc := 1922) (v := 0) dL_law_1922 (by decide) ?_
                                                                                                  exact x_iret rfl dL_law_1923 rfl rfl
                                                                                              · refine mX.ite (fun h44 => ?_) (fun h44 => ?_)
                                                                                                · refine x_tableIn (pc := 39) (tgt := 1944) (off := 1905) dL_law_39 (by omega) (by omega) (by rw [h44]; rfl) (by decide) ?_
                                                                                                  refine x_aload_n (pc := 1944) dL_law_1944 (i := 1) rfl rfl ?_
                                                                                                  refine x_aload_n (pc := 1945) dL_law_1945 (i := 0) rfl rfl ?_
                                                                                                  refine x_iload (pc := 1946) dL_law_1946 rfl ?_
                                                                                                  refine x_iconst (pc := 1948) (v := 1) dL_law_1948 (by decide) ?_
                                                                                                  refine x_iadd (pc := 1949) dL_law_1949 ?_
                                                                                                  refine x_sld (pc := 1950) (b := b) (L := L) (xs := xs) rfl dL_law_1950 (fun v193 => ?_)
                                                                                                  refine x_aload_n (pc := 1951) dL_law_1951 (i := 3) rfl rfl ?_
                                                                                                  refine x_callH (pc := 1952) (As := [.ref x1, .int v193, .ref x3]) (rest := []) (mL_tokensBy S μ cx (6 * cx) x1 v193 x3) rfl dL_law_1952 q1037 kL_tokensBy rfl ⟨Nat.le_of_ble_eq_true rfl, Nat.le_of_ble_eq_true rfl⟩ rfl (Nat.le_of_ble_eq_true rfl) (fun r194 => ?_)
                                                                                                  refine x_istore (pc := 1955) dL_law_1955 (Nat.le_of_ble_eq_true rfl) (l' := [some (.ref 1000), some (.ref x1), some (.ref x2), some (.ref x3), some (.int x4), some (.int r194.1), d6, d7, d8]) rfl ?_
                                                                                                  refine x_aload_n (pc := 1957) dL_law_1957 (i := 2) rfl rfl ?_
                                                                                                  refine x_aload_n (pc := 1958) dL_law_1958 (i := 0) rfl rfl ?_
                                                                                                  refine x_iload (pc := 1959) dL_law_1959 rfl ?_
                                                                                                  refine x_iconst (pc := 1961) (v := 1) dL_law_1961 (by decide) ?_
                                                                                                  refine x_iadd (pc := 1962) dL_law_1962 ?_
                                                                                                  refine x_sld (pc := 1963) (b := b) (L := L) (xs := xs) rfl dL_law_1963 (fun v195 => ?_)
                                                                                                  refine x_callVi (pc := 1964) (As := [.int v195]) (rest := []) (vx := fun a => a.1) (μf := fun a => a.2) fcX11 (mX11_tokensBy S r194.2.1 (cx + r194.2.2) (6 * (cx + r194.2.2)) x2 v195) (fun _ => rfl) rfl (fun _ h => ifok h) dL_law_1964 q1044 kX11_tokensBy rfl ⟨Nat.le_of_ble_eq_true rfl, Nat.le_of_ble_eq_true rfl⟩ rfl (Nat.le_of_ble_eq_true rfl) (fun r196 => ?_)
                                                                                                  refine x_istore (pc := 1967) dL_law_1967 (Nat.le_of_ble_eq_true rfl) (l' := [some (.ref 1000), some (.ref x1), some (.ref x2), some (.ref x3), some (.int x4), some (.int r194.1), some (.int r196.1), d7, d8]) rfl ?_
                                                                                                  refine x_aload_n (pc := 1969) dL_law_1969 (i := 2) rfl rfl ?_
                                                                                                  refine x_callVi (pc := 1970) (As := []) (rest := []) (vx := fun a => a) (μf := fun _ => r196.2) fcX11 (mX11_thrown S r196.2 (cx + r194.2.2) (6 * (cx + r194.2.2)) x2) (fun _ => rfl) rfl (fun _ h => ifok h) dL_law_1970 q216 kX11_thrown rfl ⟨Nat.le_of_ble_eq_true rfl, Nat.le_of_ble_eq_true rfl⟩ rfl (Nat.le_of_ble_eq_true rfl) (fun v197 => ?_)
                                                                                                  refine x_iload (pc := 1973) dL_law_1973 rfl ?_
                                                                                                  refine x_icmp_eq (pc := 1975) (tgt := 1980) dL_law_1975 (by decide) ?_ ?_
                                                                                                  · refine x_iload (pc := 1980) dL_law_1980 rfl ?_
                                                                                                    refine x_if_ne (pc := 1982) (tgt := 1997) dL_law_1982 (by decide) ?_ ?_
                                                                                                    · refine x_aload_n (pc := 1985) dL_law_1985 (i := 3) rfl rfl ?_
                                                                                                      refine x_iconst (pc := 1986) (v := 0) dL_law_1986 (by decide) ?_
                                                                                                      refine x_ldL (pc := 1987) dL_law_1987 (fun v198 => ?_)
                                                                                                      refine x_iload (pc := 1988) dL_law_1988 rfl ?_
                                                                                                      refine x_i2l (pc := 1990) dL_law_1990 ?_
                                                                                                      refine x_lcmp (pc := 1991) dL_law_1991 ?_
                                                                                                      refine x_if_eq (pc := 1992) (tgt := 1997) dL_law_1992 (by decide) ?_ ?_
                                                                                                      · exact xL_law_1997 (k23 := (lL_law_23 L xs S n)) ih r196.2 (cx + r194.2.2) x1 x2 x3 x4 _ _ _ _
                                                                                                      · refine x_iconst (pc := 1995) (v := 0) dL_law_1995 (by decide) ?_
                                                                                                        exact x_iret rfl dL_law_1996 rfl rfl
                                                                                                    · exact xL_law_1997 (k23 := (lL_law_23 L xs S n)) ih r196.2 (cx + r194.2.2) x1 x2 x3 x4 _ _ _ _
                                                                                                  · refine x_iconst (pc := 1978) (v := 0) dL_law_1978 (by decide) ?_
                                                                                                    exact x_iret rfl dL_law_1979 rfl rfl
                                                                                                · refine mX.ite (fun h45 => ?_) (fun h45 => ?_)
                                                                                                  · refine x_tableIn (pc := 39) (tgt := 2000) (off := 1961) dL_law_39 (by omega) (by omega) (by rw [h45]; rfl) (by decide) ?_
                                                                                                    refine x_aload_n (pc := 2000) dL_law_2000 (i := 1) rfl rfl ?_
                                                                                                    refine x_callVi (pc := 2001) (As := []) (rest := []) (vx := fun a => a.1) (μf := fun a => a.2) fcX10 (mX10_leastCost S μ cx (6 * cx) x1) (fun _ => rfl) rfl (fun _ h => ifok h) dL_law_2001 q1048 kX10_leastCost rfl ⟨Nat.le_of_ble_eq_true rfl, Nat.le_of_ble_eq_true rfl⟩ rfl (Nat.le_of_ble_eq_true rfl) (fun r199 => ?_)
                                                                                                    refine x_aload_n (pc := 2004) dL_law_2004 (i := 2) rfl rfl ?_
                                                                                                    refine x_callVi (pc := 2005) (As := []) (rest := [.int r199.1]) (vx := fun a => a.1) (μf := fun a => a.2) fcX11 (mX11_leastCost S r199.2 cx (6 * cx) x2) (fun _ => rfl) rfl (fun _ h => ifok h) dL_law_2005 q1053 kX11_leastCost rfl ⟨Nat.le_of_ble_eq_true rfl, Nat.le_of_ble_eq_true rfl⟩ rfl (Nat.le_of_ble_eq_true rfl) (fun r200 => ?_)
                                                                                                    refine x_icmp_eq (pc := 2008) (tgt := 2293) dL_law_2008 (by decide) ?_ ?_
                                                                                                    · exact xL_law_2293 (k23 := (lL_law_23 L xs S n)) ih r200.2 cx x1 x2 x3 x4 _ _ _ _
                                                                                                    · refine x_iconst (pc := 2011) (v := 0) dL_law_2011 (by decide) ?_
                                                                                                      exact x_iret rfl dL_law_2012 rfl rfl
                                                                                                  · refine mX.ite (fun h46 => ?_) (fun h46 => ?_)
                                                                                                    · refine x_tableIn (pc := 39) (tgt := 2013) (off := 1974) dL_law_39 (by omega) (by omega) (by rw [h46]; rfl) (by decide) ?_
                                                                                                      refine x_aload_n (pc := 2013) dL_law_2013 (i := 1) rfl rfl ?_
                                                                                                      refine x_callVi (pc := 2014) (As := []) (rest := []) (vx := fun a => a.1) (μf := fun a => a.2) fcX10 (mX10_leastCostFromBeginning S μ cx (6 * cx) x1) (fun _ => rfl) rfl (fun _ h => ifok h) dL_law_2014 q1061 kX10_leastCostFromBeginning rfl ⟨Nat.le_of_ble_eq_true rfl, Nat.le_of_ble_eq_true rfl⟩ rfl (Nat.le_of_ble_eq_true rfl) (fun r201 => ?_)
                                                                                                      refine x_aload_n (pc := 2017) dL_law_2017 (i := 2) rfl rfl ?_
                                                                                                      refine x_callVi (pc := 2018) (As := []) (rest := [.int r201.1]) (vx := fun a => a.1) (μf := fun a => a.2) fcX11 (mX11_leastCostFromBeginning S r201.2 cx (6 * cx) x2) (fun _ => rfl) rfl (fun _ h => ifok h) dL_law_2018 q1074 kX11_leastCostFromBeginning rfl ⟨Nat.le_of_ble_eq_true rfl, Nat.le_of_ble_eq_true rfl⟩ rfl (Nat.le_of_ble_eq_true rfl) (fun r202 => ?_)
                                                                                                      refine x_icmp_eq (pc := 2021) (tgt := 2293) dL_law_2021 (by decide) ?_ ?_
                                                                                                      · exact xL_law_2293 (k23 := (lL_law_23 L xs S n)) ih r202.2 cx x1 x2 x3 x4 _ _ _ _
                                                                                                      · refine x_iconst (pc := 2024) (v := 0) dL_law_2024 (by decide) ?_
                                                                                                        exact x_iret rfl dL_law_2025 rfl rfl
                                                                                                    · refine mX.ite (fun h47 => ?_) (fun h47 => ?_)
                                                                                                      · refine x_tableIn (pc := 39) (tgt := 2026) (off := 1987) dL_law_39 (by omega) (by omega) (by rw [h47]; rfl) (by decide) ?_
                                                                                                        refine x_aload_n (pc := 2026) dL_law_2026 (i := 1) rfl rfl ?_
                                                                                                        refine x_aload_n (pc := 2027) dL_law_2027 (i := 0) rfl rfl ?_
                                                                                                        refine x_iload (pc := 2028) dL_law_2028 rfl ?_
                                                                                                        refine x_iconst (pc := 2030) (v := 1) dL_law_2030 (by decide) ?_
                                                                                                        refine x_iadd (pc := 2031) dL_law_2031 ?_
                                                                                                        refine x_sld (pc := 2032) (b := b) (L := L) (xs := xs) rfl dL_law_2032 (fun v203 => ?_)
                                                                                                        refine x_aload_n (pc := 2033) dL_law_2033 (i := 3) rfl rfl ?_
                                                                                                        refine x_callH (pc := 2034) (As := [.ref x1, .int v203, .ref x3]) (rest := []) (mL_leastCostWith S μ cx (6 * cx) x1 v203 x3) rfl dL_law_2034 q1083 kL_leastCostWith rfl ⟨Nat.le_of_ble_eq_true rfl, Nat.le_of_ble_eq_true rfl⟩ rfl (Nat.le_of_ble_eq_true rfl) (fun r204 => ?_)
                                                                                                        refine x_istore (pc := 2037) dL_law_2037 (Nat.le_of_ble_eq_true rfl) (l' := [some (.ref 1000), some (.ref x1), some (.ref x2), some (.ref x3), some (.int x4), some (.int r204.1), d6, d7, d8]) rfl ?_
                                                                                                        refine x_aload_n (pc := 2039) dL_law_2039 (i := 2) rfl rfl ?_
                                                                                                        refine x_aload_n (pc := 2040) dL_law_2040 (i := 0) rfl rfl ?_
                                                                                                        refine x_iload (pc := 2041) dL_law_2041 rfl ?_
                                                                                                        refine x_iconst (pc := 2043) (v := 1) dL_law_2043 (by decide) ?_
                                                                                                        refine x_iadd (pc := 2044) dL_law_2044 ?_
                                                                                                        refine x_sld (pc := 2045) (b := b) (L := L) (xs := xs) rfl dL_law_2045 (fun v205 => ?_)
                                                                                                        refine x_callVi (pc := 2046) (As := [.int v205]) (rest := []) (vx := fun a => a.1) (μf := fun a => a.2) fcX11 (mX11_leastCostWith S r204.2.1 (cx + r204.2.2) (6 * (cx + r204.2.2)) x2 v205) (fun _ => rfl) rfl (fun _ h => ifok h) dL_law_2046 q1090 kX11_leastCostWith rfl ⟨Nat.le_of_ble_eq_true rfl, Nat.le_of_ble_eq_true rfl⟩ rfl (Nat.le_of_ble_eq_true rfl) (fun r206 => ?_)
                                                                                                        refine x_istore (pc := 2049) dL_law_2049 (Nat.le_of_ble_eq_true rfl) (l' := [some (.ref 1000), some (.ref x1), some (.ref x2), some (.ref x3), some (.int x4), some (.int r204.1), some (.int r206.1), d7, d8]) rfl ?_
                                                                                                        refine x_aload_n (pc := 2051) dL_law_2051 (i := 2) rfl rfl ?_
                                                                                                        refine x_callVi (pc := 2052) (As := []) (rest := []) (vx := fun a => a) (μf := fun _ => r206.2) fcX11 (mX11_thrown S r206.2 (cx + r204.2.2) (6 * (cx + r204.2.2)) x2) (fun _ => rfl) rfl (fun _ h => ifok h) dL_law_2052 q216 kX11_thrown rfl ⟨Nat.le_of_ble_eq_true rfl, Nat.le_of_ble_eq_true rfl⟩ rfl (Nat.le_of_ble_eq_true rfl) (fun v207 => ?_)
                                                                                                        refine x_iload (pc := 2055) dL_law_2055 rfl ?_
                                                                                                        refine x_icmp_eq (pc := 2057) (tgt := 2062) dL_law_2057 (by decide) ?_ ?_
                                                                                                        · refine x_iload (pc := 2062) dL_law_2062 rfl ?_
                                                                                                          refine x_if_ne (pc := 2064) (tgt := 2079) dL_law_2064 (by decide) ?_ ?_
                                                                                                          · refine x_aload_n (pc := 2067) dL_law_2067 (i := 3) rfl rfl ?_
                                                                                                            refine x_iconst (pc := 2068) (v := 0) dL_law_2068 (by decide) ?_
                                                                                                            refine x_ldL (pc := 2069) dL_law_2069 (fun v208 => ?_)
                                                                                                            refine x_iload (pc := 2070) dL_law_2070 rfl ?_
                                                                                                            refine x_i2l (pc := 2072) dL_law_2072 ?_
                                                                                                            refine x_lcmp (pc := 2073) dL_law_2073 ?_
                                                                                                            refine x_if_eq (pc := 2074) (tgt := 2079) dL_law_2074 (by decide) ?_ ?_
                                                                                                            · exact xL_law_2079 (k23 := (lL_law_23 L xs S n)) ih r206.2 (cx + r204.2.2) x1 x2 x3 x4 _ _ _ _
                                                                                                            · refine x_iconst (pc := 2077) (v := 0) dL_law_2077 (by decide) ?_
                                                                                                              exact x_iret rfl dL_law_2078 rfl rfl
                                                                                                          · exact xL_law_2079 (k23 := (lL_law_23 L xs S n)) ih r206.2 (cx + r204.2.2) x1 x2 x3 x4 _ _ _ _
                                                                                                        · refine x_iconst (pc := 2060) (v := 0) dL_law_2060 (by decide) ?_
                                                                                                          exact x_iret rfl dL_law_2061 rfl rfl
                                                                                                      · refine mX.ite (fun h48 => ?_) (fun h48 => ?_)
                                                                                                        · refine x_tableIn (pc := 39) (tgt := 2082) (off := 2043) dL_law_39 (by omega) (by omega) (by rw [h48]; rfl) (by decide) ?_
                                                                                                          refine x_aload_n (pc := 2082) dL_law_2082 (i := 1) rfl rfl ?_
                                                                                                          refine x_aload_n (pc := 2083) dL_law_2083 (i := 0) rfl rfl ?_
                                                                                                          refine x_iload (pc := 2084) dL_law_2084 rfl ?_
                                                                                                          refine x_iconst (pc := 2086) (v := 1) dL_law_2086 (by decide) ?_
                                                                                                          refine x_iadd (pc := 2087) dL_law_2087 ?_
                                                                                                          refine x_sld (pc := 2088) (b := b) (L := L) (xs := xs) rfl dL_law_2088 (fun v209 => ?_)
                                                                                                          refine x_aload_n (pc := 2089) dL_law_2089 (i := 3) rfl rfl ?_
                                                                                                          refine x_callH (pc := 2090) (As := [.ref x1, .int v209, .ref x3]) (rest := []) (mL_pairs S μ cx (6 * cx) x1 v209 x3) rfl dL_law_2090 q1094 kL_pairs rfl ⟨Nat.le_of_ble_eq_true rfl, Nat.le_of_ble_eq_true rfl⟩ rfl (Nat.le_of_ble_eq_true rfl) (fun r210 => ?_)
                                                                                                          refine x_istore (pc := 2093) dL_law_2093 (Nat.le_of_ble_eq_true rfl) (l' := [some (.ref 1000), some (.ref x1), some (.ref x2), some (.ref x3), some (.int x4), some (.int r210.1), d6, d7, d8]) rfl ?_
                                                                                                          refine x_aload_n (pc := 2095) dL_law_2095 (i := 2) rfl rfl ?_
                                                                                                          refine x_aload_n (pc := 2096) dL_law_2096 (i := 0) rfl rfl ?_
                                                                                                          refine x_iload (pc := 2097) dL_law_2097 rfl ?_
                                                                                                          refine x_iconst (pc := 2099) (v := 1) dL_law_2099 (by decide) ?_
                                                                                                          refine x_iadd (pc := 2100) dL_law_2100 ?_
                                                                                                          refine x_sld (pc := 2101) (b := b) (L := L) (xs := xs) rfl dL_law_2101 (fun v211 => ?_)
                                                                                                          refine x_callVi (pc := 2102) (As := [.int v211]) (rest := []) (vx := fun a => a.1) (μf := fun a => a.2) fcX11 (mX11_pairs S r210.2.1 (cx + r210.2.2) (6 * (cx + r210.2.2)) x2 v211) (fun _ => rfl) rfl (fun _ h => ifok h) dL_law_2102 q1108 kX11_pairs rfl ⟨Nat.le_of_ble_eq_true rfl, Nat.le_of_ble_eq_true rfl⟩ rfl (Nat.le_of_ble_eq_true rfl) (fun r212 => ?_)
                                                                                                          refine x_istore (pc := 2105) dL_law_2105 (Nat.le_of_ble_eq_true rfl) (l' := [some (.ref 1000), some (.ref x1), some (.ref x2), some (.ref x3), some (.int x4), some (.int r210.1), some (.int r212.1), d7, d8]) rfl ?_
                                                                                                          refine x_aload_n (pc := 2107) dL_law_2107 (i := 2) rfl rfl ?_
                                                                                                          refine x_callVi (pc := 2108) (As := []) (rest := []) (vx := fun a => a) (μf := fun _ => r212.2) fcX11 (mX11_thrown S r212.2 (cx + r210.2.2) (6 * (cx + r210.2.2)) x2) (fun _ => rfl) rfl (fun _ h => ifok h) dL_law_2108 q216 kX11_thrown rfl ⟨Nat.le_of_ble_eq_true rfl, Nat.le_of_ble_eq_true rfl⟩ rfl (Nat.le_of_ble_eq_true rfl) (fun v213 => ?_)
                                                                                                          refine x_iload (pc := 2111) dL_law_2111 rfl ?_
                                                                                                          refine x_icmp_eq (pc := 2113) (tgt := 2118) dL_law_2113 (by decide) ?_ ?_
                                                                                                          · refine x_iload (pc := 2118) dL_law_2118 rfl ?_
                                                                                                            refine x_if_ne (pc := 2120) (tgt := 2135) dL_law_2120 (by decide) ?_ ?_
                                                                                                            · refine x_aload_n (pc := 2123) dL_law_2123 (i := 3) rfl rfl ?_
                                                                                                              refine x_iconst (pc := 2124) (v := 0) dL_law_2124 (by decide) ?_
                                                                                                              refine x_ldL (pc := 2125) dL_law_2125 (fun v214 => ?_)
                                                                                                              refine x_iload (pc := 2126) dL_law_2126 rfl ?_
                                                                                                              refine x_i2l (pc := 2128) dL_law_2128 ?_
                                                                                                              refine x_lcmp (pc := 2129) dL_law_2129 ?_
                                                                                                              refine x_if_eq (pc := 2130) (tgt := 2135) dL_law_2130 (by decide) ?_ ?_
                                                                                                              · exact xL_law_2135 (k23 := (lL_law_23 L xs S n)) ih r212.2 (cx + r210.2.2) x1 x2 x3 x4 _ _ _ _
                                                                                                              · refine x_iconst (pc := 2133) (v := 0) dL_law_2133 (by decide) ?_
                                                                                                                exact x_iret rfl dL_law_2134 rfl rfl
                                                                                                            · exact xL_law_2135 (k23 := (lL_law_23 L xs S n)) ih r212.2 (cx + r210.2.2) x1 x2 x3 x4 _ _ _ _
                                                                                                          · refine x_iconst (pc := 2116) (v := 0) dL_law_2116 (by decide) ?_
                                                                                                            exact x_iret rfl dL_law_2117 rfl rfl
                                                                                                        · refine mX.ite (fun h49 => ?_) (fun h49 => ?_)
                                                                                                          · refine x_tableIn (pc := 39) (tgt := 2138) (off := 2099) dL_law_39 (by omega) (by omega) (by rw [h49]; rfl) (by decide) ?_
                                                                                                            refine x_aload_n (pc := 2138) dL_law_2138 (i := 1) rfl rfl ?_
                                                                                                            refine x_aload_n (pc := 2139) dL_law_2139 (i := 0) rfl rfl ?_
                                                                                                            refine x_iload (pc := 2140) dL_law_2140 rfl ?_
                                                                                                            refine x_iconst (pc := 2142) (v := 1) dL_law_2142 (by decide) ?_
                                                                                                            refine x_iadd (pc := 2143) dL_law_2143 ?_
                                                                                                            refine x_sld (pc := 2144) (b := b) (L := L) (xs := xs) rfl dL_law_2144 (fun v215 => ?_)
                                                                                                            refine x_aload_n (pc := 2145) dL_law_2145 (i := 3) rfl rfl ?_
                                                                                                            refine x_callH (pc := 2146) (As := [.ref x1, .int v215, .ref x3]) (rest := []) (mL_lastPlaceOf S μ cx (6 * cx) x1 v215 x3) rfl dL_law_2146 q1116 kL_lastPlaceOf rfl ⟨Nat.le_of_ble_eq_true rfl, Nat.le_of_ble_eq_true rfl⟩ rfl (Nat.le_of_ble_eq_true rfl) (fun r216 => ?_)
                                                                                                            refine x_istore (pc := 2149) dL_law_2149 (Nat.le_of_ble_eq_true rfl) (l' := [some (.ref 1000), some (.ref x1), some (.ref x2), some (.ref x3), some (.int x4), some (.int r216.1), d6, d7, d8]) rfl ?_
                                                                                                            refine x_aload_n (pc := 2151) dL_law_2151 (i := 2) rfl rfl ?_
                                                                                                            refine x_aload_n (pc := 2152) dL_law_2152 (i := 0) rfl rfl ?_
                                                                                                            refine x_iload (pc := 2153) dL_law_2153 rfl ?_
                                                                                                            refine x_iconst (pc := 2155) (v := 1) dL_law_2155 (by decide) ?_
                                                                                                            refine x_iadd (pc := 2156) dL_law_2156 ?_
                                                                                                            refine x_sld (pc := 2157) (b := b) (L := L) (xs := xs) rfl dL_law_2157 (fun v217 => ?_)
                                                                                                            refine x_callVi (pc := 2158) (As := [.int v217]) (rest := []) (vx := fun a => a.1) (μf := fun a => a.2) fcX11 (mX11_lastPlaceOf S r216.2.1 (cx + r216.2.2) (6 * (cx + r216.2.2)) x2 v217) (fun _ => rfl) rfl (fun _ h => ifok h) dL_law_2158 q1127 kX11_lastPlaceOf rfl ⟨Nat.le_of_ble_eq_true rfl, Nat.le_of_ble_eq_true rfl⟩ rfl (Nat.le_of_ble_eq_true rfl) (fun r218 => ?_)
                                                                                                            refine x_istore (pc := 2161) dL_law_2161 (Nat.le_of_ble_eq_true rfl) (l' := [some (.ref 1000), some (.ref x1), some (.ref x2), some (.ref x3), some (.int x4), some (.int r216.1), some (.int r218.1), d7, d8]) rfl ?_
                                                                                                            refine x_aload_n (pc := 2163) dL_law_2163 (i := 2) rfl rfl ?_
                                                                                                            refine x_callVi (pc := 2164) (As := []) (rest := []) (vx := fun a => a) (μf := fun _ => r218.2) fcX11 (mX11_thrown S r218.2 (cx + r216.2.2) (6 * (cx + r216.2.2)) x2) (fun _ => rfl) rfl (fun _ h => ifok h) dL_law_2164 q216 kX11_thrown rfl ⟨Nat.le_of_ble_eq_true rfl, Nat.le_of_ble_eq_true rfl⟩ rfl (Nat.le_of_ble_eq_true rfl) (fun v219 => ?_)
                                                                                                            refine x_iload (pc := 2167) dL_law_2167 rfl ?_
                                                                                                            refine x_icmp_eq (pc := 2169) (tgt := 2174) dL_law_2169 (by decide) ?_ ?_
                                                                                                            · refine x_iload (pc := 2174) dL_law_2174 rfl ?_
                                                                                                              refine x_if_ne (pc := 2176) (tgt := 2191) dL_law_2176 (by decide) ?_ ?_
                                                                                                              · refine x_aload_n (pc := 2179) dL_law_2179 (i := 3) rfl rfl ?_
                                                                                                                refine x_iconst (pc := 2180) (v := 0) dL_law_2180 (by decide) ?_
                                                                                                                refine x_ldL (pc := 2181) dL_law_2181 (fun v220 => ?_)
                                                                                                                refine x_iload (pc := 2182) dL_law_2182 rfl ?_
                                                                                                                refine x_i2l (pc := 2184) dL_law_2184 ?_
                                                                                                                refine x_lcmp (pc := 2185) dL_law_2185 ?_
                                                                                                                refine x_if_eq (pc := 2186) (tgt := 2191) dL_law_2186 (by decide) ?_ ?_
                                                                                                                · exact xL_law_2191 (k23 := (lL_law_23 L xs S n)) ih r218.2 (cx + r216.2.2) x1 x2 x3 x4 _ _ _ _
                                                                                                                · refine x_iconst (pc := 2189) (v := 0) dL_law_2189 (by decide) ?_
                                                                                                                  exact x_iret rfl dL_law_2190 rfl rfl
                                                                                                              · exact xL_law_2191 (k23 := (lL_law_23 L xs S n)) ih r218.2 (cx + r216.2.2) x1 x2 x3 x4 _ _ _ _
                                                                                                            · refine x_iconst (pc := 2172) (v := 0) dL_law_2172 (by decide) ?_
                                                                                                              exact x_iret rfl dL_law_2173 rfl rfl
                                                                                                          · refine mX.ite (fun h50 => ?_) (fun h50 => ?_)
                                                                                                            · refine x_tableIn (pc := 39) (tgt := 2194) (off := 2155) dL_law_39 (by omega) (by omega) (by rw [h50]; rfl) (by decide) ?_
                                                                                                              refine x_aload_n (pc := 2194) dL_law_2194 (i := 1) rfl rfl ?_
                                                                                                              refine x_aload_n (pc := 2195) dL_law_2195 (i := 3) rfl rfl ?_
                                                                                                              refine x_callH (pc := 2196) (As := [.ref x1, .ref x3]) (rest := []) (mL_mostFrequent S μ cx (6 * cx) x1 x3) rfl dL_law_2196 q1135 kL_mostFrequent rfl ⟨Nat.le_of_ble_eq_true rfl, Nat.le_of_ble_eq_true rfl⟩ rfl (Nat.le_of_ble_eq_true rfl) (fun r221 => ?_)
                                                                                                              refine x_istore (pc := 2199) dL_law_2199 (Nat.le_of_ble_eq_true rfl) (l' := [some (.ref 1000), some (.ref x1), some (.ref x2), some (.ref x3), some (.int x4), some (.int r221.1), d6, d7, d8]) rfl ?_
                                                                                                              refine x_aload_n (pc := 2201) dL_law_2201 (i := 2) rfl rfl ?_
                                                                                                              refine x_callVi (pc := 2202) (As := []) (rest := []) (vx := fun a => a.1) (μf := fun a => a.2) fcX11 (mX11_mostFrequent S r221.2.1 (cx + r221.2.2) (6 * (cx + r221.2.2)) x2) (fun _ => rfl) rfl (fun _ h => ifok h) dL_law_2202 q1146 kX11_mostFrequent rfl ⟨Nat.le_of_ble_eq_true rfl, Nat.le_of_ble_eq_true rfl⟩ rfl (Nat.le_of_ble_eq_true rfl) (fun r222 => ?_)
                                                                                                              refine x_istore (pc := 2205) dL_law_2205 (Nat.le_of_ble_eq_true rfl) (l' := [some (.ref 1000), some (.ref x1), some (.ref x2), some (.ref x3), some (.int x4), some (.int r221.1), some (.int r222.1), d7, d8]) rfl ?_
                                                                                                              refine x_aload_n (pc := 2207) dL_law_2207 (i := 2) rfl rfl ?_
                                                                                                              refine x_callVi (pc := 2208) (As := []) (rest := []) (vx := fun a => a) (μf := fun _ => r222.2) fcX11 (mX11_thrown S r222.2 (cx + r221.2.2) (6 * (cx + r221.2.2)) x2) (fun _ => rfl) rfl (fun _ h => ifok h) dL_law_2208 q216 kX11_thrown rfl ⟨Nat.le_of_ble_eq_true rfl, Nat.le_of_ble_eq_true rfl⟩ rfl (Nat.le_of_ble_eq_true rfl) (fun v223 => ?_)
                                                                                                              refine x_iload (pc := 2211) dL_law_2211 rfl ?_
                                                                                                              refine x_icmp_eq (pc := 2213) (tgt := 2218) dL_law_2213 (by decide) ?_ ?_
                                                                                                              · refine x_iload (pc := 2218) dL_law_2218 rfl ?_
                                                                                                                refine x_if_ne (pc := 2220) (tgt := 2235) dL_law_2220 (by decide) ?_ ?_
                                                                                                                · refine x_aload_n (pc := 2223) dL_law_2223 (i := 3) rfl rfl ?_
                                                                                                                  refine x_iconst (pc := 2224) (v := 0) dL_law_2224 (by decide) ?_
                                                                                                                  refine x_ldL (pc := 2225) dL_law_2225 (fun v224 => ?_)
                                                                                                                  refine x_iload (pc := 2226) dL_law_2226 rfl ?_
                                                                                                                  refine x_i2l (pc := 2228) dL_law_2228 ?_
                                                                                                                  refine x_lcmp (pc := 2229) dL_law_2229 ?_
                                                                                                                  refine x_if_eq (pc := 2230) (tgt := 2235) dL_law_2230 (by decide) ?_ ?_
                                                                                                                  · exact xL_law_2235 (k23 := (lL_law_23 L xs S n)) ih r222.2 (cx + r221.2.2) x1 x2 x3 x4 _ _ _ _
                                                                                                                  · refine x_iconst (pc := 2233) (v := 0) dL_law_2233 (by decide) ?_
                                                                                                                    exact x_iret rfl dL_law_2234 rfl rfl
                                                                                                                · exact xL_law_2235 (k23 := (lL_law_23 L xs S n)) ih r222.2 (cx + r221.2.2) x1 x2 x3 x4 _ _ _ _
                                                                                                              · refine x_iconst (pc := 2216) (v := 0) dL_law_2216 (by decide) ?_
                                                                                                                exact x_iret rfl dL_law_2217 rfl rfl
                                                                                                            · refine mX.ite (fun h51 => ?_) (fun h51 => ?_)
                                                                                                              · refine x_tableIn (pc := 39) (tgt := 2238) (off := 2199) dL_law_39 (by omega) (by omega) (by rw [h51]; rfl) (by decide) ?_
                                                                                                                refine x_aload_n (pc := 2238) dL_law_2238 (i := 1) rfl rfl ?_
                                                                                                                refine x_callVd (pc := 2239) (As := []) (rest := []) (vx := fun a => a) (μf := fun _ => μ) fcX10 (mX10_packedShare S μ cx (6 * cx) x1) (fun _ => rfl) rfl (fun _ h => ifok h) dL_law_2239 q1154 kX10_packedShare rfl ⟨Nat.le_of_ble_eq_true rfl, Nat.le_of_ble_eq_true rfl⟩ rfl (Nat.le_of_ble_eq_true rfl) (fun v225 => ?_)
                                                                                                                refine x_dstore (pc := 2242) dL_law_2242 (Nat.le_of_ble_eq_true rfl) (l' := [some (.ref 1000), some (.ref x1), some (.ref x2), some (.ref x3), some (.int x4), some (.double v225), none, d7, d8]) rfl ?_
                                                                                                                refine x_aload_n (pc := 2244) dL_law_2244 (i := 2) rfl rfl ?_
                                                                                                                refine x_callVd (pc := 2245) (As := []) (rest := []) (vx := fun a => a.1) (μf := fun a => a.2) fcX11 (mX11_packedShare S μ cx (6 * cx) x2) (fun _ => rfl) rfl (fun _ h => ifok h) dL_law_2245 q1158 kX11_packedShare rfl ⟨Nat.le_of_ble_eq_true rfl, Nat.le_of_ble_eq_true rfl⟩ rfl (Nat.le_of_ble_eq_true rfl) (fun r226 => ?_)
                                                                                                                refine x_dstore (pc := 2248) dL_law_2248 (Nat.le_of_ble_eq_true rfl) (l' := [some (.ref 1000), some (.ref x1), some (.ref x2), some (.ref x3), some (.int x4), some (.double v225), none, some (.double r226.1), none]) rfl ?_
                                                                                                                refine x_dload (pc := 2250) dL_law_2250 rfl ?_
                                                                                                                refine x_dload (pc := 2252) dL_law_2252 rfl ?_
                                                                                                                refine x_dcmp (pc := 2254) dL_law_2254 ?_
                                                                                                                refine x_if_eq (pc := 2255) (tgt := 2276) dL_law_2255 (by decide) ?_ ?_
                                                                                                                · exact xL_law_2276 (k23 := (lL_law_23 L xs S n)) ih r226.2 cx x1 x2 x3 x4 _ _ _ _
                                                                                                                · refine x_dload (pc := 2258) dL_law_2258 rfl ?_
                                                                                                                  refine x_dload (pc := 2260) dL_law_2260 rfl ?_
                                                                                                                  refine x_dcmp (pc := 2262) dL_law_2262 ?_
                                                                                                                  refine x_if_eq (pc := 2263) (tgt := 2274) dL_law_2263 (by decide) ?_ ?_
                                                                                                                  · refine x_iconst (pc := 2274) (v := 0) dL_law_2274 (by decide) ?_
                                                                                                                    exact x_iret rfl dL_law_2275 rfl rfl
                                                                                                                  · refine x_dload (pc := 2266) dL_law_2266 rfl ?_
                                                                                                                    refine x_dload (pc := 2268) dL_law_2268 rfl ?_
                                                                                                                    refine x_dcmp (pc := 2270) dL_law_2270 ?_
                                                                                                                    refine x_if_ne (pc := 2271) (tgt := 2276) dL_law_2271 (by decide) ?_ ?_
                                                                                                                    · refine x_iconst (pc := 2274) (v := 0) dL_law_2274 (by decide) ?_
                                                                                                                      exact x_iret rfl dL_law_2275 rfl rfl
                                                                                                                    · exact xL_law_2276 (k23 := (lL_law_23 L xs S n)) ih r226.2 cx x1 x2 x3 x4 _ _ _ _
                                                                                                              · have h52 : (v6 &&& (63 : Int32)).toInt = 52 := by omega
                                                                                                                refine x_tableIn (pc := 39) (tgt := 2279) (off := 2240) dL_law_39 (by omega) (by omega) (by rw [h52]; rfl) (by decide) ?_
                                                                                                                refine x_aload_n (pc := 2279) dL_law_2279 (i := 1) rfl rfl ?_
                                                                                                                refine x_callVl (pc := 2280) (As := []) (rest := []) (vx := fun a => a.1) (μf := fun a => a.2) fcX10 (mX10_digest S μ cx (6 * cx) x1) (fun _ => rfl) rfl (fun _ h => ifok h) dL_law_2280 q1166 kX10_digest rfl ⟨Nat.le_of_ble_eq_true rfl, Nat.le_of_ble_eq_true rfl⟩ rfl (Nat.le_of_ble_eq_true rfl) (fun r227 => ?_)
                                                                                                                refine x_aload_n (pc := 2283) dL_law_2283 (i := 2) rfl rfl ?_
                                                                                                                refine x_callVl (pc := 2284) (As := []) (rest := [.long r227.1]) (vx := fun a => a.1) (μf := fun a => a.2) fcX11 (mX11_digest S r227.2 cx (6 * cx) x2) (fun _ => rfl) rfl (fun _ h => ifok h) dL_law_2284 q1223 kX11_digest rfl ⟨Nat.le_of_ble_eq_true rfl, Nat.le_of_ble_eq_true rfl⟩ rfl (Nat.le_of_ble_eq_true rfl) (fun r228 => ?_)
                                                                                                                refine x_lcmp (pc := 2287) dL_law_2287 ?_
                                                                                                                refine x_if_eq (pc := 2288) (tgt := 2293) dL_law_2288 (by decide) ?_ ?_
                                                                                                                · exact xL_law_2293 (k23 := (lL_law_23 L xs S n)) ih r228.2 cx x1 x2 x3 x4 _ _ _ _
                                                                                                                · refine x_iconst (pc := 2291) (v := 0) dL_law_2291 (by decide) ?_
                                                                                                                  exact x_iret rfl dL_law_2292 rfl rfl
set_option maxRecDepth 100000 in
set_option maxHeartbeats 40000000 in
theorem xL_law {b L : Nat} {xs : Nat → Int32} {n0 c0 s0 cx : Nat} {S : mSh} {μ : mMm} : mX (ML_law b L xs) n0 c0 s0 0 [some (.ref 1000), none, none, none, none, none, none, none, none] [] (S, μ, cx, 6 * cx) iAI (fL_law L xs S μ cx) := by
  unfold fL_law
  refine x_aN (pc := 0) fcX10 rfl dL_law_0 q0 q1 q2 ndX10 (fun r1 => ?_)
  refine x_dup (pc := 3) dL_law_3 rfl ?_
  refine x_callI (pc := 4) (As := []) (rest := [.ref (mN S)]) (Sf := fun a => a.1) (μf := fun a => a.2) (mX10_init r1.1 r1.2 cx (6 * cx) (mN S)) (fun _ => rfl) rfl dL_law_4 q7 kX10_init rfl ⟨Nat.le_of_ble_eq_true rfl, Nat.le_of_ble_eq_true rfl⟩ rfl (Nat.le_of_ble_eq_true rfl) (fun r2 => ?_)
  refine x_astore_n (pc := 7) dL_law_7 (i := 1) rfl (Nat.le_of_ble_eq_true rfl) (l' := [some (.ref 1000), some (.ref (mN S)), none, none, none, none, none, none, none]) rfl ?_
  refine x_aN (pc := 8) fcX11 rfl dL_law_8 q3 q4 q5 ndX11 (fun r3 => ?_)
  refine x_dup (pc := 11) dL_law_11 rfl ?_
  refine x_callI (pc := 12) (As := []) (rest := [.ref (mN r2.1)]) (Sf := fun a => a.1) (μf := fun a => a.2) (mX11_init r3.1 r3.2 cx (6 * cx) (mN r2.1)) (fun _ => rfl) rfl dL_law_12 q132 kX11_init rfl ⟨Nat.le_of_ble_eq_true rfl, Nat.le_of_ble_eq_true rfl⟩ rfl (Nat.le_of_ble_eq_true rfl) (fun r4 => ?_)
  refine x_astore_n (pc := 15) dL_law_15 (i := 2) rfl (Nat.le_of_ble_eq_true rfl) (l' := [some (.ref 1000), some (.ref (mN S)), some (.ref (mN r2.1)), none, none, none, none, none, none]) rfl ?_
  refine x_iconst (pc := 16) (v := 1) dL_law_16 (by decide) ?_
  refine x_aL8 (pc := 17) rfl dL_law_17 q6 (by decide) (by decide) (by decide) (fun r5 => ?_)
  refine x_astore_n (pc := 19) dL_law_19 (i := 3) rfl (Nat.le_of_ble_eq_true rfl) (l' := [some (.ref 1000), some (.ref (mN S)), some (.ref (mN r2.1)), some (.ref (mN r4.1)), none, none, none, none, none]) rfl ?_
  refine x_iconst (pc := 20) (v := 0) dL_law_20 (by decide) ?_
  refine x_istore (pc := 21) dL_law_21 (Nat.le_of_ble_eq_true rfl) (l' := [some (.ref 1000), some (.ref (mN S)), some (.ref (mN r2.1)), some (.ref (mN r4.1)), some (.int (0 : Int32)), none, none, none, none]) rfl ?_
  exact xL_law_23 FU r5.2 cx (mN S) (mN r2.1) (mN r4.1) (0 : Int32) _ _ _ _
