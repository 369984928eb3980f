/-! printed by gen.py: each method as a function of numbers, and that the machine does what it says -/
/-! SlideMillsLaw.cell([II)I -/
noncomputable def fL_cell (L : Nat) (xs : Nat → Int32) (p1 : Int32) : Option (Int32) := if (Int32.ofNat L) ≤ p1 then (some (((32452867 : Int32) * p1) + (15485863 : Int32))) else ((ldS L xs p1).bind fun v3 => some v3)
abbrev ML_cell (b L : Nat) (xs : Nat → Int32) : mM := ((yL_cell, cL_cell, 2, (some .int)), (0, 0), (false, false), RL, eL b L xs)
theorem kL_cell {b L : Nat} {xs : Nat → Int32} : mCalS (ML_cell b L xs) 2 := ⟨q129, q130, q131, (by decide +kernel : yL_cell.cls ≠ "java/lang/invoke/MethodHandle" ∧ yL_cell.cls ≠ "java/lang/invoke/VarHandle" ∧ (parseMethodDescriptor yL_cell.desc).map (fun d => d.parameters.length) = some 2)⟩
set_option maxRecDepth 100000 in
set_option maxHeartbeats 40000000 in
theorem xbL_cell {b L : Nat} {xs : Nat → Int32} {n0 c0 s0 cx cy : Nat} {S : mSh} {μ : mMm} (p1 : Int32) : mX (ML_cell b L xs) n0 c0 s0 0 [some (.ref 1000), some (.int p1)] [] (S, μ, cx, cy) (iPI S μ cx cy) (fL_cell L xs p1) := by
  unfold fL_cell
  refine x_iload_n (pc := 0) dL_cell_0 (i := 1) rfl rfl ?_
  refine x_aload_n (pc := 1) dL_cell_1 (i := 0) rfl rfl ?_
  refine x_slen (pc := 2) (b := b) (L := L) (xs := xs) rfl dL_cell_2 ?_
  refine x_icmp_ge (pc := 3) (tgt := 12) dL_cell_3 (by decide) ?_ ?_
  · refine x_ldc (pc := 12) (v := 32452867) dL_cell_12 q132 ?_
    refine x_iload_n (pc := 14) dL_cell_14 (i := 1) rfl rfl ?_
    refine x_imul (pc := 15) dL_cell_15 ?_
    refine x_ldc (pc := 16) (v := 15485863) dL_cell_16 q133 ?_
    refine x_iadd (pc := 18) dL_cell_18 ?_
    exact x_iret rfl dL_cell_19 rfl rfl
  · refine x_aload_n (pc := 6) dL_cell_6 (i := 0) rfl rfl ?_
    refine x_iload_n (pc := 7) dL_cell_7 (i := 1) rfl rfl ?_
    refine x_sld (pc := 8) (b := b) (L := L) (xs := xs) rfl dL_cell_8 (fun v3 => ?_)
    refine x_goto (pc := 9) (tgt := 19) dL_cell_9 (by decide) ?_
    exact x_iret rfl dL_cell_19 rfl rfl
theorem mL_cell (b L : Nat) (xs : Nat → Int32) (S : mSh) (μ : mMm) (cx cy : Nat) (p0 : Nat) (p1 : Int32) : mMetX (ML_cell b L xs) b L xs [.ref 1000, .int p1] (S, μ, cx, cy) (iPI S μ cx cy) (fL_cell L xs p1) := mMetX.of rfl (show plainName yL_cell.cls = true by decide) rfl (fun h => by cases h) (Nat.le_of_ble_eq_true rfl) (xbL_cell p1)
/-! SlideMillsLaw.low(II)I -/
noncomputable def fL_low (p0 : Int32) (p1 : Int32) : Option (Int32) := (dRem (p0 &&& (2147483647 : Int32)) p1).bind fun v1 => some v1
abbrev ML_low : mM := ((yL_low, cL_low, 2, (some .int)), (0, 0), (false, false), RL, eT)
theorem kL_low : mCalS ML_low 2 := ⟨q135, q130, q136, by decide +kernel⟩
set_option maxRecDepth 100000 in
set_option maxHeartbeats 40000000 in
theorem xbL_low {n0 c0 s0 cx cy : Nat} {S : mSh} {μ : mMm} (p0 : Int32) (p1 : Int32) : mX ML_low n0 c0 s0 0 [some (.int p0), some (.int p1)] [] (S, μ, cx, cy) (iPI S μ cx cy) (fL_low p0 p1) := by
  unfold fL_low
  refine x_iload_n (pc := 0) dL_low_0 (i := 0) rfl rfl ?_
  refine x_ldc (pc := 1) (v := 2147483647) dL_low_1 q137 ?_
  refine x_iand (pc := 3) dL_low_3 ?_
  refine x_iload_n (pc := 4) dL_low_4 (i := 1) rfl rfl ?_
  refine x_irem (pc := 5) dL_low_5 (fun v1 => ?_)
  exact x_iret rfl dL_low_6 rfl rfl
theorem mL_low (S : mSh) (μ : mMm) (cx cy : Nat) (p0 : Int32) (p1 : Int32) : mMet ML_low [.int p0, .int p1] (S, μ, cx, cy) (iPI S μ cx cy) (fL_low p0 p1) := mMet.of rfl (by decide) rfl (fun h => by cases h) (Nat.le_of_ble_eq_true rfl) (xbL_low p0 p1)
/-! SlideMillsLaw.isRepeat([I[IIII)Z -/
noncomputable def lL_isRepeat_41 (S : mSh) (μ : mMm) : Nat → Nat → Int32 → Int32 → Int32 → Option (Int32)
  | 0, _, _, _, _ => none
  | n + 1, x0, x2, x3, x5 => if x5 < x2 then (some (1 : Int32)) else ((ldI S μ x0 x5).bind fun v4 => (ldI S μ x0 (x5 - x3)).bind fun v5 => if v4 = v5 then (lL_isRepeat_41 S μ n x0 x2 x3 (x5 + (-1 : Int32))) else (some (0 : Int32)))
noncomputable def fL_isRepeat (S : mSh) (μ : mMm) (p0 : Nat) (p1 : Nat) (p2 : Int32) (p3 : Int32) (p4 : Int32) : Option (Int32) := if p2 < p3 then (some (0 : Int32)) else ((ldI S μ p1 (2 : Int32)).bind fun v1 => if p4 < v1 then (some (0 : Int32)) else ((ldI S μ p1 (3 : Int32)).bind fun v2 => if v2 < p4 then (some (0 : Int32)) else ((ldI S μ p1 (0 : Int32)).bind fun v3 => if (p2 + p4) ≤ v3 then (lL_isRepeat_41 S μ FU p0 p2 p3 ((p2 + p4) - (1 : Int32))) else (some (0 : Int32)))))
abbrev ML_isRepeat : mM := ((yL_isRepeat, cL_isRepeat, 6, (some .boolean)), (0, 0), (false, false), RL, eT)
theorem kL_isRepeat : mCalS ML_isRepeat 5 := ⟨q243, q130, q244, by decide +kernel⟩
set_option maxRecDepth 100000 in
set_option maxHeartbeats 40000000 in
theorem xL_isRepeat_41 {n0 c0 s0 cx cy : Nat} {S : mSh} {μ : mMm} : ∀ (n : Nat) (x0 : Nat) (x2 : Int32) (x3 : Int32) (x5 : Int32) (d1 : Option Value) (d4 : Option Value), mX ML_isRepeat n0 c0 s0 41 [some (.ref x0), d1, some (.int x2), some (.int x3), d4, some (.int x5)] [] (S, μ, cx, cy) (iPI S μ cx cy) (lL_isRepeat_41 S μ n x0 x2 x3 x5) := by
  intro n
  induction n with
  | zero => intros; exact x_none
  | succ n ih =>
    intro x0 x2 x3 x5 d1 d4
    unfold lL_isRepeat_41
    refine x_iload (pc := 41) dL_isRepeat_41 rfl ?_
    refine x_iload_n (pc := 43) dL_isRepeat_43 (i := 2) rfl rfl ?_
    refine x_icmp_lt (pc := 44) (tgt := 68) dL_isRepeat_44 (by decide) ?_ ?_
    · refine x_iconst (pc := 68) (v := 1) dL_isRepeat_68 (by decide) ?_
      exact x_iret rfl dL_isRepeat_69 rfl rfl
    · refine x_aload_n (pc := 47) dL_isRepeat_47 (i := 0) rfl rfl ?_
      refine x_iload (pc := 48) dL_isRepeat_48 rfl ?_
      refine x_ldI (pc := 50) dL_isRepeat_50 (fun v4 => ?_)
      refine x_aload_n (pc := 51) dL_isRepeat_51 (i := 0) rfl rfl ?_
      refine x_iload (pc := 52) dL_isRepeat_52 rfl ?_
      refine x_iload_n (pc := 54) dL_isRepeat_54 (i := 3) rfl rfl ?_
      refine x_isub (pc := 55) dL_isRepeat_55 ?_
      refine x_ldI (pc := 56) dL_isRepeat_56 (fun v5 => ?_)
      refine x_icmp_eq (pc := 57) (tgt := 62) dL_isRepeat_57 (by decide) ?_ ?_
      · refine x_iinc (pc := 62) (v := x5 + (-1 : Int32)) dL_isRepeat_62 rfl (by rw [show Int32.ofInt (-1) = (-1 : Int32) from by decide]) (by decide) (l' := [some (.ref x0), d1, some (.int x2), some (.int x3), (kl d4), some (.int (x5 + (-1 : Int32)))]) rfl ?_
        refine x_goto (pc := 65) (tgt := 41) dL_isRepeat_65 (by decide) ?_
        exact ih x0 x2 x3 (x5 + (-1 : Int32)) _ _
      · refine x_iconst (pc := 60) (v := 0) dL_isRepeat_60 (by decide) ?_
        exact x_iret rfl dL_isRepeat_61 rfl rfl
set_option maxRecDepth 100000 in
set_option maxHeartbeats 40000000 in
theorem xbL_isRepeat {n0 c0 s0 cx cy : Nat} {S : mSh} {μ : mMm} (p0 : Nat) (p1 : Nat) (p2 : Int32) (p3 : Int32) (p4 : Int32) : mX ML_isRepeat n0 c0 s0 0 [some (.ref p0), some (.ref p1), some (.int p2), some (.int p3), some (.int p4), none] [] (S, μ, cx, cy) (iPI S μ cx cy) (fL_isRepeat S μ p0 p1 p2 p3 p4) := by
  unfold fL_isRepeat
  refine x_iload_n (pc := 0) dL_isRepeat_0 (i := 3) rfl rfl ?_
  refine x_iload_n (pc := 1) dL_isRepeat_1 (i := 2) rfl rfl ?_
  refine x_icmp_gt (pc := 2) (tgt := 31) dL_isRepeat_2 (by decide) ?_ ?_
  · refine x_iconst (pc := 31) (v := 0) dL_isRepeat_31 (by decide) ?_
    exact x_iret rfl dL_isRepeat_32 rfl rfl
  · refine x_iload (pc := 5) dL_isRepeat_5 rfl ?_
    refine x_aload_n (pc := 7) dL_isRepeat_7 (i := 1) rfl rfl ?_
    refine x_iconst (pc := 8) (v := 2) dL_isRepeat_8 (by decide) ?_
    refine x_ldI (pc := 9) dL_isRepeat_9 (fun v1 => ?_)
    refine x_icmp_lt (pc := 10) (tgt := 31) dL_isRepeat_10 (by decide) ?_ ?_
    · refine x_iconst (pc := 31) (v := 0) dL_isRepeat_31 (by decide) ?_
      exact x_iret rfl dL_isRepeat_32 rfl rfl
    · refine x_iload (pc := 13) dL_isRepeat_13 rfl ?_
      refine x_aload_n (pc := 15) dL_isRepeat_15 (i := 1) rfl rfl ?_
      refine x_iconst (pc := 16) (v := 3) dL_isRepeat_16 (by decide) ?_
      refine x_ldI (pc := 17) dL_isRepeat_17 (fun v2 => ?_)
      refine x_icmp_gt (pc := 18) (tgt := 31) dL_isRepeat_18 (by decide) ?_ ?_
      · refine x_iconst (pc := 31) (v := 0) dL_isRepeat_31 (by decide) ?_
        exact x_iret rfl dL_isRepeat_32 rfl rfl
      · refine x_iload_n (pc := 21) dL_isRepeat_21 (i := 2) rfl rfl ?_
        refine x_iload (pc := 22) dL_isRepeat_22 rfl ?_
        refine x_iadd (pc := 24) dL_isRepeat_24 ?_
        refine x_aload_n (pc := 25) dL_isRepeat_25 (i := 1) rfl rfl ?_
        refine x_iconst (pc := 26) (v := 0) dL_isRepeat_26 (by decide) ?_
        refine x_ldI (pc := 27) dL_isRepeat_27 (fun v3 => ?_)
        refine x_icmp_le (pc := 28) (tgt := 33) dL_isRepeat_28 (by decide) ?_ ?_
        · refine x_iload_n (pc := 33) dL_isRepeat_33 (i := 2) rfl rfl ?_
          refine x_iload (pc := 34) dL_isRepeat_34 rfl ?_
          refine x_iadd (pc := 36) dL_isRepeat_36 ?_
          refine x_iconst (pc := 37) (v := 1) dL_isRepeat_37 (by decide) ?_
          refine x_isub (pc := 38) dL_isRepeat_38 ?_
          refine x_istore (pc := 39) dL_isRepeat_39 (by decide) (l' := [some (.ref p0), some (.ref p1), some (.int p2), some (.int p3), some (.int p4), some (.int ((p2 + p4) - (1 : Int32)))]) rfl ?_
          exact xL_isRepeat_41 FU p0 p2 p3 ((p2 + p4) - (1 : Int32)) _ _
        · refine x_iconst (pc := 31) (v := 0) dL_isRepeat_31 (by decide) ?_
          exact x_iret rfl dL_isRepeat_32 rfl rfl
theorem mL_isRepeat (S : mSh) (μ : mMm) (cx cy : Nat) (p0 : Nat) (p1 : Nat) (p2 : Int32) (p3 : Int32) (p4 : Int32) : mMet ML_isRepeat [.ref p0, .ref p1, .int p2, .int p3, .int p4] (S, μ, cx, cy) (iPI S μ cx cy) (fL_isRepeat S μ p0 p1 p2 p3 p4) := mMet.of rfl (by decide) rfl (fun h => by cases h) (Nat.le_of_ble_eq_true rfl) (xbL_isRepeat p0 p1 p2 p3 p4)
/-! SlideMillsLaw.longest([I[III)I -/
noncomputable def lL_longest_16 (k5 : Nat → Nat → Int32 → Int32 → Int32 → Option (Int32)) (S : mSh) (μ : mMm) : Nat → Nat → Nat → Int32 → Int32 → Int32 → Int32 → Option (Int32)
  | 0, _, _, _, _, _, _ => none
  | n + 1, x0, x1, x2, x3, x4, x5 => if x3 < x5 then (k5 x0 x1 x2 x3 (x4 + (-1 : Int32))) else ((fL_isRepeat S μ x0 x1 x2 x5 x4).bind fun v3 => if v3 = 0 then (lL_longest_16 k5 S μ n x0 x1 x2 x3 x4 (x5 + (1 : Int32))) else (some x4))
noncomputable def lL_longest_5 (S : mSh) (μ : mMm) : Nat → Nat → Nat → Int32 → Int32 → Int32 → Option (Int32)
  | 0, _, _, _, _, _ => none
  | n + 1, x0, x1, x2, x3, x4 => (ldI S μ x1 (2 : Int32)).bind fun v2 => if x4 < v2 then (some (0 : Int32)) else (lL_longest_16 (lL_longest_5 S μ n) S μ FU x0 x1 x2 x3 x4 (1 : Int32))
noncomputable def fL_longest (S : mSh) (μ : mMm) (p0 : Nat) (p1 : Nat) (p2 : Int32) (p3 : Int32) : Option (Int32) := (ldI S μ p1 (3 : Int32)).bind fun v1 => lL_longest_5 S μ FU p0 p1 p2 p3 v1
abbrev ML_longest : mM := ((yL_longest, cL_longest, 6, (some .int)), (1, 25), (false, false), RL, eT)
theorem kL_longest : mCalS ML_longest 4 := ⟨q240, q130, q241, by decide +kernel⟩
set_option maxRecDepth 100000 in
set_option maxHeartbeats 40000000 in
theorem xL_longest_16 {n0 c0 s0 cx cy : Nat} {S : mSh} {μ : mMm} {k5 : Nat → Nat → Int32 → Int32 → Int32 → Option (Int32)} (hk5 : ∀ (x0 : Nat) (x1 : Nat) (x2 : Int32) (x3 : Int32) (x4 : Int32) (d5 : Option Value), mX ML_longest n0 c0 s0 5 [some (.ref x0), some (.ref x1), some (.int x2), some (.int x3), some (.int x4), d5] [] (S, μ, cx, cy) (iPI S μ cx cy) (k5 x0 x1 x2 x3 x4)) : ∀ (n : Nat) (x0 : Nat) (x1 : Nat) (x2 : Int32) (x3 : Int32) (x4 : Int32) (x5 : Int32), mX ML_longest n0 c0 s0 16 [some (.ref x0), some (.ref x1), some (.int x2), some (.int x3), some (.int x4), some (.int x5)] [] (S, μ, cx, cy) (iPI S μ cx cy) (lL_longest_16 k5 S μ n x0 x1 x2 x3 x4 x5) := by
  intro n
  induction n with
  | zero => intros; exact x_none
  | succ n ih =>
    intro x0 x1 x2 x3 x4 x5
    unfold lL_longest_16
    refine x_iload (pc := 16) dL_longest_16 rfl ?_
    refine x_iload_n (pc := 18) dL_longest_18 (i := 3) rfl rfl ?_
    refine x_icmp_gt (pc := 19) (tgt := 44) dL_longest_19 (by decide) ?_ ?_
    · refine x_iinc (pc := 44) (v := x4 + (-1 : Int32)) dL_longest_44 rfl (by rw [show Int32.ofInt (-1) = (-1 : Int32) from by decide]) (by decide) (l' := [some (.ref x0), some (.ref x1), some (.int x2), some (.int x3), some (.int (x4 + (-1 : Int32))), some (.int x5)]) rfl ?_
      refine x_goto (pc := 47) (tgt := 5) dL_longest_47 (by decide) ?_
      exact hk5 x0 x1 x2 x3 (x4 + (-1 : Int32)) _
    · refine x_aload_n (pc := 22) dL_longest_22 (i := 0) rfl rfl ?_
      refine x_aload_n (pc := 23) dL_longest_23 (i := 1) rfl rfl ?_
      refine x_iload_n (pc := 24) dL_longest_24 (i := 2) rfl rfl ?_
      refine x_iload (pc := 25) dL_longest_25 rfl ?_
      refine x_iload (pc := 27) dL_longest_27 rfl ?_
      refine x_callSi (pc := 29) (As := [.ref x0, .ref x1, .int x2, .int x5, .int x4]) (rest := []) (vx := fun a => a) (μf := fun _ => μ) (mL_isRepeat S μ cx cy x0 x1 x2 x5 x4) (fun _ => rfl) rfl dL_longest_29 q242 kL_isRepeat rfl ⟨by decide, by decide⟩ rfl (Nat.le_of_ble_eq_true rfl) (fun v3 => ?_)
      refine x_if_eq (pc := 32) (tgt := 38) dL_longest_32 (by decide) ?_ ?_
      · refine x_iinc (pc := 38) (v := x5 + (1 : Int32)) dL_longest_38 rfl (by rw [show Int32.ofInt (1) = (1 : Int32) from by decide]) (by decide) (l' := [some (.ref x0), some (.ref x1), some (.int x2), some (.int x3), some (.int x4), some (.int (x5 + (1 : Int32)))]) rfl ?_
        refine x_goto (pc := 41) (tgt := 16) dL_longest_41 (by decide) ?_
        exact ih x0 x1 x2 x3 x4 (x5 + (1 : Int32)) 
      · refine x_iload (pc := 35) dL_longest_35 rfl ?_
        exact x_iret rfl dL_longest_37 rfl rfl
set_option maxRecDepth 100000 in
set_option maxHeartbeats 40000000 in
theorem xL_longest_5 {n0 c0 s0 cx cy : Nat} {S : mSh} {μ : mMm} : ∀ (n : Nat) (x0 : Nat) (x1 : Nat) (x2 : Int32) (x3 : Int32) (x4 : Int32) (d5 : Option Value), mX ML_longest n0 c0 s0 5 [some (.ref x0), some (.ref x1), some (.int x2), some (.int x3), some (.int x4), d5] [] (S, μ, cx, cy) (iPI S μ cx cy) (lL_longest_5 S μ n x0 x1 x2 x3 x4) := by
  intro n
  induction n with
  | zero => intros; exact x_none
  | succ n ih =>
    intro x0 x1 x2 x3 x4 d5
    unfold lL_longest_5
    refine x_iload (pc := 5) dL_longest_5 rfl ?_
    refine x_aload_n (pc := 7) dL_longest_7 (i := 1) rfl rfl ?_
    refine x_iconst (pc := 8) (v := 2) dL_longest_8 (by decide) ?_
    refine x_ldI (pc := 9) dL_longest_9 (fun v2 => ?_)
    refine x_icmp_lt (pc := 10) (tgt := 50) dL_longest_10 (by decide) ?_ ?_
    · refine x_iconst (pc := 50) (v := 0) dL_longest_50 (by decide) ?_
      exact x_iret rfl dL_longest_51 rfl rfl
    · refine x_iconst (pc := 13) (v := 1) dL_longest_13 (by decide) ?_
      refine x_istore (pc := 14) dL_longest_14 (by decide) (l' := [some (.ref x0), some (.ref x1), some (.int x2), some (.int x3), some (.int x4), some (.int (1 : Int32))]) rfl ?_
      exact xL_longest_16 (k5 := (lL_longest_5 S μ n)) ih FU x0 x1 x2 x3 x4 (1 : Int32) 
set_option maxRecDepth 100000 in
set_option maxHeartbeats 40000000 in
theorem xbL_longest {n0 c0 s0 cx cy : Nat} {S : mSh} {μ : mMm} (p0 : Nat) (p1 : Nat) (p2 : Int32) (p3 : Int32) : mX ML_longest n0 c0 s0 0 [some (.ref p0), some (.ref p1), some (.int p2), some (.int p3), none, none] [] (S, μ, cx, cy) (iPI S μ cx cy) (fL_longest S μ p0 p1 p2 p3) := by
  unfold fL_longest
  refine x_aload_n (pc := 0) dL_longest_0 (i := 1) rfl rfl ?_
  refine x_iconst (pc := 1) (v := 3) dL_longest_1 (by decide) ?_
  refine x_ldI (pc := 2) dL_longest_2 (fun v1 => ?_)
  refine x_istore (pc := 3) dL_longest_3 (by decide) (l' := [some (.ref p0), some (.ref p1), some (.int p2), some (.int p3), some (.int v1), none]) rfl ?_
  exact xL_longest_5 FU p0 p1 p2 p3 v1 _
theorem mL_longest (S : mSh) (μ : mMm) (cx cy : Nat) (p0 : Nat) (p1 : Nat) (p2 : Int32) (p3 : Int32) : mMet ML_longest [.ref p0, .ref p1, .int p2, .int p3] (S, μ, cx, cy) (iPI S μ cx cy) (fL_longest S μ p0 p1 p2 p3) := mMet.of rfl (by decide) rfl (fun h => by cases h) (Nat.le_of_ble_eq_true rfl) (xbL_longest p0 p1 p2 p3)
/-! SlideMillsLaw.nearest([I[III)I -/
noncomputable def lL_nearest_3 (S : mSh) (μ : mMm) : Nat → Nat → Nat → Int32 → Int32 → Int32 → Option (Int32)
  | 0, _, _, _, _, _ => none
  | n + 1, x0, x1, x2, x3, x4 => (ldI S μ x1 (1 : Int32)).bind fun v1 => if v1 < x4 then (some (0 : Int32)) else ((fL_isRepeat S μ x0 x1 x2 x4 x3).bind fun v2 => if v2 = 0 then (lL_nearest_3 S μ n x0 x1 x2 x3 (x4 + (1 : Int32))) else (some x4))
noncomputable def fL_nearest (S : mSh) (μ : mMm) (p0 : Nat) (p1 : Nat) (p2 : Int32) (p3 : Int32) : Option (Int32) := lL_nearest_3 S μ FU p0 p1 p2 p3 (1 : Int32)
abbrev ML_nearest : mM := ((yL_nearest, cL_nearest, 5, (some .int)), (1, 25), (false, false), RL, eT)
theorem kL_nearest : mCalS ML_nearest 4 := ⟨q249, q130, q250, by decide +kernel⟩
set_option maxRecDepth 100000 in
set_option maxHeartbeats 40000000 in
theorem xL_nearest_3 {n0 c0 s0 cx cy : Nat} {S : mSh} {μ : mMm} : ∀ (n : Nat) (x0 : Nat) (x1 : Nat) (x2 : Int32) (x3 : Int32) (x4 : Int32), mX ML_nearest n0 c0 s0 3 [some (.ref x0), some (.ref x1), some (.int x2), some (.int x3), some (.int x4)] [] (S, μ, cx, cy) (iPI S μ cx cy) (lL_nearest_3 S μ n x0 x1 x2 x3 x4) := by
  intro n
  induction n with
  | zero => intros; exact x_none
  | succ n ih =>
    intro x0 x1 x2 x3 x4
    unfold lL_nearest_3
    refine x_iload (pc := 3) dL_nearest_3 rfl ?_
    refine x_aload_n (pc := 5) dL_nearest_5 (i := 1) rfl rfl ?_
    refine x_iconst (pc := 6) (v := 1) dL_nearest_6 (by decide) ?_
    refine x_ldI (pc := 7) dL_nearest_7 (fun v1 => ?_)
    refine x_icmp_gt (pc := 8) (tgt := 32) dL_nearest_8 (by decide) ?_ ?_
    · refine x_iconst (pc := 32) (v := 0) dL_nearest_32 (by decide) ?_
      exact x_iret rfl dL_nearest_33 rfl rfl
    · refine x_aload_n (pc := 11) dL_nearest_11 (i := 0) rfl rfl ?_
      refine x_aload_n (pc := 12) dL_nearest_12 (i := 1) rfl rfl ?_
      refine x_iload_n (pc := 13) dL_nearest_13 (i := 2) rfl rfl ?_
      refine x_iload (pc := 14) dL_nearest_14 rfl ?_
      refine x_iload_n (pc := 16) dL_nearest_16 (i := 3) rfl rfl ?_
      refine x_callSi (pc := 17) (As := [.ref x0, .ref x1, .int x2, .int x4, .int x3]) (rest := []) (vx := fun a => a) (μf := fun _ => μ) (mL_isRepeat S μ cx cy x0 x1 x2 x4 x3) (fun _ => rfl) rfl dL_nearest_17 q242 kL_isRepeat rfl ⟨by decide, by decide⟩ rfl (Nat.le_of_ble_eq_true rfl) (fun v2 => ?_)
      refine x_if_eq (pc := 20) (tgt := 26) dL_nearest_20 (by decide) ?_ ?_
      · refine x_iinc (pc := 26) (v := x4 + (1 : Int32)) dL_nearest_26 rfl (by rw [show Int32.ofInt (1) = (1 : Int32) from by decide]) (by decide) (l' := [some (.ref x0), some (.ref x1), some (.int x2), some (.int x3), some (.int (x4 + (1 : Int32)))]) rfl ?_
        refine x_goto (pc := 29) (tgt := 3) dL_nearest_29 (by decide) ?_
        exact ih x0 x1 x2 x3 (x4 + (1 : Int32)) 
      · refine x_iload (pc := 23) dL_nearest_23 rfl ?_
        exact x_iret rfl dL_nearest_25 rfl rfl
set_option maxRecDepth 100000 in
set_option maxHeartbeats 40000000 in
theorem xbL_nearest {n0 c0 s0 cx cy : Nat} {S : mSh} {μ : mMm} (p0 : Nat) (p1 : Nat) (p2 : Int32) (p3 : Int32) : mX ML_nearest n0 c0 s0 0 [some (.ref p0), some (.ref p1), some (.int p2), some (.int p3), none] [] (S, μ, cx, cy) (iPI S μ cx cy) (fL_nearest S μ p0 p1 p2 p3) := by
  unfold fL_nearest
  refine x_iconst (pc := 0) (v := 1) dL_nearest_0 (by decide) ?_
  refine x_istore (pc := 1) dL_nearest_1 (by decide) (l' := [some (.ref p0), some (.ref p1), some (.int p2), some (.int p3), some (.int (1 : Int32))]) rfl ?_
  exact xL_nearest_3 FU p0 p1 p2 p3 (1 : Int32) 
theorem mL_nearest (S : mSh) (μ : mMm) (cx cy : Nat) (p0 : Nat) (p1 : Nat) (p2 : Int32) (p3 : Int32) : mMet ML_nearest [.ref p0, .ref p1, .int p2, .int p3] (S, μ, cx, cy) (iPI S μ cx cy) (fL_nearest S μ p0 p1 p2 p3) := mMet.of rfl (by decide) rfl (fun h => by cases h) (Nat.le_of_ble_eq_true rfl) (xbL_nearest p0 p1 p2 p3)
/-! SlideMillsLaw.costs([I[II[I)V -/
noncomputable def lL_costs_89 (k13 : mMm → Nat → Nat → Int32 → Nat → Int32 → Option (mMm)) (k42 : mMm → Nat → Nat → Int32 → Nat → Int32 → Int32 → Option (mMm)) (S : mSh) (μ : mMm) (x0 : Nat) (x1 : Nat) (x2 : Int32) (x3 : Nat) (x4 : Int32) (x5 : Int32) (t0 : Int32) (t1 : Int32) (t2 : Nat) : Option (mMm) := (stI S μ t2 t1 t0).bind fun m13 => k42 m13 x0 x1 x2 x3 x4 (x5 + (-1 : Int32))
noncomputable def lL_costs_42 (k13 : mMm → Nat → Nat → Int32 → Nat → Int32 → Option (mMm)) (S : mSh) : Nat → mMm → Nat → Nat → Int32 → Nat → Int32 → Int32 → Option (mMm)
  | 0, _, _, _, _, _, _, _ => none
  | n + 1, μ, x0, x1, x2, x3, x4, x5 => (ldI S μ x1 (2 : Int32)).bind fun v8 => if x5 < v8 then (k13 μ x0 x1 x2 x3 (x4 + (-1 : Int32))) else ((ldI S μ x3 (x4 + x5)).bind fun v9 => (ldI S μ x1 (5 : Int32)).bind fun v10 => (ldI S μ x3 x4).bind fun v11 => if v11 ≤ (v9 + v10) then ((ldI S μ x3 x4).bind fun v12 => lL_costs_89 k13 (lL_costs_42 k13 S n) S μ x0 x1 x2 x3 x4 x5 v12 x4 x3) else ((ldI S μ x3 (x4 + x5)).bind fun v14 => (ldI S μ x1 (5 : Int32)).bind fun v15 => lL_costs_89 k13 (lL_costs_42 k13 S n) S μ x0 x1 x2 x3 x4 x5 (v14 + v15) x4 x3))
noncomputable def lL_costs_13 (S : mSh) : Nat → mMm → Nat → Nat → Int32 → Nat → Int32 → Option (mMm)
  | 0, _, _, _, _, _, _ => none
  | n + 1, μ, x0, x1, x2, x3, x4 => if x4 < 0 then (some μ) else ((ldI S μ x3 (x4 + (1 : Int32))).bind fun v4 => (ldI S μ x1 (4 : Int32)).bind fun v5 => (stI S μ x3 x4 (v4 + v5)).bind fun m6 => (fL_longest S m6 x0 x1 x4 x2).bind fun v7 => lL_costs_42 (lL_costs_13 S n) S FU m6 x0 x1 x2 x3 x4 v7)
noncomputable def fL_costs (S : mSh) (μ : mMm) (p0 : Nat) (p1 : Nat) (p2 : Int32) (p3 : Nat) : Option (mMm) := (ldI S μ p1 (0 : Int32)).bind fun v1 => (stI S μ p3 v1 (0 : Int32)).bind fun m2 => (ldI S m2 p1 (0 : Int32)).bind fun v3 => lL_costs_13 S FU m2 p0 p1 p2 p3 (v3 - (1 : Int32))
abbrev ML_costs : mM := ((yL_costs, cL_costs, 6, none), (2, 50), (false, false), RL, eT)
theorem kL_costs : mCalS ML_costs 4 := ⟨q237, q130, q238, by decide +kernel⟩
set_option maxRecDepth 100000 in
set_option maxHeartbeats 40000000 in
theorem xL_costs_89 {n0 c0 s0 cx cy : Nat} {S : mSh} {k13 : mMm → Nat → Nat → Int32 → Nat → Int32 → Option (mMm)} {k42 : mMm → Nat → Nat → Int32 → Nat → Int32 → Int32 → Option (mMm)} (hk13 : ∀ (μ : mMm) (x0 : Nat) (x1 : Nat) (x2 : Int32) (x3 : Nat) (x4 : Int32) (d5 : Option Value), mX ML_costs n0 c0 s0 13 [some (.ref x0), some (.ref x1), some (.int x2), some (.ref x3), some (.int x4), d5] [] (S, μ, cx, cy) (iMV S cx cy) (k13 μ x0 x1 x2 x3 x4)) (hk42 : ∀ (μ : mMm) (x0 : Nat) (x1 : Nat) (x2 : Int32) (x3 : Nat) (x4 : Int32) (x5 : Int32), mX ML_costs n0 c0 s0 42 [some (.ref x0), some (.ref x1), some (.int x2), some (.ref x3), some (.int x4), some (.int x5)] [] (S, μ, cx, cy) (iMV S cx cy) (k42 μ x0 x1 x2 x3 x4 x5)) (μ : mMm) (x0 : Nat) (x1 : Nat) (x2 : Int32) (x3 : Nat) (x4 : Int32) (x5 : Int32) (t0 : Int32) (t1 : Int32) (t2 : Nat) : mX ML_costs n0 c0 s0 89 [some (.ref x0), some (.ref x1), some (.int x2), some (.ref x3), some (.int x4), some (.int x5)] [.int t0, .int t1, .ref t2] (S, μ, cx, cy) (iMV S cx cy) (lL_costs_89 k13 k42 S μ x0 x1 x2 x3 x4 x5 t0 t1 t2) := by
  unfold lL_costs_89
  refine x_stI (pc := 89) dL_costs_89 (fun m13 => ?_)
  refine x_iinc (pc := 90) (v := x5 + (-1 : Int32)) dL_costs_90 rfl (by rw [show Int32.ofInt (-1) = (-1 : Int32) from by decide]) (by decide) (l' := [some (.ref x0), some (.ref x1), some (.int x2), some (.ref x3), some (.int x4), some (.int (x5 + (-1 : Int32)))]) rfl ?_
  refine x_goto (pc := 93) (tgt := 42) dL_costs_93 (by decide) ?_
  exact hk42 m13 x0 x1 x2 x3 x4 (x5 + (-1 : Int32)) 
set_option maxRecDepth 100000 in
set_option maxHeartbeats 40000000 in
theorem xL_costs_42 {n0 c0 s0 cx cy : Nat} {S : mSh} {k13 : mMm → Nat → Nat → Int32 → Nat → Int32 → Option (mMm)} (hk13 : ∀ (μ : mMm) (x0 : Nat) (x1 : Nat) (x2 : Int32) (x3 : Nat) (x4 : Int32) (d5 : Option Value), mX ML_costs n0 c0 s0 13 [some (.ref x0), some (.ref x1), some (.int x2), some (.ref x3), some (.int x4), d5] [] (S, μ, cx, cy) (iMV S cx cy) (k13 μ x0 x1 x2 x3 x4)) : ∀ (n : Nat) (μ : mMm) (x0 : Nat) (x1 : Nat) (x2 : Int32) (x3 : Nat) (x4 : Int32) (x5 : Int32), mX ML_costs n0 c0 s0 42 [some (.ref x0), some (.ref x1), some (.int x2), some (.ref x3), some (.int x4), some (.int x5)] [] (S, μ, cx, cy) (iMV S cx cy) (lL_costs_42 k13 S n μ x0 x1 x2 x3 x4 x5) := by
  intro n
  induction n with
  | zero => intros; exact x_none
  | succ n ih =>
    intro μ x0 x1 x2 x3 x4 x5
    unfold lL_costs_42
    refine x_iload (pc := 42) dL_costs_42 rfl ?_
    refine x_aload_n (pc := 44) dL_costs_44 (i := 1) rfl rfl ?_
    refine x_iconst (pc := 45) (v := 2) dL_costs_45 (by decide) ?_
    refine x_ldI (pc := 46) dL_costs_46 (fun v8 => ?_)
    refine x_icmp_lt (pc := 47) (tgt := 96) dL_costs_47 (by decide) ?_ ?_
    · refine x_iinc (pc := 96) (v := x4 + (-1 : Int32)) dL_costs_96 rfl (by rw [show Int32.ofInt (-1) = (-1 : Int32) from by decide]) (by decide) (l' := [some (.ref x0), some (.ref x1), some (.int x2), some (.ref x3), some (.int (x4 + (-1 : Int32))), some (.int x5)]) rfl ?_
      refine x_goto (pc := 99) (tgt := 13) dL_costs_99 (by decide) ?_
      exact hk13 μ x0 x1 x2 x3 (x4 + (-1 : Int32)) _
    · refine x_aload_n (pc := 50) dL_costs_50 (i := 3) rfl rfl ?_
      refine x_iload (pc := 51) dL_costs_51 rfl ?_
      refine x_aload_n (pc := 53) dL_costs_53 (i := 3) rfl rfl ?_
      refine x_iload (pc := 54) dL_costs_54 rfl ?_
      refine x_iload (pc := 56) dL_costs_56 rfl ?_
      refine x_iadd (pc := 58) dL_costs_58 ?_
      refine x_ldI (pc := 59) dL_costs_59 (fun v9 => ?_)
      refine x_aload_n (pc := 60) dL_costs_60 (i := 1) rfl rfl ?_
      refine x_iconst (pc := 61) (v := 5) dL_costs_61 (by decide) ?_
      refine x_ldI (pc := 62) dL_costs_62 (fun v10 => ?_)
      refine x_iadd (pc := 63) dL_costs_63 ?_
      refine x_aload_n (pc := 64) dL_costs_64 (i := 3) rfl rfl ?_
      refine x_iload (pc := 65) dL_costs_65 rfl ?_
      refine x_ldI (pc := 67) dL_costs_67 (fun v11 => ?_)
      refine x_icmp_ge (pc := 68) (tgt := 85) dL_costs_68 (by decide) ?_ ?_
      · refine x_aload_n (pc := 85) dL_costs_85 (i := 3) rfl rfl ?_
        refine x_iload (pc := 86) dL_costs_86 rfl ?_
        refine x_ldI (pc := 88) dL_costs_88 (fun v12 => ?_)
        exact xL_costs_89 (k13 := k13) (k42 := (lL_costs_42 k13 S n)) hk13 ih μ x0 x1 x2 x3 x4 x5 v12 x4 x3 
      · refine x_aload_n (pc := 71) dL_costs_71 (i := 3) rfl rfl ?_
        refine x_iload (pc := 72) dL_costs_72 rfl ?_
        refine x_iload (pc := 74) dL_costs_74 rfl ?_
        refine x_iadd (pc := 76) dL_costs_76 ?_
        refine x_ldI (pc := 77) dL_costs_77 (fun v14 => ?_)
        refine x_aload_n (pc := 78) dL_costs_78 (i := 1) rfl rfl ?_
        refine x_iconst (pc := 79) (v := 5) dL_costs_79 (by decide) ?_
        refine x_ldI (pc := 80) dL_costs_80 (fun v15 => ?_)
        refine x_iadd (pc := 81) dL_costs_81 ?_
        refine x_goto (pc := 82) (tgt := 89) dL_costs_82 (by decide) ?_
        exact xL_costs_89 (k13 := k13) (k42 := (lL_costs_42 k13 S n)) hk13 ih μ x0 x1 x2 x3 x4 x5 (v14 + v15) x4 x3 
set_option maxRecDepth 100000 in
set_option maxHeartbeats 40000000 in
theorem xL_costs_13 {n0 c0 s0 cx cy : Nat} {S : mSh} : ∀ (n : Nat) (μ : mMm) (x0 : Nat) (x1 : Nat) (x2 : Int32) (x3 : Nat) (x4 : Int32) (d5 : Option Value), mX ML_costs n0 c0 s0 13 [some (.ref x0), some (.ref x1), some (.int x2), some (.ref x3), some (.int x4), d5] [] (S, μ, cx, cy) (iMV S cx cy) (lL_costs_13 S n μ x0 x1 x2 x3 x4) := by
  intro n
  induction n with
  | zero => intros; exact x_none
  | succ n ih =>
    intro μ x0 x1 x2 x3 x4 d5
    unfold lL_costs_13
    refine x_iload (pc := 13) dL_costs_13 rfl ?_
    refine x_if_lt (pc := 15) (tgt := 102) dL_costs_15 (by decide) ?_ ?_
    · exact x_ret rfl dL_costs_102 rfl
    · refine x_aload_n (pc := 18) dL_costs_18 (i := 3) rfl rfl ?_
      refine x_iload (pc := 19) dL_costs_19 rfl ?_
      refine x_aload_n (pc := 21) dL_costs_21 (i := 3) rfl rfl ?_
      refine x_iload (pc := 22) dL_costs_22 rfl ?_
      refine x_iconst (pc := 24) (v := 1) dL_costs_24 (by decide) ?_
      refine x_iadd (pc := 25) dL_costs_25 ?_
      refine x_ldI (pc := 26) dL_costs_26 (fun v4 => ?_)
      refine x_aload_n (pc := 27) dL_costs_27 (i := 1) rfl rfl ?_
      refine x_iconst (pc := 28) (v := 4) dL_costs_28 (by decide) ?_
      refine x_ldI (pc := 29) dL_costs_29 (fun v5 => ?_)
      refine x_iadd (pc := 30) dL_costs_30 ?_
      refine x_stI (pc := 31) dL_costs_31 (fun m6 => ?_)
      refine x_aload_n (pc := 32) dL_costs_32 (i := 0) rfl rfl ?_
      refine x_aload_n (pc := 33) dL_costs_33 (i := 1) rfl rfl ?_
      refine x_iload (pc := 34) dL_costs_34 rfl ?_
      refine x_iload_n (pc := 36) dL_costs_36 (i := 2) rfl rfl ?_
      refine x_callSi (pc := 37) (As := [.ref x0, .ref x1, .int x4, .int x2]) (rest := []) (vx := fun a => a) (μf := fun _ => m6) (mL_longest S m6 cx cy x0 x1 x4 x2) (fun _ => rfl) rfl dL_costs_37 q239 kL_longest rfl ⟨by decide, by decide⟩ rfl (Nat.le_of_ble_eq_true rfl) (fun v7 => ?_)
      refine x_istore (pc := 40) dL_costs_40 (by decide) (l' := [some (.ref x0), some (.ref x1), some (.int x2), some (.ref x3), some (.int x4), some (.int v7)]) rfl ?_
      exact xL_costs_42 (k13 := (lL_costs_13 S n)) ih FU m6 x0 x1 x2 x3 x4 v7 
set_option maxRecDepth 100000 in
set_option maxHeartbeats 40000000 in
theorem xbL_costs {n0 c0 s0 cx cy : Nat} {S : mSh} {μ : mMm} (p0 : Nat) (p1 : Nat) (p2 : Int32) (p3 : Nat) : mX ML_costs n0 c0 s0 0 [some (.ref p0), some (.ref p1), some (.int p2), some (.ref p3), none, none] [] (S, μ, cx, cy) (iMV S cx cy) (fL_costs S μ p0 p1 p2 p3) := by
  unfold fL_costs
  refine x_aload_n (pc := 0) dL_costs_0 (i := 3) rfl rfl ?_
  refine x_aload_n (pc := 1) dL_costs_1 (i := 1) rfl rfl ?_
  refine x_iconst (pc := 2) (v := 0) dL_costs_2 (by decide) ?_
  refine x_ldI (pc := 3) dL_costs_3 (fun v1 => ?_)
  refine x_iconst (pc := 4) (v := 0) dL_costs_4 (by decide) ?_
  refine x_stI (pc := 5) dL_costs_5 (fun m2 => ?_)
  refine x_aload_n (pc := 6) dL_costs_6 (i := 1) rfl rfl ?_
  refine x_iconst (pc := 7) (v := 0) dL_costs_7 (by decide) ?_
  refine x_ldI (pc := 8) dL_costs_8 (fun v3 => ?_)
  refine x_iconst (pc := 9) (v := 1) dL_costs_9 (by decide) ?_
  refine x_isub (pc := 10) dL_costs_10 ?_
  refine x_istore (pc := 11) dL_costs_11 (by decide) (l' := [some (.ref p0), some (.ref p1), some (.int p2), some (.ref p3), some (.int (v3 - (1 : Int32))), none]) rfl ?_
  exact xL_costs_13 FU m2 p0 p1 p2 p3 (v3 - (1 : Int32)) _
theorem mL_costs (S : mSh) (μ : mMm) (cx cy : Nat) (p0 : Nat) (p1 : Nat) (p2 : Int32) (p3 : Nat) : mMet ML_costs [.ref p0, .ref p1, .int p2, .ref p3] (S, μ, cx, cy) (iMV S cx cy) (fL_costs S μ p0 p1 p2 p3) := mMet.of rfl (by decide) rfl (fun h => by cases h) (Nat.le_of_ble_eq_true rfl) (xbL_costs p0 p1 p2 p3)
/-! SlideMillsLaw.by([I[I[III)I -/
noncomputable def lL_by_56 (k17 : Nat → Nat → Int32 → Int32 → Option (Int32)) (S : mSh) (μ : mMm) (x1 : Nat) (x2 : Nat) (x4 : Int32) (t0 : Int32) : Option (Int32) := k17 x1 x2 x4 t0
noncomputable def lL_by_17 (S : mSh) (μ : mMm) : Nat → Nat → Nat → Int32 → Int32 → Option (Int32)
  | 0, _, _, _, _ => none
  | n + 1, x1, x2, x4, x5 => if x5 ≤ 0 then (some x5) else ((ldI S μ x2 x4).bind fun v6 => (ldI S μ x2 (x4 + x5)).bind fun v7 => (ldI S μ x1 (5 : Int32)).bind fun v8 => if v6 = (v7 + v8) then (some x5) else ((ldI S μ x1 (2 : Int32)).bind fun v9 => if x5 ≤ v9 then (lL_by_56 (lL_by_17 S μ n) S μ x1 x2 x4 (0 : Int32)) else (lL_by_56 (lL_by_17 S μ n) S μ x1 x2 x4 (x5 - (1 : Int32)))))
noncomputable def fL_by (S : mSh) (μ : mMm) (p0 : Nat) (p1 : Nat) (p2 : Nat) (p3 : Int32) (p4 : Int32) : Option (Int32) := (ldI S μ p1 (1 : Int32)).bind fun v1 => (fL_longest S μ p0 p1 p4 v1).bind fun v2 => if p3 = (2 : Int32) then (lL_by_17 S μ FU p1 p2 p4 v2) else (if p3 = (1 : Int32) then ((ldI S μ p1 (0 : Int32)).bind fun v3 => if (v3 - (1 : Int32)) ≤ p4 then (some v2) else ((ldI S μ p1 (1 : Int32)).bind fun v4 => (fL_longest S μ p0 p1 (p4 + (1 : Int32)) v4).bind fun v5 => if v5 ≤ v2 then (some v2) else (some (0 : Int32)))) else (some v2))
abbrev ML_by : mM := ((yL_by, cL_by, 6, (some .int)), (2, 50), (false, false), RL, eT)
theorem kL_by : mCalS ML_by 5 := ⟨q246, q130, q247, by decide +kernel⟩
set_option maxRecDepth 100000 in
set_option maxHeartbeats 40000000 in
theorem xL_by_56 {n0 c0 s0 cx cy : Nat} {S : mSh} {μ : mMm} {k17 : Nat → Nat → Int32 → Int32 → Option (Int32)} (hk17 : ∀ (x1 : Nat) (x2 : Nat) (x4 : Int32) (x5 : Int32) (d0 : Option Value) (d3 : Option Value), mX ML_by n0 c0 s0 17 [d0, some (.ref x1), some (.ref x2), d3, some (.int x4), some (.int x5)] [] (S, μ, cx, cy) (iPI S μ cx cy) (k17 x1 x2 x4 x5)) (x1 : Nat) (x2 : Nat) (x4 : Int32) (t0 : Int32) (d0 : Option Value) (d3 : Option Value) (d5 : Option Value) : mX ML_by n0 c0 s0 56 [d0, some (.ref x1), some (.ref x2), d3, some (.int x4), d5] [.int t0] (S, μ, cx, cy) (iPI S μ cx cy) (lL_by_56 k17 S μ x1 x2 x4 t0) := by
  unfold lL_by_56
  refine x_istore (pc := 56) dL_by_56 (by decide) (l' := [d0, some (.ref x1), some (.ref x2), d3, some (.int x4), some (.int t0)]) rfl ?_
  refine x_goto (pc := 58) (tgt := 17) dL_by_58 (by decide) ?_
  exact hk17 x1 x2 x4 t0 _ _
set_option maxRecDepth 100000 in
set_option maxHeartbeats 40000000 in
theorem xL_by_17 {n0 c0 s0 cx cy : Nat} {S : mSh} {μ : mMm} : ∀ (n : Nat) (x1 : Nat) (x2 : Nat) (x4 : Int32) (x5 : Int32) (d0 : Option Value) (d3 : Option Value), mX ML_by n0 c0 s0 17 [d0, some (.ref x1), some (.ref x2), d3, some (.int x4), some (.int x5)] [] (S, μ, cx, cy) (iPI S μ cx cy) (lL_by_17 S μ n x1 x2 x4 x5) := by
  intro n
  induction n with
  | zero => intros; exact x_none
  | succ n ih =>
    intro x1 x2 x4 x5 d0 d3
    unfold lL_by_17
    refine x_iload (pc := 17) dL_by_17 rfl ?_
    refine x_if_le (pc := 19) (tgt := 101) dL_by_19 (by decide) ?_ ?_
    · refine x_iload (pc := 101) dL_by_101 rfl ?_
      exact x_iret rfl dL_by_103 rfl rfl
    · refine x_aload_n (pc := 22) dL_by_22 (i := 2) rfl rfl ?_
      refine x_iload (pc := 23) dL_by_23 rfl ?_
      refine x_ldI (pc := 25) dL_by_25 (fun v6 => ?_)
      refine x_aload_n (pc := 26) dL_by_26 (i := 2) rfl rfl ?_
      refine x_iload (pc := 27) dL_by_27 rfl ?_
      refine x_iload (pc := 29) dL_by_29 rfl ?_
      refine x_iadd (pc := 31) dL_by_31 ?_
      refine x_ldI (pc := 32) dL_by_32 (fun v7 => ?_)
      refine x_aload_n (pc := 33) dL_by_33 (i := 1) rfl rfl ?_
      refine x_iconst (pc := 34) (v := 5) dL_by_34 (by decide) ?_
      refine x_ldI (pc := 35) dL_by_35 (fun v8 => ?_)
      refine x_iadd (pc := 36) dL_by_36 ?_
      refine x_icmp_eq (pc := 37) (tgt := 101) dL_by_37 (by decide) ?_ ?_
      · refine x_iload (pc := 101) dL_by_101 rfl ?_
        exact x_iret rfl dL_by_103 rfl rfl
      · refine x_iload (pc := 40) dL_by_40 rfl ?_
        refine x_aload_n (pc := 42) dL_by_42 (i := 1) rfl rfl ?_
        refine x_iconst (pc := 43) (v := 2) dL_by_43 (by decide) ?_
        refine x_ldI (pc := 44) dL_by_44 (fun v9 => ?_)
        refine x_icmp_le (pc := 45) (tgt := 55) dL_by_45 (by decide) ?_ ?_
        · refine x_iconst (pc := 55) (v := 0) dL_by_55 (by decide) ?_
          exact xL_by_56 (k17 := (lL_by_17 S μ n)) ih x1 x2 x4 (0 : Int32) _ _ _
        · refine x_iload (pc := 48) dL_by_48 rfl ?_
          refine x_iconst (pc := 50) (v := 1) dL_by_50 (by decide) ?_
          refine x_isub (pc := 51) dL_by_51 ?_
          refine x_goto (pc := 52) (tgt := 56) dL_by_52 (by decide) ?_
          exact xL_by_56 (k17 := (lL_by_17 S μ n)) ih x1 x2 x4 (x5 - (1 : Int32)) _ _ _
set_option maxRecDepth 100000 in
set_option maxHeartbeats 40000000 in
theorem xbL_by {n0 c0 s0 cx cy : Nat} {S : mSh} {μ : mMm} (p0 : Nat) (p1 : Nat) (p2 : Nat) (p3 : Int32) (p4 : Int32) : mX ML_by n0 c0 s0 0 [some (.ref p0), some (.ref p1), some (.ref p2), some (.int p3), some (.int p4), none] [] (S, μ, cx, cy) (iPI S μ cx cy) (fL_by S μ p0 p1 p2 p3 p4) := by
  unfold fL_by
  refine x_aload_n (pc := 0) dL_by_0 (i := 0) rfl rfl ?_
  refine x_aload_n (pc := 1) dL_by_1 (i := 1) rfl rfl ?_
  refine x_iload (pc := 2) dL_by_2 rfl ?_
  refine x_aload_n (pc := 4) dL_by_4 (i := 1) rfl rfl ?_
  refine x_iconst (pc := 5) (v := 1) dL_by_5 (by decide) ?_
  refine x_ldI (pc := 6) dL_by_6 (fun v1 => ?_)
  refine x_callSi (pc := 7) (As := [.ref p0, .ref p1, .int p4, .int v1]) (rest := []) (vx := fun a => a) (μf := fun _ => μ) (mL_longest S μ cx cy p0 p1 p4 v1) (fun _ => rfl) rfl dL_by_7 q239 kL_longest rfl ⟨by decide, by decide⟩ rfl (Nat.le_of_ble_eq_true rfl) (fun v2 => ?_)
  refine x_istore (pc := 10) dL_by_10 (by decide) (l' := [some (.ref p0), some (.ref p1), some (.ref p2), some (.int p3), some (.int p4), some (.int v2)]) rfl ?_
  refine x_iload_n (pc := 12) dL_by_12 (i := 3) rfl rfl ?_
  refine x_iconst (pc := 13) (v := 2) dL_by_13 (by decide) ?_
  refine x_icmp_ne (pc := 14) (tgt := 61) dL_by_14 (by decide) ?_ ?_
  · exact xL_by_17 FU p1 p2 p4 v2 _ _
  · refine x_iload_n (pc := 61) dL_by_61 (i := 3) rfl rfl ?_
    refine x_iconst (pc := 62) (v := 1) dL_by_62 (by decide) ?_
    refine x_icmp_ne (pc := 63) (tgt := 101) dL_by_63 (by decide) ?_ ?_
    · refine x_iload (pc := 66) dL_by_66 rfl ?_
      refine x_aload_n (pc := 68) dL_by_68 (i := 1) rfl rfl ?_
      refine x_iconst (pc := 69) (v := 0) dL_by_69 (by decide) ?_
      refine x_ldI (pc := 70) dL_by_70 (fun v3 => ?_)
      refine x_iconst (pc := 71) (v := 1) dL_by_71 (by decide) ?_
      refine x_isub (pc := 72) dL_by_72 ?_
      refine x_icmp_ge (pc := 73) (tgt := 101) dL_by_73 (by decide) ?_ ?_
      · refine x_iload (pc := 101) dL_by_101 rfl ?_
        exact x_iret rfl dL_by_103 rfl rfl
      · refine x_aload_n (pc := 76) dL_by_76 (i := 0) rfl rfl ?_
        refine x_aload_n (pc := 77) dL_by_77 (i := 1) rfl rfl ?_
        refine x_iload (pc := 78) dL_by_78 rfl ?_
        refine x_iconst (pc := 80) (v := 1) dL_by_80 (by decide) ?_
        refine x_iadd (pc := 81) dL_by_81 ?_
        refine x_aload_n (pc := 82) dL_by_82 (i := 1) rfl rfl ?_
        refine x_iconst (pc := 83) (v := 1) dL_by_83 (by decide) ?_
        refine x_ldI (pc := 84) dL_by_84 (fun v4 => ?_)
        refine x_callSi (pc := 85) (As := [.ref p0, .ref p1, .int (p4 + (1 : Int32)), .int v4]) (rest := []) (vx := fun a => a) (μf := fun _ => μ) (mL_longest S μ cx cy p0 p1 (p4 + (1 : Int32)) v4) (fun _ => rfl) rfl dL_by_85 q239 kL_longest rfl ⟨by decide, by decide⟩ rfl (Nat.le_of_ble_eq_true rfl) (fun v5 => ?_)
        refine x_iload (pc := 88) dL_by_88 rfl ?_
        refine x_icmp_le (pc := 90) (tgt := 97) dL_by_90 (by decide) ?_ ?_
        · refine x_iload (pc := 97) dL_by_97 rfl ?_
          refine x_istore (pc := 99) dL_by_99 (by decide) (l' := [some (.ref p0), some (.ref p1), some (.ref p2), some (.int p3), some (.int p4), some (.int v2)]) rfl ?_
          refine x_iload (pc := 101) dL_by_101 rfl ?_
          exact x_iret rfl dL_by_103 rfl rfl
        · refine x_iconst (pc := 93) (v := 0) dL_by_93 (by decide) ?_
          refine x_goto (pc := 94) (tgt := 99) dL_by_94 (by decide) ?_
          refine x_istore (pc := 99) dL_by_99 (by decide) (l' := [some (.ref p0), some (.ref p1), some (.ref p2), some (.int p3), some (.int p4), some (.int (0 : Int32))]) rfl ?_
          refine x_iload (pc := 101) dL_by_101 rfl ?_
          exact x_iret rfl dL_by_103 rfl rfl
    · refine x_iload (pc := 101) dL_by_101 rfl ?_
      exact x_iret rfl dL_by_103 rfl rfl
theorem mL_by (S : mSh) (μ : mMm) (cx cy : Nat) (p0 : Nat) (p1 : Nat) (p2 : Nat) (p3 : Int32) (p4 : Int32) : mMet ML_by [.ref p0, .ref p1, .ref p2, .int p3, .int p4] (S, μ, cx, cy) (iPI S μ cx cy) (fL_by S μ p0 p1 p2 p3 p4) := mMet.of rfl (by decide) rfl (fun h => by cases h) (Nat.le_of_ble_eq_true rfl) (xbL_by p0 p1 p2 p3 p4)
/-! SlideMillsLaw.pack([I[II[I[I)I -/
noncomputable def lL_pack_118 (k25 : mSh → mMm → Nat → Nat → Nat → Int32 → Nat → Nat → Nat → Int32 → Int32 → Int32 → Option (Int32 × mSh × mMm × Nat)) (S : mSh) (μ : mMm) (cx : Nat) (x0 : Nat) (x1 : Nat) (x2 : Int32) (x3 : Nat) (x4 : Nat) (x5 : Nat) (x6 : Int32) (x7 : Int32) (t0 : Int32) (t1 : Int32) : Option (Int32 × mSh × mMm × Nat) := k25 S μ cx x0 x1 x2 x3 x4 x5 (x6 + (1 : Int32)) x7 (t1 + t0)
noncomputable def lL_pack_102 (k25 : mSh → mMm → Nat → Nat → Nat → Int32 → Nat → Nat → Nat → Int32 → Int32 → Int32 → Option (Int32 × mSh × mMm × Nat)) (S : mSh) (μ : mMm) (cx : Nat) (x0 : Nat) (x1 : Nat) (x2 : Int32) (x3 : Nat) (x4 : Nat) (x5 : Nat) (x6 : Int32) (x8 : Int32) (x9 : Int32) (t0 : Int32) (t1 : Int32) : Option (Int32 × mSh × mMm × Nat) := if x9 = 0 then (lL_pack_118 k25 S μ cx x0 x1 x2 x3 x4 x5 x6 (t1 + t0) (1 : Int32) x8) else (lL_pack_118 k25 S μ cx x0 x1 x2 x3 x4 x5 x6 (t1 + t0) x9 x8)
noncomputable def lL_pack_85 (k25 : mSh → mMm → Nat → Nat → Nat → Int32 → Nat → Nat → Nat → Int32 → Int32 → Int32 → Option (Int32 × mSh × mMm × Nat)) (S : mSh) (μ : mMm) (cx : Nat) (x0 : Nat) (x1 : Nat) (x2 : Int32) (x3 : Nat) (x4 : Nat) (x5 : Nat) (x6 : Int32) (x7 : Int32) (x8 : Int32) (x9 : Int32) (t0 : Int32) (t1 : Int32) (t2 : Nat) : Option (Int32 × mSh × mMm × Nat) := (stI S μ t2 t1 t0).bind fun m8 => if x9 = 0 then ((ldI S m8 x1 (4 : Int32)).bind fun v10 => lL_pack_102 k25 S m8 cx x0 x1 x2 x3 x4 x5 x6 x8 x9 v10 x7) else ((ldI S m8 x1 (5 : Int32)).bind fun v9 => lL_pack_102 k25 S m8 cx x0 x1 x2 x3 x4 x5 x6 x8 x9 v9 x7)
noncomputable def lL_pack_66 (k25 : mSh → mMm → Nat → Nat → Nat → Int32 → Nat → Nat → Nat → Int32 → Int32 → Int32 → Option (Int32 × mSh × mMm × Nat)) (S : mSh) (μ : mMm) (cx : Nat) (x0 : Nat) (x1 : Nat) (x2 : Int32) (x3 : Nat) (x4 : Nat) (x5 : Nat) (x6 : Int32) (x7 : Int32) (x8 : Int32) (x9 : Int32) (t0 : Int32) (t1 : Int32) (t2 : Nat) : Option (Int32 × mSh × mMm × Nat) := (stI S μ t2 t1 t0).bind fun m7 => if x9 = 0 then ((ldI S m7 x0 x8).bind fun v11 => lL_pack_85 k25 S m7 cx x0 x1 x2 x3 x4 x5 x6 x7 x8 x9 v11 x6 x4) else (lL_pack_85 k25 S m7 cx x0 x1 x2 x3 x4 x5 x6 x7 x8 x9 x9 x6 x4)
noncomputable def lL_pack_25 : Nat → mSh → mMm → Nat → Nat → Nat → Int32 → Nat → Nat → Nat → Int32 → Int32 → Int32 → Option (Int32 × mSh × mMm × Nat)
  | 0, _, _, _, _, _, _, _, _, _, _, _, _ => none
  | n + 1, S, μ, cx, x0, x1, x2, x3, x4, x5, x6, x7, x8 => (ldI S μ x1 (0 : Int32)).bind fun v4 => if v4 ≤ x8 then (some (x6 + ((1000 : Int32) * x7), S, μ, cx)) else ((fL_by S μ x0 x1 x5 x2 x8).bind fun v5 => if v5 = 0 then (lL_pack_66 (lL_pack_25 n) S μ cx x0 x1 x2 x3 x4 x5 x6 x7 x8 v5 (0 : Int32) x6 x3) else ((fL_nearest S μ x0 x1 x8 v5).bind fun v6 => lL_pack_66 (lL_pack_25 n) S μ cx x0 x1 x2 x3 x4 x5 x6 x7 x8 v5 v6 x6 x3))
noncomputable def fL_pack (S : mSh) (μ : mMm) (cx : Nat) (p0 : Nat) (p1 : Nat) (p2 : Int32) (p3 : Nat) (p4 : Nat) : Option (Int32 × mSh × mMm × Nat) := (aN S μ [some (.ref p0), some (.ref p1), some (.int p2), some (.ref p3), some (.ref p4), none, none, none, none, none] [] 12 41 41).bind fun r1 => (ldI r1.1 r1.2 p1 (1 : Int32)).bind fun v2 => (fL_costs r1.1 r1.2 p0 p1 v2 (mN S)).bind fun m3 => lL_pack_25 FU r1.1 m3 cx p0 p1 p2 p3 p4 (mN S) (0 : Int32) (0 : Int32) (0 : Int32)
abbrev ML_pack : mM := ((yL_pack, cL_pack, 10, (some .int)), (3, 75), (true, false), RL, eT)
theorem kL_pack : mCalS ML_pack 5 := ⟨q234, q130, q235, by decide +kernel⟩
set_option maxRecDepth 100000 in
set_option maxHeartbeats 40000000 in
theorem xL_pack_118 {n0 c0 s0 : Nat} {k25 : mSh → mMm → Nat → Nat → Nat → Int32 → Nat → Nat → Nat → Int32 → Int32 → Int32 → Option (Int32 × mSh × mMm × Nat)} (hk25 : ∀ (S : mSh) (μ : mMm) (cx : Nat) (x0 : Nat) (x1 : Nat) (x2 : Int32) (x3 : Nat) (x4 : Nat) (x5 : Nat) (x6 : Int32) (x7 : Int32) (x8 : Int32) (d9 : Option Value), mX ML_pack n0 c0 s0 25 [some (.ref x0), some (.ref x1), some (.int x2), some (.ref x3), some (.ref x4), some (.ref x5), some (.int x6), some (.int x7), some (.int x8), d9] [] (S, μ, cx, 41 * cx) iAI (k25 S μ cx x0 x1 x2 x3 x4 x5 x6 x7 x8)) (S : mSh) (μ : mMm) (cx : Nat) (x0 : Nat) (x1 : Nat) (x2 : Int32) (x3 : Nat) (x4 : Nat) (x5 : Nat) (x6 : Int32) (x7 : Int32) (t0 : Int32) (t1 : Int32) (d8 : Option Value) (d9 : Option Value) : mX ML_pack n0 c0 s0 118 [some (.ref x0), some (.ref x1), some (.int x2), some (.ref x3), some (.ref x4), some (.ref x5), some (.int x6), some (.int x7), d8, d9] [.int t0, .int t1] (S, μ, cx, 41 * cx) iAI (lL_pack_118 k25 S μ cx x0 x1 x2 x3 x4 x5 x6 x7 t0 t1) := by
  unfold lL_pack_118
  refine x_iadd (pc := 118) dL_pack_118 ?_
  refine x_istore (pc := 119) dL_pack_119 (Nat.le_of_ble_eq_true rfl) (l' := [some (.ref x0), some (.ref x1), some (.int x2), some (.ref x3), some (.ref x4), some (.ref x5), some (.int x6), some (.int x7), some (.int (t1 + t0)), d9]) rfl ?_
  refine x_iinc (pc := 121) (v := x6 + (1 : Int32)) dL_pack_121 rfl (by rw [show Int32.ofInt (1) = (1 : Int32) from by decide]) (Nat.le_of_ble_eq_true rfl) (l' := [some (.ref x0), some (.ref x1), some (.int x2), some (.ref x3), some (.ref x4), some (.ref x5), some (.int (x6 + (1 : Int32))), some (.int x7), some (.int (t1 + t0)), d9]) rfl ?_
  refine x_goto (pc := 124) (tgt := 25) dL_pack_124 (by decide) ?_
  exact hk25 S μ cx x0 x1 x2 x3 x4 x5 (x6 + (1 : Int32)) x7 (t1 + t0) _
set_option maxRecDepth 100000 in
set_option maxHeartbeats 40000000 in
theorem xL_pack_102 {n0 c0 s0 : Nat} {k25 : mSh → mMm → Nat → Nat → Nat → Int32 → Nat → Nat → Nat → Int32 → Int32 → Int32 → Option (Int32 × mSh × mMm × Nat)} (hk25 : ∀ (S : mSh) (μ : mMm) (cx : Nat) (x0 : Nat) (x1 : Nat) (x2 : Int32) (x3 : Nat) (x4 : Nat) (x5 : Nat) (x6 : Int32) (x7 : Int32) (x8 : Int32) (d9 : Option Value), mX ML_pack n0 c0 s0 25 [some (.ref x0), some (.ref x1), some (.int x2), some (.ref x3), some (.ref x4), some (.ref x5), some (.int x6), some (.int x7), some (.int x8), d9] [] (S, μ, cx, 41 * cx) iAI (k25 S μ cx x0 x1 x2 x3 x4 x5 x6 x7 x8)) (S : mSh) (μ : mMm) (cx : Nat) (x0 : Nat) (x1 : Nat) (x2 : Int32) (x3 : Nat) (x4 : Nat) (x5 : Nat) (x6 : Int32) (x8 : Int32) (x9 : Int32) (t0 : Int32) (t1 : Int32) (d7 : Option Value) : mX ML_pack n0 c0 s0 102 [some (.ref x0), some (.ref x1), some (.int x2), some (.ref x3), some (.ref x4), some (.ref x5), some (.int x6), d7, some (.int x8), some (.int x9)] [.int t0, .int t1] (S, μ, cx, 41 * cx) iAI (lL_pack_102 k25 S μ cx x0 x1 x2 x3 x4 x5 x6 x8 x9 t0 t1) := by
  unfold lL_pack_102
  refine x_iadd (pc := 102) dL_pack_102 ?_
  refine x_istore (pc := 103) dL_pack_103 (Nat.le_of_ble_eq_true rfl) (l' := [some (.ref x0), some (.ref x1), some (.int x2), some (.ref x3), some (.ref x4), some (.ref x5), some (.int x6), some (.int (t1 + t0)), some (.int x8), some (.int x9)]) rfl ?_
  refine x_iload (pc := 105) dL_pack_105 rfl ?_
  refine x_iload (pc := 107) dL_pack_107 rfl ?_
  refine x_if_ne (pc := 109) (tgt := 116) dL_pack_109 (by decide) ?_ ?_
  · refine x_iconst (pc := 112) (v := 1) dL_pack_112 (by decide) ?_
    refine x_goto (pc := 113) (tgt := 118) dL_pack_113 (by decide) ?_
    exact xL_pack_118 (k25 := k25) hk25 S μ cx x0 x1 x2 x3 x4 x5 x6 (t1 + t0) (1 : Int32) x8 _ _
  · refine x_iload (pc := 116) dL_pack_116 rfl ?_
    exact xL_pack_118 (k25 := k25) hk25 S μ cx x0 x1 x2 x3 x4 x5 x6 (t1 + t0) x9 x8 _ _
set_option maxRecDepth 100000 in
set_option maxHeartbeats 40000000 in
theorem xL_pack_85 {n0 c0 s0 : Nat} {k25 : mSh → mMm → Nat → Nat → Nat → Int32 → Nat → Nat → Nat → Int32 → Int32 → Int32 → Option (Int32 × mSh × mMm × Nat)} (hk25 : ∀ (S : mSh) (μ : mMm) (cx : Nat) (x0 : Nat) (x1 : Nat) (x2 : Int32) (x3 : Nat) (x4 : Nat) (x5 : Nat) (x6 : Int32) (x7 : Int32) (x8 : Int32) (d9 : Option Value), mX ML_pack n0 c0 s0 25 [some (.ref x0), some (.ref x1), some (.int x2), some (.ref x3), some (.ref x4), some (.ref x5), some (.int x6), some (.int x7), some (.int x8), d9] [] (S, μ, cx, 41 * cx) iAI (k25 S μ cx x0 x1 x2 x3 x4 x5 x6 x7 x8)) (S : mSh) (μ : mMm) (cx : Nat) (x0 : Nat) (x1 : Nat) (x2 : Int32) (x3 : Nat) (x4 : Nat) (x5 : Nat) (x6 : Int32) (x7 : Int32) (x8 : Int32) (x9 : Int32) (t0 : Int32) (t1 : Int32) (t2 : Nat) : mX ML_pack n0 c0 s0 85 [some (.ref x0), some (.ref x1), some (.int x2), some (.ref x3), some (.ref x4), some (.ref x5), some (.int x6), some (.int x7), some (.int x8), some (.int x9)] [.int t0, .int t1, .ref t2] (S, μ, cx, 41 * cx) iAI (lL_pack_85 k25 S μ cx x0 x1 x2 x3 x4 x5 x6 x7 x8 x9 t0 t1 t2) := by
  unfold lL_pack_85
  refine x_stI (pc := 85) dL_pack_85 (fun m8 => ?_)
  refine x_iload (pc := 86) dL_pack_86 rfl ?_
  refine x_iload (pc := 88) dL_pack_88 rfl ?_
  refine x_if_ne (pc := 90) (tgt := 99) dL_pack_90 (by decide) ?_ ?_
  · refine x_aload_n (pc := 93) dL_pack_93 (i := 1) rfl rfl ?_
    refine x_iconst (pc := 94) (v := 4) dL_pack_94 (by decide) ?_
    refine x_ldI (pc := 95) dL_pack_95 (fun v10 => ?_)
    refine x_goto (pc := 96) (tgt := 102) dL_pack_96 (by decide) ?_
    exact xL_pack_102 (k25 := k25) hk25 S m8 cx x0 x1 x2 x3 x4 x5 x6 x8 x9 v10 x7 _
  · refine x_aload_n (pc := 99) dL_pack_99 (i := 1) rfl rfl ?_
    refine x_iconst (pc := 100) (v := 5) dL_pack_100 (by decide) ?_
    refine x_ldI (pc := 101) dL_pack_101 (fun v9 => ?_)
    exact xL_pack_102 (k25 := k25) hk25 S m8 cx x0 x1 x2 x3 x4 x5 x6 x8 x9 v9 x7 _
set_option maxRecDepth 100000 in
set_option maxHeartbeats 40000000 in
theorem xL_pack_66 {n0 c0 s0 : Nat} {k25 : mSh → mMm → Nat → Nat → Nat → Int32 → Nat → Nat → Nat → Int32 → Int32 → Int32 → Option (Int32 × mSh × mMm × Nat)} (hk25 : ∀ (S : mSh) (μ : mMm) (cx : Nat) (x0 : Nat) (x1 : Nat) (x2 : Int32) (x3 : Nat) (x4 : Nat) (x5 : Nat) (x6 : Int32) (x7 : Int32) (x8 : Int32) (d9 : Option Value), mX ML_pack n0 c0 s0 25 [some (.ref x0), some (.ref x1), some (.int x2), some (.ref x3), some (.ref x4), some (.ref x5), some (.int x6), some (.int x7), some (.int x8), d9] [] (S, μ, cx, 41 * cx) iAI (k25 S μ cx x0 x1 x2 x3 x4 x5 x6 x7 x8)) (S : mSh) (μ : mMm) (cx : Nat) (x0 : Nat) (x1 : Nat) (x2 : Int32) (x3 : Nat) (x4 : Nat) (x5 : Nat) (x6 : Int32) (x7 : Int32) (x8 : Int32) (x9 : Int32) (t0 : Int32) (t1 : Int32) (t2 : Nat) : mX ML_pack n0 c0 s0 66 [some (.ref x0), some (.ref x1), some (.int x2), some (.ref x3), some (.ref x4), some (.ref x5), some (.int x6), some (.int x7), some (.int x8), some (.int x9)] [.int t0, .int t1, .ref t2] (S, μ, cx, 41 * cx) iAI (lL_pack_66 k25 S μ cx x0 x1 x2 x3 x4 x5 x6 x7 x8 x9 t0 t1 t2) := by
  unfold lL_pack_66
  refine x_stI (pc := 66) dL_pack_66 (fun m7 => ?_)
  refine x_aload (pc := 67) dL_pack_67 rfl ?_
  refine x_iload (pc := 69) dL_pack_69 rfl ?_
  refine x_iload (pc := 71) dL_pack_71 rfl ?_
  refine x_if_ne (pc := 73) (tgt := 83) dL_pack_73 (by decide) ?_ ?_
  · refine x_aload_n (pc := 76) dL_pack_76 (i := 0) rfl rfl ?_
    refine x_iload (pc := 77) dL_pack_77 rfl ?_
    refine x_ldI (pc := 79) dL_pack_79 (fun v11 => ?_)
    refine x_goto (pc := 80) (tgt := 85) dL_pack_80 (by decide) ?_
    exact xL_pack_85 (k25 := k25) hk25 S m7 cx x0 x1 x2 x3 x4 x5 x6 x7 x8 x9 v11 x6 x4 
  · refine x_iload (pc := 83) dL_pack_83 rfl ?_
    exact xL_pack_85 (k25 := k25) hk25 S m7 cx x0 x1 x2 x3 x4 x5 x6 x7 x8 x9 x9 x6 x4 
set_option maxRecDepth 100000 in
set_option maxHeartbeats 40000000 in
theorem xL_pack_25 {n0 c0 s0 : Nat} : ∀ (n : Nat) (S : mSh) (μ : mMm) (cx : Nat) (x0 : Nat) (x1 : Nat) (x2 : Int32) (x3 : Nat) (x4 : Nat) (x5 : Nat) (x6 : Int32) (x7 : Int32) (x8 : Int32) (d9 : Option Value), mX ML_pack n0 c0 s0 25 [some (.ref x0), some (.ref x1), some (.int x2), some (.ref x3), some (.ref x4), some (.ref x5), some (.int x6), some (.int x7), some (.int x8), d9] [] (S, μ, cx, 41 * cx) iAI (lL_pack_25 n S μ cx x0 x1 x2 x3 x4 x5 x6 x7 x8) := by
  intro n
  induction n with
  | zero => intros; exact x_none
  | succ n ih =>
    intro S μ cx x0 x1 x2 x3 x4 x5 x6 x7 x8 d9
    unfold lL_pack_25
    refine x_iload (pc := 25) dL_pack_25 rfl ?_
    refine x_aload_n (pc := 27) dL_pack_27 (i := 1) rfl rfl ?_
    refine x_iconst (pc := 28) (v := 0) dL_pack_28 (by decide) ?_
    refine x_ldI (pc := 29) dL_pack_29 (fun v4 => ?_)
    refine x_icmp_ge (pc := 30) (tgt := 127) dL_pack_30 (by decide) ?_ ?_
    · refine x_iload (pc := 127) dL_pack_127 rfl ?_
      refine x_sipush (pc := 129) (v := 1000) dL_pack_129 (by decide) ?_
      refine x_iload (pc := 132) dL_pack_132 rfl ?_
      refine x_imul (pc := 134) dL_pack_134 ?_
      refine x_iadd (pc := 135) dL_pack_135 ?_
      exact x_iret rfl dL_pack_136 rfl rfl
    · refine x_aload_n (pc := 33) dL_pack_33 (i := 0) rfl rfl ?_
      refine x_aload_n (pc := 34) dL_pack_34 (i := 1) rfl rfl ?_
      refine x_aload (pc := 35) dL_pack_35 rfl ?_
      refine x_iload_n (pc := 37) dL_pack_37 (i := 2) rfl rfl ?_
      refine x_iload (pc := 38) dL_pack_38 rfl ?_
      refine x_callSi (pc := 40) (As := [.ref x0, .ref x1, .ref x5, .int x2, .int x8]) (rest := []) (vx := fun a => a) (μf := fun _ => μ) (mL_by S μ cx (41 * cx) x0 x1 x5 x2 x8) (fun _ => rfl) rfl dL_pack_40 q245 kL_by rfl ⟨Nat.le_of_ble_eq_true rfl, Nat.le_of_ble_eq_true rfl⟩ rfl (Nat.le_of_ble_eq_true rfl) (fun v5 => ?_)
      refine x_istore (pc := 43) dL_pack_43 (Nat.le_of_ble_eq_true rfl) (l' := [some (.ref x0), some (.ref x1), some (.int x2), some (.ref x3), some (.ref x4), some (.ref x5), some (.int x6), some (.int x7), some (.int x8), some (.int v5)]) rfl ?_
      refine x_aload_n (pc := 45) dL_pack_45 (i := 3) rfl rfl ?_
      refine x_iload (pc := 46) dL_pack_46 rfl ?_
      refine x_iload (pc := 48) dL_pack_48 rfl ?_
      refine x_if_ne (pc := 50) (tgt := 57) dL_pack_50 (by decide) ?_ ?_
      · refine x_iconst (pc := 53) (v := 0) dL_pack_53 (by decide) ?_
        refine x_goto (pc := 54) (tgt := 66) dL_pack_54 (by decide) ?_
        exact xL_pack_66 (k25 := (lL_pack_25 n)) ih S μ cx x0 x1 x2 x3 x4 x5 x6 x7 x8 v5 (0 : Int32) x6 x3 
      · refine x_aload_n (pc := 57) dL_pack_57 (i := 0) rfl rfl ?_
        refine x_aload_n (pc := 58) dL_pack_58 (i := 1) rfl rfl ?_
        refine x_iload (pc := 59) dL_pack_59 rfl ?_
        refine x_iload (pc := 61) dL_pack_61 rfl ?_
        refine x_callSi (pc := 63) (As := [.ref x0, .ref x1, .int x8, .int v5]) (rest := [.int x6, .ref x3]) (vx := fun a => a) (μf := fun _ => μ) (mL_nearest S μ cx (41 * cx) x0 x1 x8 v5) (fun _ => rfl) rfl dL_pack_63 q248 kL_nearest rfl ⟨Nat.le_of_ble_eq_true rfl, Nat.le_of_ble_eq_true rfl⟩ rfl (Nat.le_of_ble_eq_true rfl) (fun v6 => ?_)
        exact xL_pack_66 (k25 := (lL_pack_25 n)) ih S μ cx x0 x1 x2 x3 x4 x5 x6 x7 x8 v5 v6 x6 x3 
set_option maxRecDepth 100000 in
set_option maxHeartbeats 40000000 in
theorem xbL_pack {n0 c0 s0 : Nat} (S : mSh) (μ : mMm) (cx : Nat) (p0 : Nat) (p1 : Nat) (p2 : Int32) (p3 : Nat) (p4 : Nat) : mX ML_pack n0 c0 s0 0 [some (.ref p0), some (.ref p1), some (.int p2), some (.ref p3), some (.ref p4), none, none, none, none, none] [] (S, μ, cx, 41 * cx) iAI (fL_pack S μ cx p0 p1 p2 p3 p4) := by
  unfold fL_pack
  refine x_bipush (pc := 0) (v := 41) dL_pack_0 (by decide) ?_
  refine x_aI (pc := 2) rfl dL_pack_2 q3 (by decide) (by decide) (by decide) (fun r1 => ?_)
  refine x_astore (pc := 4) dL_pack_4 (Nat.le_of_ble_eq_true rfl) (l' := [some (.ref p0), some (.ref p1), some (.int p2), some (.ref p3), some (.ref p4), some (.ref (mN S)), none, none, none, none]) rfl ?_
  refine x_aload_n (pc := 6) dL_pack_6 (i := 0) rfl rfl ?_
  refine x_aload_n (pc := 7) dL_pack_7 (i := 1) rfl rfl ?_
  refine x_aload_n (pc := 8) dL_pack_8 (i := 1) rfl rfl ?_
  refine x_iconst (pc := 9) (v := 1) dL_pack_9 (by decide) ?_
  refine x_ldI (pc := 10) dL_pack_10 (fun v2 => ?_)
  refine x_aload (pc := 11) dL_pack_11 rfl ?_
  refine x_callSv (pc := 13) (As := [.ref p0, .ref p1, .int v2, .ref (mN S)]) (rest := []) (μf := fun a => a) (mL_costs r1.1 r1.2 cx (41 * cx) p0 p1 v2 (mN S)) (fun _ => rfl) rfl dL_pack_13 q236 kL_costs rfl ⟨Nat.le_of_ble_eq_true rfl, Nat.le_of_ble_eq_true rfl⟩ rfl (Nat.le_of_ble_eq_true rfl) (fun m3 => ?_)
  refine x_iconst (pc := 16) (v := 0) dL_pack_16 (by decide) ?_
  refine x_istore (pc := 17) dL_pack_17 (Nat.le_of_ble_eq_true rfl) (l' := [some (.ref p0), some (.ref p1), some (.int p2), some (.ref p3), some (.ref p4), some (.ref (mN S)), some (.int (0 : Int32)), none, none, none]) rfl ?_
  refine x_iconst (pc := 19) (v := 0) dL_pack_19 (by decide) ?_
  refine x_istore (pc := 20) dL_pack_20 (Nat.le_of_ble_eq_true rfl) (l' := [some (.ref p0), some (.ref p1), some (.int p2), some (.ref p3), some (.ref p4), some (.ref (mN S)), some (.int (0 : Int32)), some (.int (0 : Int32)), none, none]) rfl ?_
  refine x_iconst (pc := 22) (v := 0) dL_pack_22 (by decide) ?_
  refine x_istore (pc := 23) dL_pack_23 (Nat.le_of_ble_eq_true rfl) (l' := [some (.ref p0), some (.ref p1), some (.int p2), some (.ref p3), some (.ref p4), some (.ref (mN S)), some (.int (0 : Int32)), some (.int (0 : Int32)), some (.int (0 : Int32)), none]) rfl ?_
  exact xL_pack_25 FU r1.1 m3 cx p0 p1 p2 p3 p4 (mN S) (0 : Int32) (0 : Int32) (0 : Int32) _
theorem mL_pack (S : mSh) (μ : mMm) (cx : Nat) (p0 : Nat) (p1 : Nat) (p2 : Int32) (p3 : Nat) (p4 : Nat) : mMet ML_pack [.ref p0, .ref p1, .int p2, .ref p3, .ref p4] (S, μ, cx, 41 * cx) iAI (fL_pack S μ cx p0 p1 p2 p3 p4) := mMet.of rfl (by decide) rfl (fun h => by cases h) (Nat.le_of_ble_eq_true rfl) (xbL_pack S μ cx p0 p1 p2 p3 p4)
/-! SlideMillsLaw.unpack([I[I[I[I)I -/
noncomputable def lL_unpack_114 (k6 : mMm → Nat → Nat → Nat → Nat → Int32 → Int32 → Option (Int32 × mMm)) (k81 : mMm → Nat → Nat → Nat → Nat → Int32 → Int32 → Int32 → Int32 → Option (Int32 × mMm)) (S : mSh) (μ : mMm) (x0 : Nat) (x1 : Nat) (x2 : Nat) (x3 : Nat) (x4 : Int32) (x5 : Int32) (x6 : Int32) (x8 : Int32) (t0 : Int32) (t1 : Int32) (t2 : Nat) : Option (Int32 × mMm) := (stI S μ t2 t1 t0).bind fun m8 => k81 m8 x0 x1 x2 x3 (x4 + (1 : Int32)) x5 x6 (x8 + (1 : Int32))
noncomputable def lL_unpack_81 (k6 : mMm → Nat → Nat → Nat → Nat → Int32 → Int32 → Option (Int32 × mMm)) (S : mSh) : Nat → mMm → Nat → Nat → Nat → Nat → Int32 → Int32 → Int32 → Int32 → Option (Int32 × mMm)
  | 0, _, _, _, _, _, _, _, _, _ => none
  | n + 1, μ, x0, x1, x2, x3, x4, x5, x6, x8 => if x6 ≤ x8 then (k6 μ x0 x1 x2 x3 x4 (x5 + (1 : Int32))) else ((ldI S μ x0 x5).bind fun v5 => if v5 = 0 then ((ldI S μ x1 x5).bind fun v9 => lL_unpack_114 k6 (lL_unpack_81 k6 S n) S μ x0 x1 x2 x3 x4 x5 x6 x8 v9 x4 x3) else ((ldI S μ x0 x5).bind fun v6 => (ldI S μ x3 (x4 - v6)).bind fun v7 => lL_unpack_114 k6 (lL_unpack_81 k6 S n) S μ x0 x1 x2 x3 x4 x5 x6 x8 v7 x4 x3))
noncomputable def lL_unpack_60 (k6 : mMm → Nat → Nat → Nat → Nat → Int32 → Int32 → Option (Int32 × mMm)) (S : mSh) (μ : mMm) (x0 : Nat) (x1 : Nat) (x2 : Nat) (x3 : Nat) (x4 : Int32) (x5 : Int32) (x6 : Int32) (t0 : Int32) : Option (Int32 × mMm) := if t0 ≤ 0 then (lL_unpack_81 k6 S FU μ x0 x1 x2 x3 x4 x5 x6 (0 : Int32)) else (some (((-10 : Int32) * (x5 + (1 : Int32))) - t0, μ))
noncomputable def lL_unpack_30 (k6 : mMm → Nat → Nat → Nat → Nat → Int32 → Int32 → Option (Int32 × mMm)) (S : mSh) (μ : mMm) (x0 : Nat) (x1 : Nat) (x2 : Nat) (x3 : Nat) (x4 : Int32) (x5 : Int32) (t0 : Int32) : Option (Int32 × mMm) := (ldI S μ x0 x5).bind fun v4 => if v4 ≤ x4 then (if (x4 + t0) ≤ (40 : Int32) then (lL_unpack_60 k6 S μ x0 x1 x2 x3 x4 x5 t0 (0 : Int32)) else (lL_unpack_60 k6 S μ x0 x1 x2 x3 x4 x5 t0 (2 : Int32))) else (lL_unpack_60 k6 S μ x0 x1 x2 x3 x4 x5 t0 (1 : Int32))
noncomputable def lL_unpack_6 (S : mSh) : Nat → mMm → Nat → Nat → Nat → Nat → Int32 → Int32 → Option (Int32 × mMm)
  | 0, _, _, _, _, _, _, _ => none
  | n + 1, μ, x0, x1, x2, x3, x4, x5 => (ldI S μ x2 (6 : Int32)).bind fun v1 => if v1 ≤ x5 then (some (x4, μ)) else ((ldI S μ x0 x5).bind fun v2 => if v2 = 0 then (lL_unpack_30 (lL_unpack_6 S n) S μ x0 x1 x2 x3 x4 x5 (1 : Int32)) else ((ldI S μ x1 x5).bind fun v3 => lL_unpack_30 (lL_unpack_6 S n) S μ x0 x1 x2 x3 x4 x5 v3))
noncomputable def fL_unpack (S : mSh) (μ : mMm) (p0 : Nat) (p1 : Nat) (p2 : Nat) (p3 : Nat) : Option (Int32 × mMm) := lL_unpack_6 S FU μ p0 p1 p2 p3 (0 : Int32) (0 : Int32)
abbrev ML_unpack : mM := ((yL_unpack, cL_unpack, 9, (some .int)), (0, 0), (false, false), RL, eT)
theorem kL_unpack : mCalS ML_unpack 4 := ⟨q331, q130, q332, by decide +kernel⟩
set_option maxRecDepth 100000 in
set_option maxHeartbeats 40000000 in
theorem xL_unpack_114 {n0 c0 s0 cx cy : Nat} {S : mSh} {k6 : mMm → Nat → Nat → Nat → Nat → Int32 → Int32 → Option (Int32 × mMm)} {k81 : mMm → Nat → Nat → Nat → Nat → Int32 → Int32 → Int32 → Int32 → Option (Int32 × mMm)} (hk6 : ∀ (μ : mMm) (x0 : Nat) (x1 : Nat) (x2 : Nat) (x3 : Nat) (x4 : Int32) (x5 : Int32) (d6 : Option Value) (d7 : Option Value) (d8 : Option Value), mX ML_unpack n0 c0 s0 6 [some (.ref x0), some (.ref x1), some (.ref x2), some (.ref x3), some (.int x4), some (.int x5), d6, d7, d8] [] (S, μ, cx, cy) (iMI S cx cy) (k6 μ x0 x1 x2 x3 x4 x5)) (hk81 : ∀ (μ : mMm) (x0 : Nat) (x1 : Nat) (x2 : Nat) (x3 : Nat) (x4 : Int32) (x5 : Int32) (x6 : Int32) (x8 : Int32) (d7 : Option Value), mX ML_unpack n0 c0 s0 81 [some (.ref x0), some (.ref x1), some (.ref x2), some (.ref x3), some (.int x4), some (.int x5), some (.int x6), d7, some (.int x8)] [] (S, μ, cx, cy) (iMI S cx cy) (k81 μ x0 x1 x2 x3 x4 x5 x6 x8)) (μ : mMm) (x0 : Nat) (x1 : Nat) (x2 : Nat) (x3 : Nat) (x4 : Int32) (x5 : Int32) (x6 : Int32) (x8 : Int32) (t0 : Int32) (t1 : Int32) (t2 : Nat) (d7 : Option Value) : mX ML_unpack n0 c0 s0 114 [some (.ref x0), some (.ref x1), some (.ref x2), some (.ref x3), some (.int x4), some (.int x5), some (.int x6), d7, some (.int x8)] [.int t0, .int t1, .ref t2] (S, μ, cx, cy) (iMI S cx cy) (lL_unpack_114 k6 k81 S μ x0 x1 x2 x3 x4 x5 x6 x8 t0 t1 t2) := by
  unfold lL_unpack_114
  refine x_stI (pc := 114) dL_unpack_114 (fun m8 => ?_)
  refine x_iinc (pc := 115) (v := x4 + (1 : Int32)) dL_unpack_115 rfl (by rw [show Int32.ofInt (1) = (1 : Int32) from by decide]) (by decide) (l' := [some (.ref x0), some (.ref x1), some (.ref x2), some (.ref x3), some (.int (x4 + (1 : Int32))), some (.int x5), some (.int x6), d7, some (.int x8)]) rfl ?_
  refine x_iinc (pc := 118) (v := x8 + (1 : Int32)) dL_unpack_118 rfl (by rw [show Int32.ofInt (1) = (1 : Int32) from by decide]) (by decide) (l' := [some (.ref x0), some (.ref x1), some (.ref x2), some (.ref x3), some (.int (x4 + (1 : Int32))), some (.int x5), some (.int x6), (kl d7), some (.int (x8 + (1 : Int32)))]) rfl ?_
  refine x_goto (pc := 121) (tgt := 81) dL_unpack_121 (by decide) ?_
  exact hk81 m8 x0 x1 x2 x3 (x4 + (1 : Int32)) x5 x6 (x8 + (1 : Int32)) _
set_option maxRecDepth 100000 in
set_option maxHeartbeats 40000000 in
theorem xL_unpack_81 {n0 c0 s0 cx cy : Nat} {S : mSh} {k6 : mMm → Nat → Nat → Nat → Nat → Int32 → Int32 → Option (Int32 × mMm)} (hk6 : ∀ (μ : mMm) (x0 : Nat) (x1 : Nat) (x2 : Nat) (x3 : Nat) (x4 : Int32) (x5 : Int32) (d6 : Option Value) (d7 : Option Value) (d8 : Option Value), mX ML_unpack n0 c0 s0 6 [some (.ref x0), some (.ref x1), some (.ref x2), some (.ref x3), some (.int x4), some (.int x5), d6, d7, d8] [] (S, μ, cx, cy) (iMI S cx cy) (k6 μ x0 x1 x2 x3 x4 x5)) : ∀ (n : Nat) (μ : mMm) (x0 : Nat) (x1 : Nat) (x2 : Nat) (x3 : Nat) (x4 : Int32) (x5 : Int32) (x6 : Int32) (x8 : Int32) (d7 : Option Value), mX ML_unpack n0 c0 s0 81 [some (.ref x0), some (.ref x1), some (.ref x2), some (.ref x3), some (.int x4), some (.int x5), some (.int x6), d7, some (.int x8)] [] (S, μ, cx, cy) (iMI S cx cy) (lL_unpack_81 k6 S n μ x0 x1 x2 x3 x4 x5 x6 x8) := by
  intro n
  induction n with
  | zero => intros; exact x_none
  | succ n ih =>
    intro μ x0 x1 x2 x3 x4 x5 x6 x8 d7
    unfold lL_unpack_81
    refine x_iload (pc := 81) dL_unpack_81 rfl ?_
    refine x_iload (pc := 83) dL_unpack_83 rfl ?_
    refine x_icmp_ge (pc := 85) (tgt := 124) dL_unpack_85 (by decide) ?_ ?_
    · refine x_iinc (pc := 124) (v := x5 + (1 : Int32)) dL_unpack_124 rfl (by rw [show Int32.ofInt (1) = (1 : Int32) from by decide]) (by decide) (l' := [some (.ref x0), some (.ref x1), some (.ref x2), some (.ref x3), some (.int x4), some (.int (x5 + (1 : Int32))), some (.int x6), d7, some (.int x8)]) rfl ?_
      refine x_goto (pc := 127) (tgt := 6) dL_unpack_127 (by decide) ?_
      exact hk6 μ x0 x1 x2 x3 x4 (x5 + (1 : Int32)) _ _ _
    · refine x_aload_n (pc := 88) dL_unpack_88 (i := 3) rfl rfl ?_
      refine x_iload (pc := 89) dL_unpack_89 rfl ?_
      refine x_aload_n (pc := 91) dL_unpack_91 (i := 0) rfl rfl ?_
      refine x_iload (pc := 92) dL_unpack_92 rfl ?_
      refine x_ldI (pc := 94) dL_unpack_94 (fun v5 => ?_)
      refine x_if_ne (pc := 95) (tgt := 105) dL_unpack_95 (by decide) ?_ ?_
      · refine x_aload_n (pc := 98) dL_unpack_98 (i := 1) rfl rfl ?_
        refine x_iload (pc := 99) dL_unpack_99 rfl ?_
        refine x_ldI (pc := 101) dL_unpack_101 (fun v9 => ?_)
        refine x_goto (pc := 102) (tgt := 114) dL_unpack_102 (by decide) ?_
        exact xL_unpack_114 (k6 := k6) (k81 := (lL_unpack_81 k6 S n)) hk6 ih μ x0 x1 x2 x3 x4 x5 x6 x8 v9 x4 x3 _
      · refine x_aload_n (pc := 105) dL_unpack_105 (i := 3) rfl rfl ?_
        refine x_iload (pc := 106) dL_unpack_106 rfl ?_
        refine x_aload_n (pc := 108) dL_unpack_108 (i := 0) rfl rfl ?_
        refine x_iload (pc := 109) dL_unpack_109 rfl ?_
        refine x_ldI (pc := 111) dL_unpack_111 (fun v6 => ?_)
        refine x_isub (pc := 112) dL_unpack_112 ?_
        refine x_ldI (pc := 113) dL_unpack_113 (fun v7 => ?_)
        exact xL_unpack_114 (k6 := k6) (k81 := (lL_unpack_81 k6 S n)) hk6 ih μ x0 x1 x2 x3 x4 x5 x6 x8 v7 x4 x3 _
set_option maxRecDepth 100000 in
set_option maxHeartbeats 40000000 in
theorem xL_unpack_60 {n0 c0 s0 cx cy : Nat} {S : mSh} {k6 : mMm → Nat → Nat → Nat → Nat → Int32 → Int32 → Option (Int32 × mMm)} (hk6 : ∀ (μ : mMm) (x0 : Nat) (x1 : Nat) (x2 : Nat) (x3 : Nat) (x4 : Int32) (x5 : Int32) (d6 : Option Value) (d7 : Option Value) (d8 : Option Value), mX ML_unpack n0 c0 s0 6 [some (.ref x0), some (.ref x1), some (.ref x2), some (.ref x3), some (.int x4), some (.int x5), d6, d7, d8] [] (S, μ, cx, cy) (iMI S cx cy) (k6 μ x0 x1 x2 x3 x4 x5)) (μ : mMm) (x0 : Nat) (x1 : Nat) (x2 : Nat) (x3 : Nat) (x4 : Int32) (x5 : Int32) (x6 : Int32) (t0 : Int32) (d7 : Option Value) (d8 : Option Value) : mX ML_unpack n0 c0 s0 60 [some (.ref x0), some (.ref x1), some (.ref x2), some (.ref x3), some (.int x4), some (.int x5), some (.int x6), d7, d8] [.int t0] (S, μ, cx, cy) (iMI S cx cy) (lL_unpack_60 k6 S μ x0 x1 x2 x3 x4 x5 x6 t0) := by
  unfold lL_unpack_60
  refine x_istore (pc := 60) dL_unpack_60 (by decide) (l' := [some (.ref x0), some (.ref x1), some (.ref x2), some (.ref x3), some (.int x4), some (.int x5), some (.int x6), some (.int t0), d8]) rfl ?_
  refine x_iload (pc := 62) dL_unpack_62 rfl ?_
  refine x_if_le (pc := 64) (tgt := 78) dL_unpack_64 (by decide) ?_ ?_
  · refine x_iconst (pc := 78) (v := 0) dL_unpack_78 (by decide) ?_
    refine x_istore (pc := 79) dL_unpack_79 (by decide) (l' := [some (.ref x0), some (.ref x1), some (.ref x2), some (.ref x3), some (.int x4), some (.int x5), some (.int x6), some (.int t0), some (.int (0 : Int32))]) rfl ?_
    exact xL_unpack_81 (k6 := k6) hk6 FU μ x0 x1 x2 x3 x4 x5 x6 (0 : Int32) _
  · refine x_bipush (pc := 67) (v := -10) dL_unpack_67 (by decide) ?_
    refine x_iload (pc := 69) dL_unpack_69 rfl ?_
    refine x_iconst (pc := 71) (v := 1) dL_unpack_71 (by decide) ?_
    refine x_iadd (pc := 72) dL_unpack_72 ?_
    refine x_imul (pc := 73) dL_unpack_73 ?_
    refine x_iload (pc := 74) dL_unpack_74 rfl ?_
    refine x_isub (pc := 76) dL_unpack_76 ?_
    exact x_iret rfl dL_unpack_77 rfl rfl
set_option maxRecDepth 100000 in
set_option maxHeartbeats 40000000 in
theorem xL_unpack_30 {n0 c0 s0 cx cy : Nat} {S : mSh} {k6 : mMm → Nat → Nat → Nat → Nat → Int32 → Int32 → Option (Int32 × mMm)} (hk6 : ∀ (μ : mMm) (x0 : Nat) (x1 : Nat) (x2 : Nat) (x3 : Nat) (x4 : Int32) (x5 : Int32) (d6 : Option Value) (d7 : Option Value) (d8 : Option Value), mX ML_unpack n0 c0 s0 6 [some (.ref x0), some (.ref x1), some (.ref x2), some (.ref x3), some (.int x4), some (.int x5), d6, d7, d8] [] (S, μ, cx, cy) (iMI S cx cy) (k6 μ x0 x1 x2 x3 x4 x5)) (μ : mMm) (x0 : Nat) (x1 : Nat) (x2 : Nat) (x3 : Nat) (x4 : Int32) (x5 : Int32) (t0 : Int32) (d6 : Option Value) (d7 : Option Value) (d8 : Option Value) : mX ML_unpack n0 c0 s0 30 [some (.ref x0), some (.ref x1), some (.ref x2), some (.ref x3), some (.int x4), some (.int x5), d6, d7, d8] [.int t0] (S, μ, cx, cy) (iMI S cx cy) (lL_unpack_30 k6 S μ x0 x1 x2 x3 x4 x5 t0) := by
  unfold lL_unpack_30
  refine x_istore (pc := 30) dL_unpack_30 (by decide) (l' := [some (.ref x0), some (.ref x1), some (.ref x2), some (.ref x3), some (.int x4), some (.int x5), some (.int t0), d7, d8]) rfl ?_
  refine x_aload_n (pc := 32) dL_unpack_32 (i := 0) rfl rfl ?_
  refine x_iload (pc := 33) dL_unpack_33 rfl ?_
  refine x_ldI (pc := 35) dL_unpack_35 (fun v4 => ?_)
  refine x_iload (pc := 36) dL_unpack_36 rfl ?_
  refine x_icmp_le (pc := 38) (tgt := 45) dL_unpack_38 (by decide) ?_ ?_
  · refine x_iload (pc := 45) dL_unpack_45 rfl ?_
    refine x_iload (pc := 47) dL_unpack_47 rfl ?_
    refine x_iadd (pc := 49) dL_unpack_49 ?_
    refine x_bipush (pc := 50) (v := 40) dL_unpack_50 (by decide) ?_
    refine x_icmp_le (pc := 52) (tgt := 59) dL_unpack_52 (by decide) ?_ ?_
    · refine x_iconst (pc := 59) (v := 0) dL_unpack_59 (by decide) ?_
      exact xL_unpack_60 (k6 := k6) hk6 μ x0 x1 x2 x3 x4 x5 t0 (0 : Int32) _ _
    · refine x_iconst (pc := 55) (v := 2) dL_unpack_55 (by decide) ?_
      refine x_goto (pc := 56) (tgt := 60) dL_unpack_56 (by decide) ?_
      exact xL_unpack_60 (k6 := k6) hk6 μ x0 x1 x2 x3 x4 x5 t0 (2 : Int32) _ _
  · refine x_iconst (pc := 41) (v := 1) dL_unpack_41 (by decide) ?_
    refine x_goto (pc := 42) (tgt := 60) dL_unpack_42 (by decide) ?_
    exact xL_unpack_60 (k6 := k6) hk6 μ x0 x1 x2 x3 x4 x5 t0 (1 : Int32) _ _
set_option maxRecDepth 100000 in
set_option maxHeartbeats 40000000 in
theorem xL_unpack_6 {n0 c0 s0 cx cy : Nat} {S : mSh} : ∀ (n : Nat) (μ : mMm) (x0 : Nat) (x1 : Nat) (x2 : Nat) (x3 : Nat) (x4 : Int32) (x5 : Int32) (d6 : Option Value) (d7 : Option Value) (d8 : Option Value), mX ML_unpack n0 c0 s0 6 [some (.ref x0), some (.ref x1), some (.ref x2), some (.ref x3), some (.int x4), some (.int x5), d6, d7, d8] [] (S, μ, cx, cy) (iMI S cx cy) (lL_unpack_6 S n μ x0 x1 x2 x3 x4 x5) := by
  intro n
  induction n with
  | zero => intros; exact x_none
  | succ n ih =>
    intro μ x0 x1 x2 x3 x4 x5 d6 d7 d8
    unfold lL_unpack_6
    refine x_iload (pc := 6) dL_unpack_6 rfl ?_
    refine x_aload_n (pc := 8) dL_unpack_8 (i := 2) rfl rfl ?_
    refine x_bipush (pc := 9) (v := 6) dL_unpack_9 (by decide) ?_
    refine x_ldI (pc := 11) dL_unpack_11 (fun v1 => ?_)
    refine x_icmp_ge (pc := 12) (tgt := 130) dL_unpack_12 (by decide) ?_ ?_
    · refine x_iload (pc := 130) dL_unpack_130 rfl ?_
      exact x_iret rfl dL_unpack_132 rfl rfl
    · refine x_aload_n (pc := 15) dL_unpack_15 (i := 0) rfl rfl ?_
      refine x_iload (pc := 16) dL_unpack_16 rfl ?_
      refine x_ldI (pc := 18) dL_unpack_18 (fun v2 => ?_)
      refine x_if_ne (pc := 19) (tgt := 26) dL_unpack_19 (by decide) ?_ ?_
      · refine x_iconst (pc := 22) (v := 1) dL_unpack_22 (by decide) ?_
        refine x_goto (pc := 23) (tgt := 30) dL_unpack_23 (by decide) ?_
        exact xL_unpack_30 (k6 := (lL_unpack_6 S n)) ih μ x0 x1 x2 x3 x4 x5 (1 : Int32) _ _ _
      · refine x_aload_n (pc := 26) dL_unpack_26 (i := 1) rfl rfl ?_
        refine x_iload (pc := 27) dL_unpack_27 rfl ?_
        refine x_ldI (pc := 29) dL_unpack_29 (fun v3 => ?_)
        exact xL_unpack_30 (k6 := (lL_unpack_6 S n)) ih μ x0 x1 x2 x3 x4 x5 v3 _ _ _
set_option maxRecDepth 100000 in
set_option maxHeartbeats 40000000 in
theorem xbL_unpack {n0 c0 s0 cx cy : Nat} {S : mSh} {μ : mMm} (p0 : Nat) (p1 : Nat) (p2 : Nat) (p3 : Nat) : mX ML_unpack n0 c0 s0 0 [some (.ref p0), some (.ref p1), some (.ref p2), some (.ref p3), none, none, none, none, none] [] (S, μ, cx, cy) (iMI S cx cy) (fL_unpack S μ p0 p1 p2 p3) := by
  unfold fL_unpack
  refine x_iconst (pc := 0) (v := 0) dL_unpack_0 (by decide) ?_
  refine x_istore (pc := 1) dL_unpack_1 (by decide) (l' := [some (.ref p0), some (.ref p1), some (.ref p2), some (.ref p3), some (.int (0 : Int32)), none, none, none, none]) rfl ?_
  refine x_iconst (pc := 3) (v := 0) dL_unpack_3 (by decide) ?_
  refine x_istore (pc := 4) dL_unpack_4 (by decide) (l' := [some (.ref p0), some (.ref p1), some (.ref p2), some (.ref p3), some (.int (0 : Int32)), some (.int (0 : Int32)), none, none, none]) rfl ?_
  exact xL_unpack_6 FU μ p0 p1 p2 p3 (0 : Int32) (0 : Int32) _ _ _
theorem mL_unpack (S : mSh) (μ : mMm) (cx cy : Nat) (p0 : Nat) (p1 : Nat) (p2 : Nat) (p3 : Nat) : mMet ML_unpack [.ref p0, .ref p1, .ref p2, .ref p3] (S, μ, cx, cy) (iMI S cx cy) (fL_unpack S μ p0 p1 p2 p3) := mMet.of rfl (by decide) rfl (fun h => by cases h) (Nat.le_of_ble_eq_true rfl) (xbL_unpack p0 p1 p2 p3)
/-! SlideMillsLaw.sack(LSlideMills;[I[I[I[I)Z -/
noncomputable def lL_sack_363 (S : mSh) (μ : mMm) (cx : Nat)  : Option (Int32 × mSh × mMm × Nat) := some ((1 : Int32), S, μ, cx)
noncomputable def lL_sack_316 (S : mSh) (μ : mMm) (cx : Nat) (x0 : Nat) (x4 : Nat) (x6 : Int32) (x7 : Int32) (t0 : Int32) : Option (Int32 × mSh × mMm × Nat) := if t0 = 0 then (some ((0 : Int32), S, μ, cx)) else ((ldI S μ x4 (6 : Int32)).bind fun v8 => if v8 = 0 then ((cD oS S (fX10_packedShare oS μ x0)).bind fun r11 => if (Op.cmpValue (FP.dcmp r11 FP.dconst1) .l) = 0 then (lL_sack_363 S μ cx) else (some ((0 : Int32), S, μ, cx))) else ((cD oS S (fX10_packedShare oS μ x0)).bind fun r9 => (ldI S μ x4 (4 : Int32)).bind fun v10 => (if vfn (FP.ddiv (FP.i2d x6) (FP.i2d (v10 * x7))) = true then (if (Op.cmpValue (FP.dcmp r9 (FP.ddiv (FP.i2d x6) (FP.i2d (v10 * x7)))) .l) = 0 then (lL_sack_363 S μ cx) else (some ((0 : Int32), S, μ, cx))) else none)))
noncomputable def lL_sack_315 (S : mSh) (μ : mMm) (cx : Nat) (x0 : Nat) (x4 : Nat) (x6 : Int32) (x7 : Int32) : Option (Int32 × mSh × mMm × Nat) := lL_sack_316 S μ cx x0 x4 x6 x7 (0 : Int32)
noncomputable def lL_sack_308 (S : mSh) (μ : mMm) (cx : Nat) (x0 : Nat) (x4 : Nat) (x6 : Int32) (x7 : Int32) (t0 : Int32) (t1 : Int32) : Option (Int32 × mSh × mMm × Nat) := if t1 = t0 then (lL_sack_316 S μ cx x0 x4 x6 x7 (1 : Int32)) else (lL_sack_315 S μ cx x0 x4 x6 x7)
noncomputable def lL_sack_286 (S : mSh) (μ : mMm) (cx : Nat) (x0 : Nat) (x4 : Nat) (x6 : Int32) (x7 : Int32) (x8 : Int32) (t0 : Int32) (t1 : Int32) : Option (Int32 × mSh × mMm × Nat) := if t1 = t0 then ((cM oS S μ (fX10_wrongReason oS μ x0)).bind fun r16 => if 0 ≤ x8 then (lL_sack_308 S r16.2 cx x0 x4 x6 x7 (0 : Int32) r16.1) else ((dRem (-x8) (10 : Int32)).bind fun v17 => lL_sack_308 S r16.2 cx x0 x4 x6 x7 v17 r16.1)) else (lL_sack_315 S μ cx x0 x4 x6 x7)
noncomputable def lL_sack_226 (S : mSh) (μ : mMm) (cx : Nat) (x0 : Nat) (x4 : Nat) (x6 : Int32) (x7 : Int32) (x8 : Int32) (x9 : Int32) : Option (Int32 × mSh × mMm × Nat) := (cM oS S μ ((fX10_tokens oS μ x0).map fun x => (x, μ))).bind fun r6 => (ldI S r6.2 x4 (6 : Int32)).bind fun v7 => if r6.1 = v7 then ((cM oS S r6.2 ((fX10_sackCost oS r6.2 x0).map fun x => (x, r6.2))).bind fun r12 => if r12.1 = x6 then ((cM oS S r12.2 ((fX10_sackLetters oS r12.2 x0).map fun x => (x, r12.2))).bind fun r13 => if r13.1 = x7 then ((cM oS S r13.2 (fX10_isForText oS r13.2 x0)).bind fun r14 => if r14.1 = x9 then ((cM oS S r14.2 (fX10_wrongToken oS r14.2 x0)).bind fun r15 => if 0 ≤ x8 then (lL_sack_286 S r15.2 cx x0 x4 x6 x7 x8 (-1 : Int32) r15.1) else ((dDiv (-x8) (10 : Int32)).bind fun v18 => lL_sack_286 S r15.2 cx x0 x4 x6 x7 x8 (v18 - (1 : Int32)) r15.1)) else (lL_sack_315 S r14.2 cx x0 x4 x6 x7)) else (lL_sack_315 S r13.2 cx x0 x4 x6 x7)) else (lL_sack_315 S r12.2 cx x0 x4 x6 x7)) else (lL_sack_315 S r6.2 cx x0 x4 x6 x7)
noncomputable def lL_sack_218 (k187 : mSh → mMm → Nat → Nat → Nat → Nat → Nat → Int32 → Int32 → Int32 → Int32 → Int32 → Option (Int32 × mSh × mMm × Nat)) (S : mSh) (μ : mMm) (cx : Nat) (x0 : Nat) (x1 : Nat) (x4 : Nat) (x5 : Nat) (x6 : Int32) (x7 : Int32) (x8 : Int32) (x10 : Int32) (t0 : Int32) : Option (Int32 × mSh × mMm × Nat) := k187 S μ cx x0 x1 x4 x5 x6 x7 x8 t0 (x10 + (1 : Int32))
noncomputable def lL_sack_187 : Nat → mSh → mMm → Nat → Nat → Nat → Nat → Nat → Int32 → Int32 → Int32 → Int32 → Int32 → Option (Int32 × mSh × mMm × Nat)
  | 0, _, _, _, _, _, _, _, _, _, _, _, _ => none
  | n + 1, S, μ, cx, x0, x1, x4, x5, x6, x7, x8, x9, x10 => (ldI S μ x4 (0 : Int32)).bind fun v5 => if v5 ≤ x10 then (lL_sack_226 S μ cx x0 x4 x6 x7 x8 x9) else (if x9 = 0 then (lL_sack_226 S μ cx x0 x4 x6 x7 x8 x9) else ((ldI S μ x5 x10).bind fun v19 => (ldI S μ x1 x10).bind fun v20 => if v19 = v20 then (lL_sack_218 (lL_sack_187 n) S μ cx x0 x1 x4 x5 x6 x7 x8 x10 (1 : Int32)) else (lL_sack_218 (lL_sack_187 n) S μ cx x0 x1 x4 x5 x6 x7 x8 x10 (0 : Int32))))
noncomputable def lL_sack_182 (S : mSh) (μ : mMm) (cx : Nat) (x0 : Nat) (x1 : Nat) (x4 : Nat) (x5 : Nat) (x6 : Int32) (x7 : Int32) (x8 : Int32) (t0 : Int32) : Option (Int32 × mSh × mMm × Nat) := lL_sack_187 FU S μ cx x0 x1 x4 x5 x6 x7 x8 t0 (0 : Int32)
noncomputable def lL_sack_151 (k15 : mSh → mMm → Nat → Nat → Nat → Nat → Nat → Nat → Nat → Int32 → Int32 → Int32 → Option (Int32 × mSh × mMm × Nat)) (S : mSh) (μ : mMm) (cx : Nat) (x0 : Nat) (x1 : Nat) (x2 : Nat) (x3 : Nat) (x4 : Nat) (x5 : Nat) (x6 : Int32) (x7 : Int32) (x8 : Int32) : Option (Int32 × mSh × mMm × Nat) := k15 S μ cx x0 x1 x2 x3 x4 x5 x6 x7 (x8 + (1 : Int32))
noncomputable def lL_sack_110 (k15 : mSh → mMm → Nat → Nat → Nat → Nat → Nat → Nat → Nat → Int32 → Int32 → Int32 → Option (Int32 × mSh × mMm × Nat)) (S : mSh) (μ : mMm) (cx : Nat) (x0 : Nat) (x1 : Nat) (x2 : Nat) (x3 : Nat) (x4 : Nat) (x5 : Nat) (x6 : Int32) (x7 : Int32) (x8 : Int32) (t0 : Int32) (t1 : Int32) : Option (Int32 × mSh × mMm × Nat) := if t1 = t0 then ((ldI S μ x2 x8).bind fun v30 => if v30 = 0 then ((cV oS S μ ((fX10_letterOf oS μ x0 x8).map fun x => (x, μ))).bind fun r33 => (ldI S r33.2 x3 x8).bind fun v34 => if r33.1 = v34 then (lL_sack_151 k15 S r33.2 cx x0 x1 x2 x3 x4 x5 x6 x7 x8) else (some ((0 : Int32), S, r33.2, cx))) else ((cV oS S μ ((fX10_distanceOf oS μ x0 x8).map fun x => (x, μ))).bind fun r31 => (ldI S r31.2 x2 x8).bind fun v32 => if r31.1 = v32 then (lL_sack_151 k15 S r31.2 cx x0 x1 x2 x3 x4 x5 x6 x7 x8) else (some ((0 : Int32), S, r31.2, cx)))) else (some ((0 : Int32), S, μ, cx))
noncomputable def lL_sack_86 (k15 : mSh → mMm → Nat → Nat → Nat → Nat → Nat → Nat → Nat → Int32 → Int32 → Int32 → Option (Int32 × mSh × mMm × Nat)) (S : mSh) (μ : mMm) (cx : Nat) (x0 : Nat) (x1 : Nat) (x2 : Nat) (x3 : Nat) (x4 : Nat) (x5 : Nat) (x6 : Int32) (x7 : Int32) (x8 : Int32) (t0 : Int32) (t1 : Int32) : Option (Int32 × mSh × mMm × Nat) := if t1 = t0 then ((cV oS S μ ((fX10_lengthOf oS μ x0 x8).map fun x => (x, μ))).bind fun r27 => (ldI S r27.2 x2 x8).bind fun v28 => if v28 = 0 then (lL_sack_110 k15 S r27.2 cx x0 x1 x2 x3 x4 x5 x6 x7 x8 (1 : Int32) r27.1) else ((ldI S r27.2 x3 x8).bind fun v29 => lL_sack_110 k15 S r27.2 cx x0 x1 x2 x3 x4 x5 x6 x7 x8 v29 r27.1)) else (some ((0 : Int32), S, μ, cx))
noncomputable def lL_sack_65 (k15 : mSh → mMm → Nat → Nat → Nat → Nat → Nat → Nat → Nat → Int32 → Int32 → Int32 → Option (Int32 × mSh × mMm × Nat)) (S : mSh) (μ : mMm) (cx : Nat) (x0 : Nat) (x1 : Nat) (x2 : Nat) (x3 : Nat) (x4 : Nat) (x5 : Nat) (x6 : Int32) (x8 : Int32) (t0 : Int32) (t1 : Int32) : Option (Int32 × mSh × mMm × Nat) := (cV oS S μ ((fX10_isRepeat oS μ x0 x8).map fun x => (x, μ))).bind fun r25 => (ldI S r25.2 x2 x8).bind fun v26 => if v26 ≤ 0 then (lL_sack_86 k15 S r25.2 cx x0 x1 x2 x3 x4 x5 x6 (t1 + t0) x8 (0 : Int32) r25.1) else (lL_sack_86 k15 S r25.2 cx x0 x1 x2 x3 x4 x5 x6 (t1 + t0) x8 (1 : Int32) r25.1)
noncomputable def lL_sack_45 (k15 : mSh → mMm → Nat → Nat → Nat → Nat → Nat → Nat → Nat → Int32 → Int32 → Int32 → Option (Int32 × mSh × mMm × Nat)) (S : mSh) (μ : mMm) (cx : Nat) (x0 : Nat) (x1 : Nat) (x2 : Nat) (x3 : Nat) (x4 : Nat) (x5 : Nat) (x7 : Int32) (x8 : Int32) (t0 : Int32) (t1 : Int32) : Option (Int32 × mSh × mMm × Nat) := (ldI S μ x2 x8).bind fun v23 => if v23 = 0 then (lL_sack_65 k15 S μ cx x0 x1 x2 x3 x4 x5 (t1 + t0) x8 (1 : Int32) x7) else ((ldI S μ x3 x8).bind fun v24 => lL_sack_65 k15 S μ cx x0 x1 x2 x3 x4 x5 (t1 + t0) x8 v24 x7)
noncomputable def lL_sack_15 : Nat → mSh → mMm → Nat → Nat → Nat → Nat → Nat → Nat → Nat → Int32 → Int32 → Int32 → Option (Int32 × mSh × mMm × Nat)
  | 0, _, _, _, _, _, _, _, _, _, _, _, _ => none
  | n + 1, S, μ, cx, x0, x1, x2, x3, x4, x5, x6, x7, x8 => (ldI S μ x4 (6 : Int32)).bind fun v2 => if v2 ≤ x8 then ((fL_unpack S μ x2 x3 x4 x5).bind fun r3 => (ldI S r3.2 x4 (0 : Int32)).bind fun v4 => if r3.1 = v4 then (lL_sack_182 S r3.2 cx x0 x1 x4 x5 x6 x7 r3.1 (1 : Int32)) else (lL_sack_182 S r3.2 cx x0 x1 x4 x5 x6 x7 r3.1 (0 : Int32))) else ((ldI S μ x2 x8).bind fun v21 => if v21 = 0 then ((ldI S μ x4 (4 : Int32)).bind fun v35 => lL_sack_45 (lL_sack_15 n) S μ cx x0 x1 x2 x3 x4 x5 x7 x8 v35 x6) else ((ldI S μ x4 (5 : Int32)).bind fun v22 => lL_sack_45 (lL_sack_15 n) S μ cx x0 x1 x2 x3 x4 x5 x7 x8 v22 x6))
noncomputable def fL_sack (S : mSh) (μ : mMm) (cx : Nat) (p0 : Nat) (p1 : Nat) (p2 : Nat) (p3 : Nat) (p4 : Nat) : Option (Int32 × mSh × mMm × Nat) := (aN S μ [some (.ref p0), some (.ref p1), some (.ref p2), some (.ref p3), some (.ref p4), none, none, none, none, none, none] [] 12 40 40).bind fun r1 => lL_sack_15 FU r1.1 r1.2 cx p0 p1 p2 p3 p4 (mN S) (0 : Int32) (0 : Int32) (0 : Int32)
abbrev ML_sack : mM := ((yL_sack, cL_sack, 11, (some .boolean)), (7, 111), (true, false), RL, eT)
theorem kL_sack : mCalS ML_sack 5 := ⟨q403, q130, q404, by decide +kernel⟩
set_option maxRecDepth 100000 in
set_option maxHeartbeats 40000000 in
theorem xL_sack_363 {n0 c0 s0 : Nat} (S : mSh) (μ : mMm) (cx : Nat)  (d0 : Option Value) (d1 : Option Value) (d2 : Option Value) (d3 : Option Value) (d4 : Option Value) (d5 : Option Value) (d6 : Option Value) (d7 : Option Value) (d8 : Option Value) (d9 : Option Value) (d10 : Option Value) : mX ML_sack n0 c0 s0 363 [d0, d1, d2, d3, d4, d5, d6, d7, d8, d9, d10] [] (S, μ, cx, 41 * cx) iAI (lL_sack_363 S μ cx) := by
  unfold lL_sack_363
  refine x_iconst (pc := 363) (v := 1) dL_sack_363 (by decide) ?_
  refine x_goto (pc := 364) (tgt := 368) dL_sack_364 (by decide) ?_
  exact x_iret rfl dL_sack_368 rfl rfl
set_option maxRecDepth 100000 in
set_option maxHeartbeats 40000000 in
theorem xL_sack_316 {n0 c0 s0 : Nat} (S : mSh) (μ : mMm) (cx : Nat) (x0 : Nat) (x4 : Nat) (x6 : Int32) (x7 : Int32) (t0 : Int32) (d1 : Option Value) (d2 : Option Value) (d3 : Option Value) (d5 : Option Value) (d8 : Option Value) (d9 : Option Value) (d10 : Option Value) : mX ML_sack n0 c0 s0 316 [some (.ref x0), d1, d2, d3, some (.ref x4), d5, some (.int x6), some (.int x7), d8, d9, d10] [.int t0] (S, μ, cx, 41 * cx) iAI (lL_sack_316 S μ cx x0 x4 x6 x7 t0) := by
  unfold lL_sack_316
  refine x_istore (pc := 316) dL_sack_316 (Nat.le_of_ble_eq_true rfl) (l' := [some (.ref x0), d1, d2, d3, some (.ref x4), d5, some (.int x6), some (.int x7), d8, (kl d9), some (.int t0)]) rfl ?_
  refine x_iload (pc := 318) dL_sack_318 rfl ?_
  refine x_if_eq (pc := 320) (tgt := 367) dL_sack_320 (by decide) ?_ ?_
  · refine x_iconst (pc := 367) (v := 0) dL_sack_367 (by decide) ?_
    exact x_iret rfl dL_sack_368 rfl rfl
  · refine x_aload (pc := 323) dL_sack_323 rfl ?_
    refine x_bipush (pc := 325) (v := 6) dL_sack_325 (by decide) ?_
    refine x_ldI (pc := 327) dL_sack_327 (fun v8 => ?_)
    refine x_if_ne (pc := 328) (tgt := 343) dL_sack_328 (by decide) ?_ ?_
    · refine x_aload_n (pc := 331) dL_sack_331 (i := 0) rfl rfl ?_
      refine x_callVd (pc := 332) (As := []) (rest := []) (vx := fun a => a) (μf := fun _ => μ) fcX10 (mFrD rfl (mX10_packedShare oS μ cx (41 * cx) x0)) (fun _ => rfl) rfl (fun _ h => cDok h) dL_sack_332 q469 kX10_packedShare rfl ⟨Nat.le_of_ble_eq_true rfl, Nat.le_of_ble_eq_true rfl⟩ rfl (Nat.le_of_ble_eq_true rfl) (fun r11 => ?_)
      refine x_dconst1 (pc := 335) dL_sack_335 ?_
      refine x_dcmp (pc := 336) dL_sack_336 ?_
      refine x_if_ne (pc := 337) (tgt := 367) dL_sack_337 (by decide) ?_ ?_
      · refine x_goto (pc := 340) (tgt := 363) dL_sack_340 (by decide) ?_
        exact xL_sack_363 S μ cx _ _ _ _ _ _ _ _ _ _ _
      · refine x_iconst (pc := 367) (v := 0) dL_sack_367 (by decide) ?_
        exact x_iret rfl dL_sack_368 rfl rfl
    · refine x_aload_n (pc := 343) dL_sack_343 (i := 0) rfl rfl ?_
      refine x_callVd (pc := 344) (As := []) (rest := []) (vx := fun a => a) (μf := fun _ => μ) fcX10 (mFrD rfl (mX10_packedShare oS μ cx (41 * cx) x0)) (fun _ => rfl) rfl (fun _ h => cDok h) dL_sack_344 q469 kX10_packedShare rfl ⟨Nat.le_of_ble_eq_true rfl, Nat.le_of_ble_eq_true rfl⟩ rfl (Nat.le_of_ble_eq_true rfl) (fun r9 => ?_)
      refine x_iload (pc := 347) dL_sack_347 rfl ?_
      refine x_i2d (pc := 349) dL_sack_349 ?_
      refine x_aload (pc := 350) dL_sack_350 rfl ?_
      refine x_iconst (pc := 352) (v := 4) dL_sack_352 (by decide) ?_
      refine x_ldI (pc := 353) dL_sack_353 (fun v10 => ?_)
      refine x_iload (pc := 354) dL_sack_354 rfl ?_
      refine x_imul (pc := 356) dL_sack_356 ?_
      refine x_i2d (pc := 357) dL_sack_357 ?_
      refine x_ddiv (pc := 358) dL_sack_358 ?_
      refine x_dcmp (pc := 359) dL_sack_359 ?_
      refine x_if_ne (pc := 360) (tgt := 367) dL_sack_360 (by decide) ?_ ?_
      · exact xL_sack_363 S μ cx _ _ _ _ _ _ _ _ _ _ _
      · refine x_iconst (pc := 367) (v := 0) dL_sack_367 (by decide) ?_
        exact x_iret rfl dL_sack_368 rfl rfl
set_option maxRecDepth 100000 in
set_option maxHeartbeats 40000000 in
theorem xL_sack_315 {n0 c0 s0 : Nat} (S : mSh) (μ : mMm) (cx : Nat) (x0 : Nat) (x4 : Nat) (x6 : Int32) (x7 : Int32) (d1 : Option Value) (d2 : Option Value) (d3 : Option Value) (d5 : Option Value) (d8 : Option Value) (d9 : Option Value) (d10 : Option Value) : mX ML_sack n0 c0 s0 315 [some (.ref x0), d1, d2, d3, some (.ref x4), d5, some (.int x6), some (.int x7), d8, d9, d10] [] (S, μ, cx, 41 * cx) iAI (lL_sack_315 S μ cx x0 x4 x6 x7) := by
  unfold lL_sack_315
  refine x_iconst (pc := 315) (v := 0) dL_sack_315 (by decide) ?_
  exact xL_sack_316 S μ cx x0 x4 x6 x7 (0 : Int32) _ _ _ _ _ _ _
set_option maxRecDepth 100000 in
set_option maxHeartbeats 40000000 in
theorem xL_sack_308 {n0 c0 s0 : Nat} (S : mSh) (μ : mMm) (cx : Nat) (x0 : Nat) (x4 : Nat) (x6 : Int32) (x7 : Int32) (t0 : Int32) (t1 : Int32) (d1 : Option Value) (d2 : Option Value) (d3 : Option Value) (d5 : Option Value) (d8 : Option Value) (d9 : Option Value) (d10 : Option Value) : mX ML_sack n0 c0 s0 308 [some (.ref x0), d1, d2, d3, some (.ref x4), d5, some (.int x6), some (.int x7), d8, d9, d10] [.int t0, .int t1] (S, μ, cx, 41 * cx) iAI (lL_sack_308 S μ cx x0 x4 x6 x7 t0 t1) := by
  unfold lL_sack_308
  refine x_icmp_ne (pc := 308) (tgt := 315) dL_sack_308 (by decide) ?_ ?_
  · refine x_iconst (pc := 311) (v := 1) dL_sack_311 (by decide) ?_
    refine x_goto (pc := 312) (tgt := 316) dL_sack_312 (by decide) ?_
    exact xL_sack_316 S μ cx x0 x4 x6 x7 (1 : Int32) _ _ _ _ _ _ _
  · exact xL_sack_315 S μ cx x0 x4 x6 x7 _ _ _ _ _ _ _
set_option maxRecDepth 100000 in
set_option maxHeartbeats 40000000 in
theorem xL_sack_286 {n0 c0 s0 : Nat} (S : mSh) (μ : mMm) (cx : Nat) (x0 : Nat) (x4 : Nat) (x6 : Int32) (x7 : Int32) (x8 : Int32) (t0 : Int32) (t1 : Int32) (d1 : Option Value) (d2 : Option Value) (d3 : Option Value) (d5 : Option Value) (d9 : Option Value) (d10 : Option Value) : mX ML_sack n0 c0 s0 286 [some (.ref x0), d1, d2, d3, some (.ref x4), d5, some (.int x6), some (.int x7), some (.int x8), d9, d10] [.int t0, .int t1] (S, μ, cx, 41 * cx) iAI (lL_sack_286 S μ cx x0 x4 x6 x7 x8 t0 t1) := by
  unfold lL_sack_286
  refine x_icmp_ne (pc := 286) (tgt := 315) dL_sack_286 (by decide) ?_ ?_
  · refine x_aload_n (pc := 289) dL_sack_289 (i := 0) rfl rfl ?_
    refine x_callVi (pc := 290) (As := []) (rest := []) (vx := fun a => a.1) (μf := fun a => a.2) fcX10 (mFrM rfl (mX10_wrongReason oS μ cx (41 * cx) x0)) (fun _ => rfl) rfl (fun _ h => cMok h) dL_sack_290 q465 kX10_wrongReason rfl ⟨Nat.le_of_ble_eq_true rfl, Nat.le_of_ble_eq_true rfl⟩ rfl (Nat.le_of_ble_eq_true rfl) (fun r16 => ?_)
    refine x_iload (pc := 293) dL_sack_293 rfl ?_
    refine x_if_ge (pc := 295) (tgt := 307) dL_sack_295 (by decide) ?_ ?_
    · refine x_iconst (pc := 307) (v := 0) dL_sack_307 (by decide) ?_
      exact xL_sack_308 S r16.2 cx x0 x4 x6 x7 (0 : Int32) r16.1 _ _ _ _ _ _ _
    · refine x_iload (pc := 298) dL_sack_298 rfl ?_
      refine x_ineg (pc := 300) dL_sack_300 ?_
      refine x_bipush (pc := 301) (v := 10) dL_sack_301 (by decide) ?_
      refine x_irem (pc := 303) dL_sack_303 (fun v17 => ?_)
      refine x_goto (pc := 304) (tgt := 308) dL_sack_304 (by decide) ?_
      exact xL_sack_308 S r16.2 cx x0 x4 x6 x7 v17 r16.1 _ _ _ _ _ _ _
  · exact xL_sack_315 S μ cx x0 x4 x6 x7 _ _ _ _ _ _ _
set_option maxRecDepth 100000 in
set_option maxHeartbeats 40000000 in
theorem xL_sack_226 {n0 c0 s0 : Nat} (S : mSh) (μ : mMm) (cx : Nat) (x0 : Nat) (x4 : Nat) (x6 : Int32) (x7 : Int32) (x8 : Int32) (x9 : Int32) (d1 : Option Value) (d2 : Option Value) (d3 : Option Value) (d5 : Option Value) (d10 : Option Value) : mX ML_sack n0 c0 s0 226 [some (.ref x0), d1, d2, d3, some (.ref x4), d5, some (.int x6), some (.int x7), some (.int x8), some (.int x9), d10] [] (S, μ, cx, 41 * cx) iAI (lL_sack_226 S μ cx x0 x4 x6 x7 x8 x9) := by
  unfold lL_sack_226
  refine x_aload_n (pc := 226) dL_sack_226 (i := 0) rfl rfl ?_
  refine x_callVi (pc := 227) (As := []) (rest := []) (vx := fun a => a.1) (μf := fun a => a.2) fcX10 (mFrM rfl (mMetP (mX10_tokens oS μ cx (41 * cx) x0))) (fun _ => rfl) rfl (fun _ h => cPok h) dL_sack_227 q428 kX10_tokens rfl ⟨Nat.le_of_ble_eq_true rfl, Nat.le_of_ble_eq_true rfl⟩ rfl (Nat.le_of_ble_eq_true rfl) (fun r6 => ?_)
  refine x_aload (pc := 230) dL_sack_230 rfl ?_
  refine x_bipush (pc := 232) (v := 6) dL_sack_232 (by decide) ?_
  refine x_ldI (pc := 234) dL_sack_234 (fun v7 => ?_)
  refine x_icmp_ne (pc := 235) (tgt := 315) dL_sack_235 (by decide) ?_ ?_
  · refine x_aload_n (pc := 238) dL_sack_238 (i := 0) rfl rfl ?_
    refine x_callVi (pc := 239) (As := []) (rest := []) (vx := fun a => a.1) (μf := fun a => a.2) fcX10 (mFrM rfl (mMetP (mX10_sackCost oS r6.2 cx (41 * cx) x0))) (fun _ => rfl) rfl (fun _ h => cPok h) dL_sack_239 q432 kX10_sackCost rfl ⟨Nat.le_of_ble_eq_true rfl, Nat.le_of_ble_eq_true rfl⟩ rfl (Nat.le_of_ble_eq_true rfl) (fun r12 => ?_)
    refine x_iload (pc := 242) dL_sack_242 rfl ?_
    refine x_icmp_ne (pc := 244) (tgt := 315) dL_sack_244 (by decide) ?_ ?_
    · refine x_aload_n (pc := 247) dL_sack_247 (i := 0) rfl rfl ?_
      refine x_callVi (pc := 248) (As := []) (rest := []) (vx := fun a => a.1) (μf := fun a => a.2) fcX10 (mFrM rfl (mMetP (mX10_sackLetters oS r12.2 cx (41 * cx) x0))) (fun _ => rfl) rfl (fun _ h => cPok h) dL_sack_248 q442 kX10_sackLetters rfl ⟨Nat.le_of_ble_eq_true rfl, Nat.le_of_ble_eq_true rfl⟩ rfl (Nat.le_of_ble_eq_true rfl) (fun r13 => ?_)
      refine x_iload (pc := 251) dL_sack_251 rfl ?_
      refine x_icmp_ne (pc := 253) (tgt := 315) dL_sack_253 (by decide) ?_ ?_
      · refine x_aload_n (pc := 256) dL_sack_256 (i := 0) rfl rfl ?_
        refine x_callVi (pc := 257) (As := []) (rest := []) (vx := fun a => a.1) (μf := fun a => a.2) fcX10 (mFrM rfl (mX10_isForText oS r13.2 cx (41 * cx) x0)) (fun _ => rfl) rfl (fun _ h => cMok h) dL_sack_257 q451 kX10_isForText rfl ⟨Nat.le_of_ble_eq_true rfl, Nat.le_of_ble_eq_true rfl⟩ rfl (Nat.le_of_ble_eq_true rfl) (fun r14 => ?_)
        refine x_iload (pc := 260) dL_sack_260 rfl ?_
        refine x_icmp_ne (pc := 262) (tgt := 315) dL_sack_262 (by decide) ?_ ?_
        · refine x_aload_n (pc := 265) dL_sack_265 (i := 0) rfl rfl ?_
          refine x_callVi (pc := 266) (As := []) (rest := []) (vx := fun a => a.1) (μf := fun a => a.2) fcX10 (mFrM rfl (mX10_wrongToken oS r14.2 cx (41 * cx) x0)) (fun _ => rfl) rfl (fun _ h => cMok h) dL_sack_266 q460 kX10_wrongToken rfl ⟨Nat.le_of_ble_eq_true rfl, Nat.le_of_ble_eq_true rfl⟩ rfl (Nat.le_of_ble_eq_true rfl) (fun r15 => ?_)
          refine x_iload (pc := 269) dL_sack_269 rfl ?_
          refine x_if_ge (pc := 271) (tgt := 285) dL_sack_271 (by decide) ?_ ?_
          · refine x_iconst (pc := 285) (v := -1) dL_sack_285 (by decide) ?_
            exact xL_sack_286 S r15.2 cx x0 x4 x6 x7 x8 (-1 : Int32) r15.1 _ _ _ _ _ _
          · refine x_iload (pc := 274) dL_sack_274 rfl ?_
            refine x_ineg (pc := 276) dL_sack_276 ?_
            refine x_bipush (pc := 277) (v := 10) dL_sack_277 (by decide) ?_
            refine x_idiv (pc := 279) dL_sack_279 (fun v18 => ?_)
            refine x_iconst (pc := 280) (v := 1) dL_sack_280 (by decide) ?_
            refine x_isub (pc := 281) dL_sack_281 ?_
            refine x_goto (pc := 282) (tgt := 286) dL_sack_282 (by decide) ?_
            exact xL_sack_286 S r15.2 cx x0 x4 x6 x7 x8 (v18 - (1 : Int32)) r15.1 _ _ _ _ _ _
        · exact xL_sack_315 S r14.2 cx x0 x4 x6 x7 _ _ _ _ _ _ _
      · exact xL_sack_315 S r13.2 cx x0 x4 x6 x7 _ _ _ _ _ _ _
    · exact xL_sack_315 S r12.2 cx x0 x4 x6 x7 _ _ _ _ _ _ _
  · exact xL_sack_315 S r6.2 cx x0 x4 x6 x7 _ _ _ _ _ _ _
set_option maxRecDepth 100000 in
set_option maxHeartbeats 40000000 in
theorem xL_sack_218 {n0 c0 s0 : Nat} {k187 : mSh → mMm → Nat → Nat → Nat → Nat → Nat → Int32 → Int32 → Int32 → Int32 → Int32 → Option (Int32 × mSh × mMm × Nat)} (hk187 : ∀ (S : mSh) (μ : mMm) (cx : Nat) (x0 : Nat) (x1 : Nat) (x4 : Nat) (x5 : Nat) (x6 : Int32) (x7 : Int32) (x8 : Int32) (x9 : Int32) (x10 : Int32) (d2 : Option Value) (d3 : Option Value), mX ML_sack n0 c0 s0 187 [some (.ref x0), some (.ref x1), d2, d3, some (.ref x4), some (.ref x5), some (.int x6), some (.int x7), some (.int x8), some (.int x9), some (.int x10)] [] (S, μ, cx, 41 * cx) iAI (k187 S μ cx x0 x1 x4 x5 x6 x7 x8 x9 x10)) (S : mSh) (μ : mMm) (cx : Nat) (x0 : Nat) (x1 : Nat) (x4 : Nat) (x5 : Nat) (x6 : Int32) (x7 : Int32) (x8 : Int32) (x10 : Int32) (t0 : Int32) (d2 : Option Value) (d3 : Option Value) (d9 : Option Value) : mX ML_sack n0 c0 s0 218 [some (.ref x0), some (.ref x1), d2, d3, some (.ref x4), some (.ref x5), some (.int x6), some (.int x7), some (.int x8), d9, some (.int x10)] [.int t0] (S, μ, cx, 41 * cx) iAI (lL_sack_218 k187 S μ cx x0 x1 x4 x5 x6 x7 x8 x10 t0) := by
  unfold lL_sack_218
  refine x_istore (pc := 218) dL_sack_218 (Nat.le_of_ble_eq_true rfl) (l' := [some (.ref x0), some (.ref x1), d2, d3, some (.ref x4), some (.ref x5), some (.int x6), some (.int x7), some (.int x8), some (.int t0), some (.int x10)]) rfl ?_
  refine x_iinc (pc := 220) (v := x10 + (1 : Int32)) dL_sack_220 rfl (by rw [show Int32.ofInt (1) = (1 : Int32) from by decide]) (Nat.le_of_ble_eq_true rfl) (l' := [some (.ref x0), some (.ref x1), d2, d3, some (.ref x4), some (.ref x5), some (.int x6), some (.int x7), some (.int x8), some (.int t0), some (.int (x10 + (1 : Int32)))]) rfl ?_
  refine x_goto (pc := 223) (tgt := 187) dL_sack_223 (by decide) ?_
  exact hk187 S μ cx x0 x1 x4 x5 x6 x7 x8 t0 (x10 + (1 : Int32)) _ _
set_option maxRecDepth 100000 in
set_option maxHeartbeats 40000000 in
theorem xL_sack_187 {n0 c0 s0 : Nat} : ∀ (n : Nat) (S : mSh) (μ : mMm) (cx : Nat) (x0 : Nat) (x1 : Nat) (x4 : Nat) (x5 : Nat) (x6 : Int32) (x7 : Int32) (x8 : Int32) (x9 : Int32) (x10 : Int32) (d2 : Option Value) (d3 : Option Value), mX ML_sack n0 c0 s0 187 [some (.ref x0), some (.ref x1), d2, d3, some (.ref x4), some (.ref x5), some (.int x6), some (.int x7), some (.int x8), some (.int x9), some (.int x10)] [] (S, μ, cx, 41 * cx) iAI (lL_sack_187 n S μ cx x0 x1 x4 x5 x6 x7 x8 x9 x10) := by
  intro n
  induction n with
  | zero => intros; exact x_none
  | succ n ih =>
    intro S μ cx x0 x1 x4 x5 x6 x7 x8 x9 x10 d2 d3
    unfold lL_sack_187
    refine x_iload (pc := 187) dL_sack_187 rfl ?_
    refine x_aload (pc := 189) dL_sack_189 rfl ?_
    refine x_iconst (pc := 191) (v := 0) dL_sack_191 (by decide) ?_
    refine x_ldI (pc := 192) dL_sack_192 (fun v5 => ?_)
    refine x_icmp_ge (pc := 193) (tgt := 226) dL_sack_193 (by decide) ?_ ?_
    · exact xL_sack_226 S μ cx x0 x4 x6 x7 x8 x9 _ _ _ _ _
    · refine x_iload (pc := 196) dL_sack_196 rfl ?_
      refine x_if_eq (pc := 198) (tgt := 226) dL_sack_198 (by decide) ?_ ?_
      · exact xL_sack_226 S μ cx x0 x4 x6 x7 x8 x9 _ _ _ _ _
      · refine x_aload (pc := 201) dL_sack_201 rfl ?_
        refine x_iload (pc := 203) dL_sack_203 rfl ?_
        refine x_ldI (pc := 205) dL_sack_205 (fun v19 => ?_)
        refine x_aload_n (pc := 206) dL_sack_206 (i := 1) rfl rfl ?_
        refine x_iload (pc := 207) dL_sack_207 rfl ?_
        refine x_ldI (pc := 209) dL_sack_209 (fun v20 => ?_)
        refine x_icmp_ne (pc := 210) (tgt := 217) dL_sack_210 (by decide) ?_ ?_
        · refine x_iconst (pc := 213) (v := 1) dL_sack_213 (by decide) ?_
          refine x_goto (pc := 214) (tgt := 218) dL_sack_214 (by decide) ?_
          exact xL_sack_218 (k187 := (lL_sack_187 n)) ih S μ cx x0 x1 x4 x5 x6 x7 x8 x10 (1 : Int32) _ _ _
        · refine x_iconst (pc := 217) (v := 0) dL_sack_217 (by decide) ?_
          exact xL_sack_218 (k187 := (lL_sack_187 n)) ih S μ cx x0 x1 x4 x5 x6 x7 x8 x10 (0 : Int32) _ _ _
set_option maxRecDepth 100000 in
set_option maxHeartbeats 40000000 in
theorem xL_sack_182 {n0 c0 s0 : Nat} (S : mSh) (μ : mMm) (cx : Nat) (x0 : Nat) (x1 : Nat) (x4 : Nat) (x5 : Nat) (x6 : Int32) (x7 : Int32) (x8 : Int32) (t0 : Int32) (d2 : Option Value) (d3 : Option Value) (d9 : Option Value) (d10 : Option Value) : mX ML_sack n0 c0 s0 182 [some (.ref x0), some (.ref x1), d2, d3, some (.ref x4), some (.ref x5), some (.int x6), some (.int x7), some (.int x8), d9, d10] [.int t0] (S, μ, cx, 41 * cx) iAI (lL_sack_182 S μ cx x0 x1 x4 x5 x6 x7 x8 t0) := by
  unfold lL_sack_182
  refine x_istore (pc := 182) dL_sack_182 (Nat.le_of_ble_eq_true rfl) (l' := [some (.ref x0), some (.ref x1), d2, d3, some (.ref x4), some (.ref x5), some (.int x6), some (.int x7), some (.int x8), some (.int t0), d10]) rfl ?_
  refine x_iconst (pc := 184) (v := 0) dL_sack_184 (by decide) ?_
  refine x_istore (pc := 185) dL_sack_185 (Nat.le_of_ble_eq_true rfl) (l' := [some (.ref x0), some (.ref x1), d2, d3, some (.ref x4), some (.ref x5), some (.int x6), some (.int x7), some (.int x8), some (.int t0), some (.int (0 : Int32))]) rfl ?_
  exact xL_sack_187 FU S μ cx x0 x1 x4 x5 x6 x7 x8 t0 (0 : Int32) _ _
set_option maxRecDepth 100000 in
set_option maxHeartbeats 40000000 in
theorem xL_sack_151 {n0 c0 s0 : Nat} {k15 : mSh → mMm → Nat → Nat → Nat → Nat → Nat → Nat → Nat → Int32 → Int32 → Int32 → Option (Int32 × mSh × mMm × Nat)} (hk15 : ∀ (S : mSh) (μ : mMm) (cx : Nat) (x0 : Nat) (x1 : Nat) (x2 : Nat) (x3 : Nat) (x4 : Nat) (x5 : Nat) (x6 : Int32) (x7 : Int32) (x8 : Int32) (d9 : Option Value) (d10 : Option Value), mX ML_sack n0 c0 s0 15 [some (.ref x0), some (.ref x1), some (.ref x2), some (.ref x3), some (.ref x4), some (.ref x5), some (.int x6), some (.int x7), some (.int x8), d9, d10] [] (S, μ, cx, 41 * cx) iAI (k15 S μ cx x0 x1 x2 x3 x4 x5 x6 x7 x8)) (S : mSh) (μ : mMm) (cx : Nat) (x0 : Nat) (x1 : Nat) (x2 : Nat) (x3 : Nat) (x4 : Nat) (x5 : Nat) (x6 : Int32) (x7 : Int32) (x8 : Int32) (d9 : Option Value) (d10 : Option Value) : mX ML_sack n0 c0 s0 151 [some (.ref x0), some (.ref x1), some (.ref x2), some (.ref x3), some (.ref x4), some (.ref x5), some (.int x6), some (.int x7), some (.int x8), d9, d10] [] (S, μ, cx, 41 * cx) iAI (lL_sack_151 k15 S μ cx x0 x1 x2 x3 x4 x5 x6 x7 x8) := by
  unfold lL_sack_151
  refine x_iinc (pc := 151) (v := x8 + (1 : Int32)) dL_sack_151 rfl (by rw [show Int32.ofInt (1) = (1 : Int32) from by decide]) (Nat.le_of_ble_eq_true rfl) (l' := [some (.ref x0), some (.ref x1), some (.ref x2), some (.ref x3), some (.ref x4), some (.ref x5), some (.int x6), some (.int x7), some (.int (x8 + (1 : Int32))), d9, d10]) rfl ?_
  refine x_goto (pc := 154) (tgt := 15) dL_sack_154 (by decide) ?_
  exact hk15 S μ cx x0 x1 x2 x3 x4 x5 x6 x7 (x8 + (1 : Int32)) _ _
set_option maxRecDepth 100000 in
set_option maxHeartbeats 40000000 in
theorem xL_sack_110 {n0 c0 s0 : Nat} {k15 : mSh → mMm → Nat → Nat → Nat → Nat → Nat → Nat → Nat → Int32 → Int32 → Int32 → Option (Int32 × mSh × mMm × Nat)} (hk15 : ∀ (S : mSh) (μ : mMm) (cx : Nat) (x0 : Nat) (x1 : Nat) (x2 : Nat) (x3 : Nat) (x4 : Nat) (x5 : Nat) (x6 : Int32) (x7 : Int32) (x8 : Int32) (d9 : Option Value) (d10 : Option Value), mX ML_sack n0 c0 s0 15 [some (.ref x0), some (.ref x1), some (.ref x2), some (.ref x3), some (.ref x4), some (.ref x5), some (.int x6), some (.int x7), some (.int x8), d9, d10] [] (S, μ, cx, 41 * cx) iAI (k15 S μ cx x0 x1 x2 x3 x4 x5 x6 x7 x8)) (S : mSh) (μ : mMm) (cx : Nat) (x0 : Nat) (x1 : Nat) (x2 : Nat) (x3 : Nat) (x4 : Nat) (x5 : Nat) (x6 : Int32) (x7 : Int32) (x8 : Int32) (t0 : Int32) (t1 : Int32) (d9 : Option Value) (d10 : Option Value) : mX ML_sack n0 c0 s0 110 [some (.ref x0), some (.ref x1), some (.ref x2), some (.ref x3), some (.ref x4), some (.ref x5), some (.int x6), some (.int x7), some (.int x8), d9, d10] [.int t0, .int t1] (S, μ, cx, 41 * cx) iAI (lL_sack_110 k15 S μ cx x0 x1 x2 x3 x4 x5 x6 x7 x8 t0 t1) := by
  unfold lL_sack_110
  refine x_icmp_ne (pc := 110) (tgt := 149) dL_sack_110 (by decide) ?_ ?_
  · refine x_aload_n (pc := 113) dL_sack_113 (i := 2) rfl rfl ?_
    refine x_iload (pc := 114) dL_sack_114 rfl ?_
    refine x_ldI (pc := 116) dL_sack_116 (fun v30 => ?_)
    refine x_if_ne (pc := 117) (tgt := 136) dL_sack_117 (by decide) ?_ ?_
    · refine x_aload_n (pc := 120) dL_sack_120 (i := 0) rfl rfl ?_
      refine x_iload (pc := 121) dL_sack_121 rfl ?_
      refine x_callVi (pc := 123) (As := [.int x8]) (rest := []) (vx := fun a => a.1) (μf := fun a => a.2) fcX10 (mFrV rfl (mMetQ (mX10_letterOf oS μ cx (41 * cx) x0 x8))) (fun _ => rfl) rfl (fun _ h => cQok h) dL_sack_123 q419 kX10_letterOf rfl ⟨Nat.le_of_ble_eq_true rfl, Nat.le_of_ble_eq_true rfl⟩ rfl (Nat.le_of_ble_eq_true rfl) (fun r33 => ?_)
      refine x_aload_n (pc := 126) dL_sack_126 (i := 3) rfl rfl ?_
      refine x_iload (pc := 127) dL_sack_127 rfl ?_
      refine x_ldI (pc := 129) dL_sack_129 (fun v34 => ?_)
      refine x_icmp_eq (pc := 130) (tgt := 151) dL_sack_130 (by decide) ?_ ?_
      · exact xL_sack_151 (k15 := k15) hk15 S r33.2 cx x0 x1 x2 x3 x4 x5 x6 x7 x8 _ _
      · refine x_goto (pc := 133) (tgt := 149) dL_sack_133 (by decide) ?_
        refine x_iconst (pc := 149) (v := 0) dL_sack_149 (by decide) ?_
        exact x_iret rfl dL_sack_150 rfl rfl
    · refine x_aload_n (pc := 136) dL_sack_136 (i := 0) rfl rfl ?_
      refine x_iload (pc := 137) dL_sack_137 rfl ?_
      refine x_callVi (pc := 139) (As := [.int x8]) (rest := []) (vx := fun a => a.1) (μf := fun a => a.2) fcX10 (mFrV rfl (mMetQ (mX10_distanceOf oS μ cx (41 * cx) x0 x8))) (fun _ => rfl) rfl (fun _ h => cQok h) dL_sack_139 q424 kX10_distanceOf rfl ⟨Nat.le_of_ble_eq_true rfl, Nat.le_of_ble_eq_true rfl⟩ rfl (Nat.le_of_ble_eq_true rfl) (fun r31 => ?_)
      refine x_aload_n (pc := 142) dL_sack_142 (i := 2) rfl rfl ?_
      refine x_iload (pc := 143) dL_sack_143 rfl ?_
      refine x_ldI (pc := 145) dL_sack_145 (fun v32 => ?_)
      refine x_icmp_eq (pc := 146) (tgt := 151) dL_sack_146 (by decide) ?_ ?_
      · exact xL_sack_151 (k15 := k15) hk15 S r31.2 cx x0 x1 x2 x3 x4 x5 x6 x7 x8 _ _
      · refine x_iconst (pc := 149) (v := 0) dL_sack_149 (by decide) ?_
        exact x_iret rfl dL_sack_150 rfl rfl
  · refine x_iconst (pc := 149) (v := 0) dL_sack_149 (by decide) ?_
    exact x_iret rfl dL_sack_150 rfl rfl
set_option maxRecDepth 100000 in
set_option maxHeartbeats 40000000 in
theorem xL_sack_86 {n0 c0 s0 : Nat} {k15 : mSh → mMm → Nat → Nat → Nat → Nat → Nat → Nat → Nat → Int32 → Int32 → Int32 → Option (Int32 × mSh × mMm × Nat)} (hk15 : ∀ (S : mSh) (μ : mMm) (cx : Nat) (x0 : Nat) (x1 : Nat) (x2 : Nat) (x3 : Nat) (x4 : Nat) (x5 : Nat) (x6 : Int32) (x7 : Int32) (x8 : Int32) (d9 : Option Value) (d10 : Option Value), mX ML_sack n0 c0 s0 15 [some (.ref x0), some (.ref x1), some (.ref x2), some (.ref x3), some (.ref x4), some (.ref x5), some (.int x6), some (.int x7), some (.int x8), d9, d10] [] (S, μ, cx, 41 * cx) iAI (k15 S μ cx x0 x1 x2 x3 x4 x5 x6 x7 x8)) (S : mSh) (μ : mMm) (cx : Nat) (x0 : Nat) (x1 : Nat) (x2 : Nat) (x3 : Nat) (x4 : Nat) (x5 : Nat) (x6 : Int32) (x7 : Int32) (x8 : Int32) (t0 : Int32) (t1 : Int32) (d9 : Option Value) (d10 : Option Value) : mX ML_sack n0 c0 s0 86 [some (.ref x0), some (.ref x1), some (.ref x2), some (.ref x3), some (.ref x4), some (.ref x5), some (.int x6), some (.int x7), some (.int x8), d9, d10] [.int t0, .int t1] (S, μ, cx, 41 * cx) iAI (lL_sack_86 k15 S μ cx x0 x1 x2 x3 x4 x5 x6 x7 x8 t0 t1) := by
  unfold lL_sack_86
  refine x_icmp_ne (pc := 86) (tgt := 149) dL_sack_86 (by decide) ?_ ?_
  · refine x_aload_n (pc := 89) dL_sack_89 (i := 0) rfl rfl ?_
    refine x_iload (pc := 90) dL_sack_90 rfl ?_
    refine x_callVi (pc := 92) (As := [.int x8]) (rest := []) (vx := fun a => a.1) (μf := fun a => a.2) fcX10 (mFrV rfl (mMetQ (mX10_lengthOf oS μ cx (41 * cx) x0 x8))) (fun _ => rfl) rfl (fun _ h => cQok h) dL_sack_92 q414 kX10_lengthOf rfl ⟨Nat.le_of_ble_eq_true rfl, Nat.le_of_ble_eq_true rfl⟩ rfl (Nat.le_of_ble_eq_true rfl) (fun r27 => ?_)
    refine x_aload_n (pc := 95) dL_sack_95 (i := 2) rfl rfl ?_
    refine x_iload (pc := 96) dL_sack_96 rfl ?_
    refine x_ldI (pc := 98) dL_sack_98 (fun v28 => ?_)
    refine x_if_ne (pc := 99) (tgt := 106) dL_sack_99 (by decide) ?_ ?_
    · refine x_iconst (pc := 102) (v := 1) dL_sack_102 (by decide) ?_
      refine x_goto (pc := 103) (tgt := 110) dL_sack_103 (by decide) ?_
      exact xL_sack_110 (k15 := k15) hk15 S r27.2 cx x0 x1 x2 x3 x4 x5 x6 x7 x8 (1 : Int32) r27.1 _ _
    · refine x_aload_n (pc := 106) dL_sack_106 (i := 3) rfl rfl ?_
      refine x_iload (pc := 107) dL_sack_107 rfl ?_
      refine x_ldI (pc := 109) dL_sack_109 (fun v29 => ?_)
      exact xL_sack_110 (k15 := k15) hk15 S r27.2 cx x0 x1 x2 x3 x4 x5 x6 x7 x8 v29 r27.1 _ _
  · refine x_iconst (pc := 149) (v := 0) dL_sack_149 (by decide) ?_
    exact x_iret rfl dL_sack_150 rfl rfl
set_option maxRecDepth 100000 in
set_option maxHeartbeats 40000000 in
theorem xL_sack_65 {n0 c0 s0 : Nat} {k15 : mSh → mMm → Nat → Nat → Nat → Nat → Nat → Nat → Nat → Int32 → Int32 → Int32 → Option (Int32 × mSh × mMm × Nat)} (hk15 : ∀ (S : mSh) (μ : mMm) (cx : Nat) (x0 : Nat) (x1 : Nat) (x2 : Nat) (x3 : Nat) (x4 : Nat) (x5 : Nat) (x6 : Int32) (x7 : Int32) (x8 : Int32) (d9 : Option Value) (d10 : Option Value), mX ML_sack n0 c0 s0 15 [some (.ref x0), some (.ref x1), some (.ref x2), some (.ref x3), some (.ref x4), some (.ref x5), some (.int x6), some (.int x7), some (.int x8), d9, d10] [] (S, μ, cx, 41 * cx) iAI (k15 S μ cx x0 x1 x2 x3 x4 x5 x6 x7 x8)) (S : mSh) (μ : mMm) (cx : Nat) (x0 : Nat) (x1 : Nat) (x2 : Nat) (x3 : Nat) (x4 : Nat) (x5 : Nat) (x6 : Int32) (x8 : Int32) (t0 : Int32) (t1 : Int32) (d7 : Option Value) (d9 : Option Value) (d10 : Option Value) : mX ML_sack n0 c0 s0 65 [some (.ref x0), some (.ref x1), some (.ref x2), some (.ref x3), some (.ref x4), some (.ref x5), some (.int x6), d7, some (.int x8), d9, d10] [.int t0, .int t1] (S, μ, cx, 41 * cx) iAI (lL_sack_65 k15 S μ cx x0 x1 x2 x3 x4 x5 x6 x8 t0 t1) := by
  unfold lL_sack_65
  refine x_iadd (pc := 65) dL_sack_65 ?_
  refine x_istore (pc := 66) dL_sack_66 (Nat.le_of_ble_eq_true rfl) (l' := [some (.ref x0), some (.ref x1), some (.ref x2), some (.ref x3), some (.ref x4), some (.ref x5), some (.int x6), some (.int (t1 + t0)), some (.int x8), d9, d10]) rfl ?_
  refine x_aload_n (pc := 68) dL_sack_68 (i := 0) rfl rfl ?_
  refine x_iload (pc := 69) dL_sack_69 rfl ?_
  refine x_callVi (pc := 71) (As := [.int x8]) (rest := []) (vx := fun a => a.1) (μf := fun a => a.2) fcX10 (mFrV rfl (mMetQ (mX10_isRepeat oS μ cx (41 * cx) x0 x8))) (fun _ => rfl) rfl (fun _ h => cQok h) dL_sack_71 q405 kX10_isRepeat rfl ⟨Nat.le_of_ble_eq_true rfl, Nat.le_of_ble_eq_true rfl⟩ rfl (Nat.le_of_ble_eq_true rfl) (fun r25 => ?_)
  refine x_aload_n (pc := 74) dL_sack_74 (i := 2) rfl rfl ?_
  refine x_iload (pc := 75) dL_sack_75 rfl ?_
  refine x_ldI (pc := 77) dL_sack_77 (fun v26 => ?_)
  refine x_if_le (pc := 78) (tgt := 85) dL_sack_78 (by decide) ?_ ?_
  · refine x_iconst (pc := 85) (v := 0) dL_sack_85 (by decide) ?_
    exact xL_sack_86 (k15 := k15) hk15 S r25.2 cx x0 x1 x2 x3 x4 x5 x6 (t1 + t0) x8 (0 : Int32) r25.1 _ _
  · refine x_iconst (pc := 81) (v := 1) dL_sack_81 (by decide) ?_
    refine x_goto (pc := 82) (tgt := 86) dL_sack_82 (by decide) ?_
    exact xL_sack_86 (k15 := k15) hk15 S r25.2 cx x0 x1 x2 x3 x4 x5 x6 (t1 + t0) x8 (1 : Int32) r25.1 _ _
set_option maxRecDepth 100000 in
set_option maxHeartbeats 40000000 in
theorem xL_sack_45 {n0 c0 s0 : Nat} {k15 : mSh → mMm → Nat → Nat → Nat → Nat → Nat → Nat → Nat → Int32 → Int32 → Int32 → Option (Int32 × mSh × mMm × Nat)} (hk15 : ∀ (S : mSh) (μ : mMm) (cx : Nat) (x0 : Nat) (x1 : Nat) (x2 : Nat) (x3 : Nat) (x4 : Nat) (x5 : Nat) (x6 : Int32) (x7 : Int32) (x8 : Int32) (d9 : Option Value) (d10 : Option Value), mX ML_sack n0 c0 s0 15 [some (.ref x0), some (.ref x1), some (.ref x2), some (.ref x3), some (.ref x4), some (.ref x5), some (.int x6), some (.int x7), some (.int x8), d9, d10] [] (S, μ, cx, 41 * cx) iAI (k15 S μ cx x0 x1 x2 x3 x4 x5 x6 x7 x8)) (S : mSh) (μ : mMm) (cx : Nat) (x0 : Nat) (x1 : Nat) (x2 : Nat) (x3 : Nat) (x4 : Nat) (x5 : Nat) (x7 : Int32) (x8 : Int32) (t0 : Int32) (t1 : Int32) (d6 : Option Value) (d9 : Option Value) (d10 : Option Value) : mX ML_sack n0 c0 s0 45 [some (.ref x0), some (.ref x1), some (.ref x2), some (.ref x3), some (.ref x4), some (.ref x5), d6, some (.int x7), some (.int x8), d9, d10] [.int t0, .int t1] (S, μ, cx, 41 * cx) iAI (lL_sack_45 k15 S μ cx x0 x1 x2 x3 x4 x5 x7 x8 t0 t1) := by
  unfold lL_sack_45
  refine x_iadd (pc := 45) dL_sack_45 ?_
  refine x_istore (pc := 46) dL_sack_46 (Nat.le_of_ble_eq_true rfl) (l' := [some (.ref x0), some (.ref x1), some (.ref x2), some (.ref x3), some (.ref x4), some (.ref x5), some (.int (t1 + t0)), some (.int x7), some (.int x8), d9, d10]) rfl ?_
  refine x_iload (pc := 48) dL_sack_48 rfl ?_
  refine x_aload_n (pc := 50) dL_sack_50 (i := 2) rfl rfl ?_
  refine x_iload (pc := 51) dL_sack_51 rfl ?_
  refine x_ldI (pc := 53) dL_sack_53 (fun v23 => ?_)
  refine x_if_ne (pc := 54) (tgt := 61) dL_sack_54 (by decide) ?_ ?_
  · refine x_iconst (pc := 57) (v := 1) dL_sack_57 (by decide) ?_
    refine x_goto (pc := 58) (tgt := 65) dL_sack_58 (by decide) ?_
    exact xL_sack_65 (k15 := k15) hk15 S μ cx x0 x1 x2 x3 x4 x5 (t1 + t0) x8 (1 : Int32) x7 _ _ _
  · refine x_aload_n (pc := 61) dL_sack_61 (i := 3) rfl rfl ?_
    refine x_iload (pc := 62) dL_sack_62 rfl ?_
    refine x_ldI (pc := 64) dL_sack_64 (fun v24 => ?_)
    exact xL_sack_65 (k15 := k15) hk15 S μ cx x0 x1 x2 x3 x4 x5 (t1 + t0) x8 v24 x7 _ _ _
set_option maxRecDepth 100000 in
set_option maxHeartbeats 40000000 in
theorem xL_sack_15 {n0 c0 s0 : Nat} : ∀ (n : Nat) (S : mSh) (μ : mMm) (cx : Nat) (x0 : Nat) (x1 : Nat) (x2 : Nat) (x3 : Nat) (x4 : Nat) (x5 : Nat) (x6 : Int32) (x7 : Int32) (x8 : Int32) (d9 : Option Value) (d10 : Option Value), mX ML_sack n0 c0 s0 15 [some (.ref x0), some (.ref x1), some (.ref x2), some (.ref x3), some (.ref x4), some (.ref x5), some (.int x6), some (.int x7), some (.int x8), d9, d10] [] (S, μ, cx, 41 * cx) iAI (lL_sack_15 n S μ cx x0 x1 x2 x3 x4 x5 x6 x7 x8) := by
  intro n
  induction n with
  | zero => intros; exact x_none
  | succ n ih =>
    intro S μ cx x0 x1 x2 x3 x4 x5 x6 x7 x8 d9 d10
    unfold lL_sack_15
    refine x_iload (pc := 15) dL_sack_15 rfl ?_
    refine x_aload (pc := 17) dL_sack_17 rfl ?_
    refine x_bipush (pc := 19) (v := 6) dL_sack_19 (by decide) ?_
    refine x_ldI (pc := 21) dL_sack_21 (fun v2 => ?_)
    refine x_icmp_ge (pc := 22) (tgt := 157) dL_sack_22 (by decide) ?_ ?_
    · refine x_aload_n (pc := 157) dL_sack_157 (i := 2) rfl rfl ?_
      refine x_aload_n (pc := 158) dL_sack_158 (i := 3) rfl rfl ?_
      refine x_aload (pc := 159) dL_sack_159 rfl ?_
      refine x_aload (pc := 161) dL_sack_161 rfl ?_
      refine x_callSi (pc := 163) (As := [.ref x2, .ref x3, .ref x4, .ref x5]) (rest := []) (vx := fun a => a.1) (μf := fun a => a.2) (mL_unpack S μ cx (41 * cx) x2 x3 x4 x5) (fun _ => rfl) rfl dL_sack_163 q330 kL_unpack rfl ⟨Nat.le_of_ble_eq_true rfl, Nat.le_of_ble_eq_true rfl⟩ rfl (Nat.le_of_ble_eq_true rfl) (fun r3 => ?_)
      refine x_istore (pc := 166) dL_sack_166 (Nat.le_of_ble_eq_true rfl) (l' := [some (.ref x0), some (.ref x1), some (.ref x2), some (.ref x3), some (.ref x4), some (.ref x5), some (.int x6), some (.int x7), some (.int r3.1), d9, d10]) rfl ?_
      refine x_iload (pc := 168) dL_sack_168 rfl ?_
      refine x_aload (pc := 170) dL_sack_170 rfl ?_
      refine x_iconst (pc := 172) (v := 0) dL_sack_172 (by decide) ?_
      refine x_ldI (pc := 173) dL_sack_173 (fun v4 => ?_)
      refine x_icmp_ne (pc := 174) (tgt := 181) dL_sack_174 (by decide) ?_ ?_
      · refine x_iconst (pc := 177) (v := 1) dL_sack_177 (by decide) ?_
        refine x_goto (pc := 178) (tgt := 182) dL_sack_178 (by decide) ?_
        exact xL_sack_182 S r3.2 cx x0 x1 x4 x5 x6 x7 r3.1 (1 : Int32) _ _ _ _
      · refine x_iconst (pc := 181) (v := 0) dL_sack_181 (by decide) ?_
        exact xL_sack_182 S r3.2 cx x0 x1 x4 x5 x6 x7 r3.1 (0 : Int32) _ _ _ _
    · refine x_iload (pc := 25) dL_sack_25 rfl ?_
      refine x_aload_n (pc := 27) dL_sack_27 (i := 2) rfl rfl ?_
      refine x_iload (pc := 28) dL_sack_28 rfl ?_
      refine x_ldI (pc := 30) dL_sack_30 (fun v21 => ?_)
      refine x_if_ne (pc := 31) (tgt := 41) dL_sack_31 (by decide) ?_ ?_
      · refine x_aload (pc := 34) dL_sack_34 rfl ?_
        refine x_iconst (pc := 36) (v := 4) dL_sack_36 (by decide) ?_
        refine x_ldI (pc := 37) dL_sack_37 (fun v35 => ?_)
        refine x_goto (pc := 38) (tgt := 45) dL_sack_38 (by decide) ?_
        exact xL_sack_45 (k15 := (lL_sack_15 n)) ih S μ cx x0 x1 x2 x3 x4 x5 x7 x8 v35 x6 _ _ _
      · refine x_aload (pc := 41) dL_sack_41 rfl ?_
        refine x_iconst (pc := 43) (v := 5) dL_sack_43 (by decide) ?_
        refine x_ldI (pc := 44) dL_sack_44 (fun v22 => ?_)
        exact xL_sack_45 (k15 := (lL_sack_15 n)) ih S μ cx x0 x1 x2 x3 x4 x5 x7 x8 v22 x6 _ _ _
set_option maxRecDepth 100000 in
set_option maxHeartbeats 40000000 in
theorem xbL_sack {n0 c0 s0 : Nat} (S : mSh) (μ : mMm) (cx : Nat) (p0 : Nat) (p1 : Nat) (p2 : Nat) (p3 : Nat) (p4 : Nat) : mX ML_sack n0 c0 s0 0 [some (.ref p0), some (.ref p1), some (.ref p2), some (.ref p3), some (.ref p4), none, none, none, none, none, none] [] (S, μ, cx, 41 * cx) iAI (fL_sack S μ cx p0 p1 p2 p3 p4) := by
  unfold fL_sack
  refine x_bipush (pc := 0) (v := 40) dL_sack_0 (by decide) ?_
  refine x_aI (pc := 2) rfl dL_sack_2 q3 (by decide) (by decide) (by decide) (fun r1 => ?_)
  refine x_astore (pc := 4) dL_sack_4 (Nat.le_of_ble_eq_true rfl) (l' := [some (.ref p0), some (.ref p1), some (.ref p2), some (.ref p3), some (.ref p4), some (.ref (mN S)), none, none, none, none, none]) rfl ?_
  refine x_iconst (pc := 6) (v := 0) dL_sack_6 (by decide) ?_
  refine x_istore (pc := 7) dL_sack_7 (Nat.le_of_ble_eq_true rfl) (l' := [some (.ref p0), some (.ref p1), some (.ref p2), some (.ref p3), some (.ref p4), some (.ref (mN S)), some (.int (0 : Int32)), none, none, none, none]) rfl ?_
  refine x_iconst (pc := 9) (v := 0) dL_sack_9 (by decide) ?_
  refine x_istore (pc := 10) dL_sack_10 (Nat.le_of_ble_eq_true rfl) (l' := [some (.ref p0), some (.ref p1), some (.ref p2), some (.ref p3), some (.ref p4), some (.ref (mN S)), some (.int (0 : Int32)), some (.int (0 : Int32)), none, none, none]) rfl ?_
  refine x_iconst (pc := 12) (v := 0) dL_sack_12 (by decide) ?_
  refine x_istore (pc := 13) dL_sack_13 (Nat.le_of_ble_eq_true rfl) (l' := [some (.ref p0), some (.ref p1), some (.ref p2), some (.ref p3), some (.ref p4), some (.ref (mN S)), some (.int (0 : Int32)), some (.int (0 : Int32)), some (.int (0 : Int32)), none, none]) rfl ?_
  exact xL_sack_15 FU r1.1 r1.2 cx p0 p1 p2 p3 p4 (mN S) (0 : Int32) (0 : Int32) (0 : Int32) _ _
theorem mL_sack (S : mSh) (μ : mMm) (cx : Nat) (p0 : Nat) (p1 : Nat) (p2 : Nat) (p3 : Nat) (p4 : Nat) : mMet ML_sack [.ref p0, .ref p1, .ref p2, .ref p3, .ref p4] (S, μ, cx, 41 * cx) iAI (fL_sack S μ cx p0 p1 p2 p3 p4) := mMet.of rfl (by decide) rfl (fun h => by cases h) (Nat.le_of_ble_eq_true rfl) (xbL_sack S μ cx p0 p1 p2 p3 p4)
/-! SlideMillsLaw.text(LSlideMills;[I[I)Z -/
noncomputable def lL_text_298 (S : mSh) (μ : mMm) : Option (Int32 × mMm) := some ((1 : Int32), μ)
noncomputable def lL_text_211 (k92 : mMm → Nat → Nat → Nat → Int32 → Int32 → Int32 → Option (Int32 × mMm)) (S : mSh) (μ : mMm) (x0 : Nat) (x1 : Nat) (x2 : Nat) (x4 : Int32) (x5 : Int32) (x6 : Int32) (x7 : Int32) (t0 : Int32) : Option (Int32 × mMm) := (cV oS S μ (fX10_pairs oS μ x0 x5)).bind fun r13 => if r13.1 = x6 then ((cV oS S r13.2 (fX10_lastPlaceOf oS r13.2 x0 x5)).bind fun r14 => if r14.1 = x7 then (k92 r14.2 x0 x1 x2 t0 x4 (x5 + (1 : Int32))) else (some ((0 : Int32), r14.2))) else (some ((0 : Int32), r13.2))
noncomputable def lL_text_197 (k92 : mMm → Nat → Nat → Nat → Int32 → Int32 → Int32 → Option (Int32 × mMm)) (S : mSh) (μ : mMm) (x0 : Nat) (x1 : Nat) (x2 : Nat) (x3 : Int32) (x5 : Int32) (x6 : Int32) (x7 : Int32) (t0 : Int32) : Option (Int32 × mMm) := if x6 ≤ x3 then (lL_text_211 k92 S μ x0 x1 x2 t0 x5 x6 x7 x3) else (lL_text_211 k92 S μ x0 x1 x2 t0 x5 x6 x7 x6)
noncomputable def lL_text_176 (k92 : mMm → Nat → Nat → Nat → Int32 → Int32 → Int32 → Option (Int32 × mMm)) (k108 : mMm → Nat → Nat → Nat → Int32 → Int32 → Int32 → Int32 → Int32 → Int32 → Option (Int32 × mMm)) (S : mSh) (μ : mMm) (x0 : Nat) (x1 : Nat) (x2 : Nat) (x3 : Int32) (x4 : Int32) (x5 : Int32) (x6 : Int32) (x8 : Int32) (t0 : Int32) : Option (Int32 × mMm) := k108 μ x0 x1 x2 x3 x4 x5 x6 t0 (x8 + (1 : Int32))
noncomputable def lL_text_159 (k92 : mMm → Nat → Nat → Nat → Int32 → Int32 → Int32 → Option (Int32 × mMm)) (k108 : mMm → Nat → Nat → Nat → Int32 → Int32 → Int32 → Int32 → Int32 → Int32 → Option (Int32 × mMm)) (S : mSh) (μ : mMm) (x0 : Nat) (x1 : Nat) (x2 : Nat) (x3 : Int32) (x4 : Int32) (x5 : Int32) (x7 : Int32) (x8 : Int32) (x9 : Int32) (t0 : Int32) (t1 : Int32) : Option (Int32 × mMm) := if x9 = 0 then (lL_text_176 k92 k108 S μ x0 x1 x2 x3 x4 x5 (t1 + t0) x8 x7) else (lL_text_176 k92 k108 S μ x0 x1 x2 x3 x4 x5 (t1 + t0) x8 (x8 - (1 : Int32)))
noncomputable def lL_text_145 (k92 : mMm → Nat → Nat → Nat → Int32 → Int32 → Int32 → Option (Int32 × mMm)) (k108 : mMm → Nat → Nat → Nat → Int32 → Int32 → Int32 → Int32 → Int32 → Int32 → Option (Int32 × mMm)) (S : mSh) (μ : mMm) (x0 : Nat) (x1 : Nat) (x2 : Nat) (x3 : Int32) (x4 : Int32) (x5 : Int32) (x6 : Int32) (x7 : Int32) (x8 : Int32) (t0 : Int32) : Option (Int32 × mMm) := if t0 = 0 then (lL_text_159 k92 k108 S μ x0 x1 x2 x3 x4 x5 x7 x8 t0 (0 : Int32) x6) else (lL_text_159 k92 k108 S μ x0 x1 x2 x3 x4 x5 x7 x8 t0 (1 : Int32) x6)
noncomputable def lL_text_144 (k92 : mMm → Nat → Nat → Nat → Int32 → Int32 → Int32 → Option (Int32 × mMm)) (k108 : mMm → Nat → Nat → Nat → Int32 → Int32 → Int32 → Int32 → Int32 → Int32 → Option (Int32 × mMm)) (S : mSh) (μ : mMm) (x0 : Nat) (x1 : Nat) (x2 : Nat) (x3 : Int32) (x4 : Int32) (x5 : Int32) (x6 : Int32) (x7 : Int32) (x8 : Int32) : Option (Int32 × mMm) := lL_text_145 k92 k108 S μ x0 x1 x2 x3 x4 x5 x6 x7 x8 (0 : Int32)
noncomputable def lL_text_108 (k92 : mMm → Nat → Nat → Nat → Int32 → Int32 → Int32 → Option (Int32 × mMm)) (S : mSh) : Nat → mMm → Nat → Nat → Nat → Int32 → Int32 → Int32 → Int32 → Int32 → Int32 → Option (Int32 × mMm)
  | 0, _, _, _, _, _, _, _, _, _, _ => none
  | n + 1, μ, x0, x1, x2, x3, x4, x5, x6, x7, x8 => (ldI S μ x2 (0 : Int32)).bind fun v12 => if v12 ≤ x8 then (if x6 ≤ x3 then (lL_text_197 k92 S μ x0 x1 x2 x3 x5 x6 x7 x4) else (lL_text_197 k92 S μ x0 x1 x2 x3 x5 x6 x7 x5)) else ((ldI S μ x1 (x8 - (1 : Int32))).bind fun v15 => (dDiv x5 (4 : Int32)).bind fun v16 => if v15 = v16 then ((ldI S μ x1 x8).bind fun v17 => (dRem x5 (4 : Int32)).bind fun v18 => if v17 = v18 then (lL_text_145 k92 (lL_text_108 k92 S n) S μ x0 x1 x2 x3 x4 x5 x6 x7 x8 (1 : Int32)) else (lL_text_144 k92 (lL_text_108 k92 S n) S μ x0 x1 x2 x3 x4 x5 x6 x7 x8)) else (lL_text_144 k92 (lL_text_108 k92 S n) S μ x0 x1 x2 x3 x4 x5 x6 x7 x8))
noncomputable def lL_text_92 (S : mSh) : Nat → mMm → Nat → Nat → Nat → Int32 → Int32 → Int32 → Option (Int32 × mMm)
  | 0, _, _, _, _, _, _, _ => none
  | n + 1, μ, x0, x1, x2, x3, x4, x5 => if (16 : Int32) ≤ x5 then ((cM oS S μ ((fX10_textLength oS μ x0).map fun x => (x, μ))).bind fun r2 => (ldI S r2.2 x2 (0 : Int32)).bind fun v3 => if r2.1 = v3 then ((cM oS S r2.2 ((fX10_window oS r2.2 x0).map fun x => (x, r2.2))).bind fun r4 => (ldI S r4.2 x2 (1 : Int32)).bind fun v5 => if r4.1 = v5 then ((cM oS S r4.2 ((fX10_shortest oS r4.2 x0).map fun x => (x, r4.2))).bind fun r6 => (ldI S r6.2 x2 (2 : Int32)).bind fun v7 => if r6.1 = v7 then ((cM oS S r6.2 ((fX10_longest oS r6.2 x0).map fun x => (x, r6.2))).bind fun r8 => (ldI S r8.2 x2 (3 : Int32)).bind fun v9 => if r8.1 = v9 then ((ldI S r8.2 x2 (0 : Int32)).bind fun v10 => if v10 < (2 : Int32) then (lL_text_298 S r8.2) else ((cV oS S r8.2 (fX10_mostFrequent oS r8.2 x0)).bind fun r11 => if r11.1 = x4 then (lL_text_298 S r11.2) else (some ((0 : Int32), r11.2)))) else (some ((0 : Int32), r8.2))) else (some ((0 : Int32), r6.2))) else (some ((0 : Int32), r4.2))) else (some ((0 : Int32), r2.2))) else (lL_text_108 (lL_text_92 S n) S FU μ x0 x1 x2 x3 x4 x5 (0 : Int32) (-1 : Int32) (1 : Int32))
noncomputable def lL_text_73 (k2 : mMm → Nat → Nat → Nat → Int32 → Option (Int32 × mMm)) (S : mSh) (μ : mMm) (x0 : Nat) (x1 : Nat) (x2 : Nat) (x3 : Int32) (t0 : Int32) (t1 : Int32) : Option (Int32 × mMm) := if t1 = t0 then (k2 μ x0 x1 x2 (x3 + (1 : Int32))) else (some ((0 : Int32), μ))
noncomputable def lL_text_2 (S : mSh) : Nat → mMm → Nat → Nat → Nat → Int32 → Option (Int32 × mMm)
  | 0, _, _, _, _, _ => none
  | n + 1, μ, x0, x1, x2, x3 => (ldI S μ x2 (0 : Int32)).bind fun v1 => if v1 ≤ x3 then (lL_text_92 S FU μ x0 x1 x2 (0 : Int32) (-1 : Int32) (0 : Int32)) else ((ldI S μ x2 (1 : Int32)).bind fun v19 => (fL_longest S μ x1 x2 x3 v19).bind fun v20 => (cV oS S μ ((fX10_letterAt oS μ x0 x3).map fun x => (x, μ))).bind fun r21 => (ldI S r21.2 x1 x3).bind fun v22 => if r21.1 = v22 then ((cV oS S r21.2 ((fX10_repeatLength oS r21.2 x0 x3).map fun x => (x, r21.2))).bind fun r23 => if r23.1 = v20 then ((cV oS S r23.2 (fX10_repeatLengthByPairs oS r23.2 x0 x3)).bind fun r24 => if r24.1 = v20 then ((cV oS S r24.2 ((fX10_repeatDistance oS r24.2 x0 x3).map fun x => (x, r24.2))).bind fun r25 => if v20 = 0 then (lL_text_73 (lL_text_2 S n) S r25.2 x0 x1 x2 x3 (0 : Int32) r25.1) else ((fL_nearest S r25.2 x1 x2 x3 v20).bind fun v26 => lL_text_73 (lL_text_2 S n) S r25.2 x0 x1 x2 x3 v26 r25.1)) else (some ((0 : Int32), r24.2))) else (some ((0 : Int32), r23.2))) else (some ((0 : Int32), r21.2)))
noncomputable def fL_text (S : mSh) (μ : mMm) (p0 : Nat) (p1 : Nat) (p2 : Nat) : Option (Int32 × mMm) := lL_text_2 S FU μ p0 p1 p2 (0 : Int32)
abbrev ML_text : mM := ((yL_text, cL_text, 10, (some .boolean)), (7, 112), (false, false), RL, eT)
theorem kL_text : mCalS ML_text 3 := ⟨q474, q130, q475, by decide +kernel⟩
set_option maxRecDepth 100000 in
set_option maxHeartbeats 40000000 in
theorem xL_text_298 {n0 c0 s0 cx cy : Nat} {S : mSh} (μ : mMm)  (d0 : Option Value) (d1 : Option Value) (d2 : Option Value) (d3 : Option Value) (d4 : Option Value) (d5 : Option Value) (d6 : Option Value) (d7 : Option Value) (d8 : Option Value) (d9 : Option Value) : mX ML_text n0 c0 s0 298 [d0, d1, d2, d3, d4, d5, d6, d7, d8, d9] [] (S, μ, cx, cy) (iMI S cx cy) (lL_text_298 S μ) := by
  unfold lL_text_298
  refine x_iconst (pc := 298) (v := 1) dL_text_298 (by decide) ?_
  refine x_goto (pc := 299) (tgt := 303) dL_text_299 (by decide) ?_
  exact x_iret rfl dL_text_303 rfl rfl
set_option maxRecDepth 100000 in
set_option maxHeartbeats 40000000 in
theorem xL_text_211 {n0 c0 s0 cx cy : Nat} {S : mSh} {k92 : mMm → Nat → Nat → Nat → Int32 → Int32 → Int32 → Option (Int32 × mMm)} (hk92 : ∀ (μ : mMm) (x0 : Nat) (x1 : Nat) (x2 : Nat) (x3 : Int32) (x4 : Int32) (x5 : Int32) (d6 : Option Value) (d7 : Option Value) (d8 : Option Value) (d9 : Option Value), mX ML_text n0 c0 s0 92 [some (.ref x0), some (.ref x1), some (.ref x2), some (.int x3), some (.int x4), some (.int x5), d6, d7, d8, d9] [] (S, μ, cx, cy) (iMI S cx cy) (k92 μ x0 x1 x2 x3 x4 x5)) (μ : mMm) (x0 : Nat) (x1 : Nat) (x2 : Nat) (x4 : Int32) (x5 : Int32) (x6 : Int32) (x7 : Int32) (t0 : Int32) (d3 : Option Value) (d8 : Option Value) (d9 : Option Value) : mX ML_text n0 c0 s0 211 [some (.ref x0), some (.ref x1), some (.ref x2), d3, some (.int x4), some (.int x5), some (.int x6), some (.int x7), d8, d9] [.int t0] (S, μ, cx, cy) (iMI S cx cy) (lL_text_211 k92 S μ x0 x1 x2 x4 x5 x6 x7 t0) := by
  unfold lL_text_211
  refine x_istore_n (pc := 211) dL_text_211 (i := 3) rfl (by decide) (l' := [some (.ref x0), some (.ref x1), some (.ref x2), some (.int t0), some (.int x4), some (.int x5), some (.int x6), some (.int x7), d8, d9]) rfl ?_
  refine x_aload_n (pc := 212) dL_text_212 (i := 0) rfl rfl ?_
  refine x_iload (pc := 213) dL_text_213 rfl ?_
  refine x_callVi (pc := 215) (As := [.int x5]) (rest := []) (vx := fun a => a.1) (μf := fun a => a.2) fcX10 (mFrV rfl (mX10_pairs oS μ cx cy x0 x5)) (fun _ => rfl) rfl (fun _ h => cVok h) dL_text_215 q513 kX10_pairs rfl ⟨by decide, by decide⟩ rfl (Nat.le_of_ble_eq_true rfl) (fun r13 => ?_)
  refine x_iload (pc := 218) dL_text_218 rfl ?_
  refine x_icmp_ne (pc := 220) (tgt := 234) dL_text_220 (by decide) ?_ ?_
  · refine x_aload_n (pc := 223) dL_text_223 (i := 0) rfl rfl ?_
    refine x_iload (pc := 224) dL_text_224 rfl ?_
    refine x_callVi (pc := 226) (As := [.int x5]) (rest := []) (vx := fun a => a.1) (μf := fun a => a.2) fcX10 (mFrV rfl (mX10_lastPlaceOf oS r13.2 cx cy x0 x5)) (fun _ => rfl) rfl (fun _ h => cVok h) dL_text_226 q524 kX10_lastPlaceOf rfl ⟨by decide, by decide⟩ rfl (Nat.le_of_ble_eq_true rfl) (fun r14 => ?_)
    refine x_iload (pc := 229) dL_text_229 rfl ?_
    refine x_icmp_eq (pc := 231) (tgt := 236) dL_text_231 (by decide) ?_ ?_
    · refine x_iinc (pc := 236) (v := x5 + (1 : Int32)) dL_text_236 rfl (by rw [show Int32.ofInt (1) = (1 : Int32) from by decide]) (by decide) (l' := [some (.ref x0), some (.ref x1), some (.ref x2), some (.int t0), some (.int x4), some (.int (x5 + (1 : Int32))), some (.int x6), some (.int x7), d8, d9]) rfl ?_
      refine x_goto (pc := 239) (tgt := 92) dL_text_239 (by decide) ?_
      exact hk92 r14.2 x0 x1 x2 t0 x4 (x5 + (1 : Int32)) _ _ _ _
    · refine x_iconst (pc := 234) (v := 0) dL_text_234 (by decide) ?_
      exact x_iret rfl dL_text_235 rfl rfl
  · refine x_iconst (pc := 234) (v := 0) dL_text_234 (by decide) ?_
    exact x_iret rfl dL_text_235 rfl rfl
set_option maxRecDepth 100000 in
set_option maxHeartbeats 40000000 in
theorem xL_text_197 {n0 c0 s0 cx cy : Nat} {S : mSh} {k92 : mMm → Nat → Nat → Nat → Int32 → Int32 → Int32 → Option (Int32 × mMm)} (hk92 : ∀ (μ : mMm) (x0 : Nat) (x1 : Nat) (x2 : Nat) (x3 : Int32) (x4 : Int32) (x5 : Int32) (d6 : Option Value) (d7 : Option Value) (d8 : Option Value) (d9 : Option Value), mX ML_text n0 c0 s0 92 [some (.ref x0), some (.ref x1), some (.ref x2), some (.int x3), some (.int x4), some (.int x5), d6, d7, d8, d9] [] (S, μ, cx, cy) (iMI S cx cy) (k92 μ x0 x1 x2 x3 x4 x5)) (μ : mMm) (x0 : Nat) (x1 : Nat) (x2 : Nat) (x3 : Int32) (x5 : Int32) (x6 : Int32) (x7 : Int32) (t0 : Int32) (d4 : Option Value) (d8 : Option Value) (d9 : Option Value) : mX ML_text n0 c0 s0 197 [some (.ref x0), some (.ref x1), some (.ref x2), some (.int x3), d4, some (.int x5), some (.int x6), some (.int x7), d8, d9] [.int t0] (S, μ, cx, cy) (iMI S cx cy) (lL_text_197 k92 S μ x0 x1 x2 x3 x5 x6 x7 t0) := by
  unfold lL_text_197
  refine x_istore (pc := 197) dL_text_197 (by decide) (l' := [some (.ref x0), some (.ref x1), some (.ref x2), some (.int x3), some (.int t0), some (.int x5), some (.int x6), some (.int x7), d8, d9]) rfl ?_
  refine x_iload (pc := 199) dL_text_199 rfl ?_
  refine x_iload_n (pc := 201) dL_text_201 (i := 3) rfl rfl ?_
  refine x_icmp_le (pc := 202) (tgt := 210) dL_text_202 (by decide) ?_ ?_
  · refine x_iload_n (pc := 210) dL_text_210 (i := 3) rfl rfl ?_
    exact xL_text_211 (k92 := k92) hk92 μ x0 x1 x2 t0 x5 x6 x7 x3 _ _ _
  · refine x_iload (pc := 205) dL_text_205 rfl ?_
    refine x_goto (pc := 207) (tgt := 211) dL_text_207 (by decide) ?_
    exact xL_text_211 (k92 := k92) hk92 μ x0 x1 x2 t0 x5 x6 x7 x6 _ _ _
set_option maxRecDepth 100000 in
set_option maxHeartbeats 40000000 in
theorem xL_text_176 {n0 c0 s0 cx cy : Nat} {S : mSh} {k92 : mMm → Nat → Nat → Nat → Int32 → Int32 → Int32 → Option (Int32 × mMm)} {k108 : mMm → Nat → Nat → Nat → Int32 → Int32 → Int32 → Int32 → Int32 → Int32 → Option (Int32 × mMm)} (hk92 : ∀ (μ : mMm) (x0 : Nat) (x1 : Nat) (x2 : Nat) (x3 : Int32) (x4 : Int32) (x5 : Int32) (d6 : Option Value) (d7 : Option Value) (d8 : Option Value) (d9 : Option Value), mX ML_text n0 c0 s0 92 [some (.ref x0), some (.ref x1), some (.ref x2), some (.int x3), some (.int x4), some (.int x5), d6, d7, d8, d9] [] (S, μ, cx, cy) (iMI S cx cy) (k92 μ x0 x1 x2 x3 x4 x5)) (hk108 : ∀ (μ : mMm) (x0 : Nat) (x1 : Nat) (x2 : Nat) (x3 : Int32) (x4 : Int32) (x5 : Int32) (x6 : Int32) (x7 : Int32) (x8 : Int32) (d9 : Option Value), mX ML_text n0 c0 s0 108 [some (.ref x0), some (.ref x1), some (.ref x2), some (.int x3), some (.int x4), some (.int x5), some (.int x6), some (.int x7), some (.int x8), d9] [] (S, μ, cx, cy) (iMI S cx cy) (k108 μ x0 x1 x2 x3 x4 x5 x6 x7 x8)) (μ : mMm) (x0 : Nat) (x1 : Nat) (x2 : Nat) (x3 : Int32) (x4 : Int32) (x5 : Int32) (x6 : Int32) (x8 : Int32) (t0 : Int32) (d7 : Option Value) (d9 : Option Value) : mX ML_text n0 c0 s0 176 [some (.ref x0), some (.ref x1), some (.ref x2), some (.int x3), some (.int x4), some (.int x5), some (.int x6), d7, some (.int x8), d9] [.int t0] (S, μ, cx, cy) (iMI S cx cy) (lL_text_176 k92 k108 S μ x0 x1 x2 x3 x4 x5 x6 x8 t0) := by
  unfold lL_text_176
  refine x_istore (pc := 176) dL_text_176 (by decide) (l' := [some (.ref x0), some (.ref x1), some (.ref x2), some (.int x3), some (.int x4), some (.int x5), some (.int x6), some (.int t0), some (.int x8), d9]) rfl ?_
  refine x_iinc (pc := 178) (v := x8 + (1 : Int32)) dL_text_178 rfl (by rw [show Int32.ofInt (1) = (1 : Int32) from by decide]) (by decide) (l' := [some (.ref x0), some (.ref x1), some (.ref x2), some (.int x3), some (.int x4), some (.int x5), some (.int x6), some (.int t0), some (.int (x8 + (1 : Int32))), d9]) rfl ?_
  refine x_goto (pc := 181) (tgt := 108) dL_text_181 (by decide) ?_
  exact hk108 μ x0 x1 x2 x3 x4 x5 x6 t0 (x8 + (1 : Int32)) _
set_option maxRecDepth 100000 in
set_option maxHeartbeats 40000000 in
theorem xL_text_159 {n0 c0 s0 cx cy : Nat} {S : mSh} {k92 : mMm → Nat → Nat → Nat → Int32 → Int32 → Int32 → Option (Int32 × mMm)} {k108 : mMm → Nat → Nat → Nat → Int32 → Int32 → Int32 → Int32 → Int32 → Int32 → Option (Int32 × mMm)} (hk92 : ∀ (μ : mMm) (x0 : Nat) (x1 : Nat) (x2 : Nat) (x3 : Int32) (x4 : Int32) (x5 : Int32) (d6 : Option Value) (d7 : Option Value) (d8 : Option Value) (d9 : Option Value), mX ML_text n0 c0 s0 92 [some (.ref x0), some (.ref x1), some (.ref x2), some (.int x3), some (.int x4), some (.int x5), d6, d7, d8, d9] [] (S, μ, cx, cy) (iMI S cx cy) (k92 μ x0 x1 x2 x3 x4 x5)) (hk108 : ∀ (μ : mMm) (x0 : Nat) (x1 : Nat) (x2 : Nat) (x3 : Int32) (x4 : Int32) (x5 : Int32) (x6 : Int32) (x7 : Int32) (x8 : Int32) (d9 : Option Value), mX ML_text n0 c0 s0 108 [some (.ref x0), some (.ref x1), some (.ref x2), some (.int x3), some (.int x4), some (.int x5), some (.int x6), some (.int x7), some (.int x8), d9] [] (S, μ, cx, cy) (iMI S cx cy) (k108 μ x0 x1 x2 x3 x4 x5 x6 x7 x8)) (μ : mMm) (x0 : Nat) (x1 : Nat) (x2 : Nat) (x3 : Int32) (x4 : Int32) (x5 : Int32) (x7 : Int32) (x8 : Int32) (x9 : Int32) (t0 : Int32) (t1 : Int32) (d6 : Option Value) : mX ML_text n0 c0 s0 159 [some (.ref x0), some (.ref x1), some (.ref x2), some (.int x3), some (.int x4), some (.int x5), d6, some (.int x7), some (.int x8), some (.int x9)] [.int t0, .int t1] (S, μ, cx, cy) (iMI S cx cy) (lL_text_159 k92 k108 S μ x0 x1 x2 x3 x4 x5 x7 x8 x9 t0 t1) := by
  unfold lL_text_159
  refine x_iadd (pc := 159) dL_text_159 ?_
  refine x_istore (pc := 160) dL_text_160 (by decide) (l' := [some (.ref x0), some (.ref x1), some (.ref x2), some (.int x3), some (.int x4), some (.int x5), some (.int (t1 + t0)), some (.int x7), some (.int x8), some (.int x9)]) rfl ?_
  refine x_iload (pc := 162) dL_text_162 rfl ?_
  refine x_if_eq (pc := 164) (tgt := 174) dL_text_164 (by decide) ?_ ?_
  · refine x_iload (pc := 174) dL_text_174 rfl ?_
    exact xL_text_176 (k92 := k92) (k108 := k108) hk92 hk108 μ x0 x1 x2 x3 x4 x5 (t1 + t0) x8 x7 _ _
  · refine x_iload (pc := 167) dL_text_167 rfl ?_
    refine x_iconst (pc := 169) (v := 1) dL_text_169 (by decide) ?_
    refine x_isub (pc := 170) dL_text_170 ?_
    refine x_goto (pc := 171) (tgt := 176) dL_text_171 (by decide) ?_
    exact xL_text_176 (k92 := k92) (k108 := k108) hk92 hk108 μ x0 x1 x2 x3 x4 x5 (t1 + t0) x8 (x8 - (1 : Int32)) _ _
set_option maxRecDepth 100000 in
set_option maxHeartbeats 40000000 in
theorem xL_text_145 {n0 c0 s0 cx cy : Nat} {S : mSh} {k92 : mMm → Nat → Nat → Nat → Int32 → Int32 → Int32 → Option (Int32 × mMm)} {k108 : mMm → Nat → Nat → Nat → Int32 → Int32 → Int32 → Int32 → Int32 → Int32 → Option (Int32 × mMm)} (hk92 : ∀ (μ : mMm) (x0 : Nat) (x1 : Nat) (x2 : Nat) (x3 : Int32) (x4 : Int32) (x5 : Int32) (d6 : Option Value) (d7 : Option Value) (d8 : Option Value) (d9 : Option Value), mX ML_text n0 c0 s0 92 [some (.ref x0), some (.ref x1), some (.ref x2), some (.int x3), some (.int x4), some (.int x5), d6, d7, d8, d9] [] (S, μ, cx, cy) (iMI S cx cy) (k92 μ x0 x1 x2 x3 x4 x5)) (hk108 : ∀ (μ : mMm) (x0 : Nat) (x1 : Nat) (x2 : Nat) (x3 : Int32) (x4 : Int32) (x5 : Int32) (x6 : Int32) (x7 : Int32) (x8 : Int32) (d9 : Option Value), mX ML_text n0 c0 s0 108 [some (.ref x0), some (.ref x1), some (.ref x2), some (.int x3), some (.int x4), some (.int x5), some (.int x6), some (.int x7), some (.int x8), d9] [] (S, μ, cx, cy) (iMI S cx cy) (k108 μ x0 x1 x2 x3 x4 x5 x6 x7 x8)) (μ : mMm) (x0 : Nat) (x1 : Nat) (x2 : Nat) (x3 : Int32) (x4 : Int32) (x5 : Int32) (x6 : Int32) (x7 : Int32) (x8 : Int32) (t0 : Int32) (d9 : Option Value) : mX ML_text n0 c0 s0 145 [some (.ref x0), some (.ref x1), some (.ref x2), some (.int x3), some (.int x4), some (.int x5), some (.int x6), some (.int x7), some (.int x8), d9] [.int t0] (S, μ, cx, cy) (iMI S cx cy) (lL_text_145 k92 k108 S μ x0 x1 x2 x3 x4 x5 x6 x7 x8 t0) := by
  unfold lL_text_145
  refine x_istore (pc := 145) dL_text_145 (by decide) (l' := [some (.ref x0), some (.ref x1), some (.ref x2), some (.int x3), some (.int x4), some (.int x5), some (.int x6), some (.int x7), some (.int x8), some (.int t0)]) rfl ?_
  refine x_iload (pc := 147) dL_text_147 rfl ?_
  refine x_iload (pc := 149) dL_text_149 rfl ?_
  refine x_if_eq (pc := 151) (tgt := 158) dL_text_151 (by decide) ?_ ?_
  · refine x_iconst (pc := 158) (v := 0) dL_text_158 (by decide) ?_
    exact xL_text_159 (k92 := k92) (k108 := k108) hk92 hk108 μ x0 x1 x2 x3 x4 x5 x7 x8 t0 (0 : Int32) x6 _
  · refine x_iconst (pc := 154) (v := 1) dL_text_154 (by decide) ?_
    refine x_goto (pc := 155) (tgt := 159) dL_text_155 (by decide) ?_
    exact xL_text_159 (k92 := k92) (k108 := k108) hk92 hk108 μ x0 x1 x2 x3 x4 x5 x7 x8 t0 (1 : Int32) x6 _
set_option maxRecDepth 100000 in
set_option maxHeartbeats 40000000 in
theorem xL_text_144 {n0 c0 s0 cx cy : Nat} {S : mSh} {k92 : mMm → Nat → Nat → Nat → Int32 → Int32 → Int32 → Option (Int32 × mMm)} {k108 : mMm → Nat → Nat → Nat → Int32 → Int32 → Int32 → Int32 → Int32 → Int32 → Option (Int32 × mMm)} (hk92 : ∀ (μ : mMm) (x0 : Nat) (x1 : Nat) (x2 : Nat) (x3 : Int32) (x4 : Int32) (x5 : Int32) (d6 : Option Value) (d7 : Option Value) (d8 : Option Value) (d9 : Option Value), mX ML_text n0 c0 s0 92 [some (.ref x0), some (.ref x1), some (.ref x2), some (.int x3), some (.int x4), some (.int x5), d6, d7, d8, d9] [] (S, μ, cx, cy) (iMI S cx cy) (k92 μ x0 x1 x2 x3 x4 x5)) (hk108 : ∀ (μ : mMm) (x0 : Nat) (x1 : Nat) (x2 : Nat) (x3 : Int32) (x4 : Int32) (x5 : Int32) (x6 : Int32) (x7 : Int32) (x8 : Int32) (d9 : Option Value), mX ML_text n0 c0 s0 108 [some (.ref x0), some (.ref x1), some (.ref x2), some (.int x3), some (.int x4), some (.int x5), some (.int x6), some (.int x7), some (.int x8), d9] [] (S, μ, cx, cy) (iMI S cx cy) (k108 μ x0 x1 x2 x3 x4 x5 x6 x7 x8)) (μ : mMm) (x0 : Nat) (x1 : Nat) (x2 : Nat) (x3 : Int32) (x4 : Int32) (x5 : Int32) (x6 : Int32) (x7 : Int32) (x8 : Int32) (d9 : Option Value) : mX ML_text n0 c0 s0 144 [some (.ref x0), some (.ref x1), some (.ref x2), some (.int x3), some (.int x4), some (.int x5), some (.int x6), some (.int x7), some (.int x8), d9] [] (S, μ, cx, cy) (iMI S cx cy) (lL_text_144 k92 k108 S μ x0 x1 x2 x3 x4 x5 x6 x7 x8) := by
  unfold lL_text_144
  refine x_iconst (pc := 144) (v := 0) dL_text_144 (by decide) ?_
  exact xL_text_145 (k92 := k92) (k108 := k108) hk92 hk108 μ x0 x1 x2 x3 x4 x5 x6 x7 x8 (0 : Int32) _
set_option maxRecDepth 100000 in
set_option maxHeartbeats 40000000 in
theorem xL_text_108 {n0 c0 s0 cx cy : Nat} {S : mSh} {k92 : mMm → Nat → Nat → Nat → Int32 → Int32 → Int32 → Option (Int32 × mMm)} (hk92 : ∀ (μ : mMm) (x0 : Nat) (x1 : Nat) (x2 : Nat) (x3 : Int32) (x4 : Int32) (x5 : Int32) (d6 : Option Value) (d7 : Option Value) (d8 : Option Value) (d9 : Option Value), mX ML_text n0 c0 s0 92 [some (.ref x0), some (.ref x1), some (.ref x2), some (.int x3), some (.int x4), some (.int x5), d6, d7, d8, d9] [] (S, μ, cx, cy) (iMI S cx cy) (k92 μ x0 x1 x2 x3 x4 x5)) : ∀ (n : Nat) (μ : mMm) (x0 : Nat) (x1 : Nat) (x2 : Nat) (x3 : Int32) (x4 : Int32) (x5 : Int32) (x6 : Int32) (x7 : Int32) (x8 : Int32) (d9 : Option Value), mX ML_text n0 c0 s0 108 [some (.ref x0), some (.ref x1), some (.ref x2), some (.int x3), some (.int x4), some (.int x5), some (.int x6), some (.int x7), some (.int x8), d9] [] (S, μ, cx, cy) (iMI S cx cy) (lL_text_108 k92 S n μ x0 x1 x2 x3 x4 x5 x6 x7 x8) := by
  intro n
  induction n with
  | zero => intros; exact x_none
  | succ n ih =>
    intro μ x0 x1 x2 x3 x4 x5 x6 x7 x8 d9
    unfold lL_text_108
    refine x_iload (pc := 108) dL_text_108 rfl ?_
    refine x_aload_n (pc := 110) dL_text_110 (i := 2) rfl rfl ?_
    refine x_iconst (pc := 111) (v := 0) dL_text_111 (by decide) ?_
    refine x_ldI (pc := 112) dL_text_112 (fun v12 => ?_)
    refine x_icmp_ge (pc := 113) (tgt := 184) dL_text_113 (by decide) ?_ ?_
    · refine x_iload (pc := 184) dL_text_184 rfl ?_
      refine x_iload_n (pc := 186) dL_text_186 (i := 3) rfl rfl ?_
      refine x_icmp_le (pc := 187) (tgt := 195) dL_text_187 (by decide) ?_ ?_
      · refine x_iload (pc := 195) dL_text_195 rfl ?_
        exact xL_text_197 (k92 := k92) hk92 μ x0 x1 x2 x3 x5 x6 x7 x4 _ _ _
      · refine x_iload (pc := 190) dL_text_190 rfl ?_
        refine x_goto (pc := 192) (tgt := 197) dL_text_192 (by decide) ?_
        exact xL_text_197 (k92 := k92) hk92 μ x0 x1 x2 x3 x5 x6 x7 x5 _ _ _
    · refine x_aload_n (pc := 116) dL_text_116 (i := 1) rfl rfl ?_
      refine x_iload (pc := 117) dL_text_117 rfl ?_
      refine x_iconst (pc := 119) (v := 1) dL_text_119 (by decide) ?_
      refine x_isub (pc := 120) dL_text_120 ?_
      refine x_ldI (pc := 121) dL_text_121 (fun v15 => ?_)
      refine x_iload (pc := 122) dL_text_122 rfl ?_
      refine x_iconst (pc := 124) (v := 4) dL_text_124 (by decide) ?_
      refine x_idiv (pc := 125) dL_text_125 (fun v16 => ?_)
      refine x_icmp_ne (pc := 126) (tgt := 144) dL_text_126 (by decide) ?_ ?_
      · refine x_aload_n (pc := 129) dL_text_129 (i := 1) rfl rfl ?_
        refine x_iload (pc := 130) dL_text_130 rfl ?_
        refine x_ldI (pc := 132) dL_text_132 (fun v17 => ?_)
        refine x_iload (pc := 133) dL_text_133 rfl ?_
        refine x_iconst (pc := 135) (v := 4) dL_text_135 (by decide) ?_
        refine x_irem (pc := 136) dL_text_136 (fun v18 => ?_)
        refine x_icmp_ne (pc := 137) (tgt := 144) dL_text_137 (by decide) ?_ ?_
        · refine x_iconst (pc := 140) (v := 1) dL_text_140 (by decide) ?_
          refine x_goto (pc := 141) (tgt := 145) dL_text_141 (by decide) ?_
          exact xL_text_145 (k92 := k92) (k108 := (lL_text_108 k92 S n)) hk92 ih μ x0 x1 x2 x3 x4 x5 x6 x7 x8 (1 : Int32) _
        · exact xL_text_144 (k92 := k92) (k108 := (lL_text_108 k92 S n)) hk92 ih μ x0 x1 x2 x3 x4 x5 x6 x7 x8 _
      · exact xL_text_144 (k92 := k92) (k108 := (lL_text_108 k92 S n)) hk92 ih μ x0 x1 x2 x3 x4 x5 x6 x7 x8 _
set_option maxRecDepth 100000 in
set_option maxHeartbeats 40000000 in
theorem xL_text_92 {n0 c0 s0 cx cy : Nat} {S : mSh} : ∀ (n : Nat) (μ : mMm) (x0 : Nat) (x1 : Nat) (x2 : Nat) (x3 : Int32) (x4 : Int32) (x5 : Int32) (d6 : Option Value) (d7 : Option Value) (d8 : Option Value) (d9 : Option Value), mX ML_text n0 c0 s0 92 [some (.ref x0), some (.ref x1), some (.ref x2), some (.int x3), some (.int x4), some (.int x5), d6, d7, d8, d9] [] (S, μ, cx, cy) (iMI S cx cy) (lL_text_92 S n μ x0 x1 x2 x3 x4 x5) := by
  intro n
  induction n with
  | zero => intros; exact x_none
  | succ n ih =>
    intro μ x0 x1 x2 x3 x4 x5 d6 d7 d8 d9
    unfold lL_text_92
    refine x_iload (pc := 92) dL_text_92 rfl ?_
    refine x_bipush (pc := 94) (v := 16) dL_text_94 (by decide) ?_
    refine x_icmp_ge (pc := 96) (tgt := 242) dL_text_96 (by decide) ?_ ?_
    · refine x_aload_n (pc := 242) dL_text_242 (i := 0) rfl rfl ?_
      refine x_callVi (pc := 243) (As := []) (rest := []) (vx := fun a => a.1) (μf := fun a => a.2) fcX10 (mFrM rfl (mMetP (mX10_textLength oS μ cx cy x0))) (fun _ => rfl) rfl (fun _ h => cPok h) dL_text_243 q532 kX10_textLength rfl ⟨by decide, by decide⟩ rfl (Nat.le_of_ble_eq_true rfl) (fun r2 => ?_)
      refine x_aload_n (pc := 246) dL_text_246 (i := 2) rfl rfl ?_
      refine x_iconst (pc := 247) (v := 0) dL_text_247 (by decide) ?_
      refine x_ldI (pc := 248) dL_text_248 (fun v3 => ?_)
      refine x_icmp_ne (pc := 249) (tgt := 302) dL_text_249 (by decide) ?_ ?_
      · refine x_aload_n (pc := 252) dL_text_252 (i := 0) rfl rfl ?_
        refine x_callVi (pc := 253) (As := []) (rest := []) (vx := fun a => a.1) (μf := fun a => a.2) fcX10 (mFrM rfl (mMetP (mX10_window oS r2.2 cx cy x0))) (fun _ => rfl) rfl (fun _ h => cPok h) dL_text_253 q536 kX10_window rfl ⟨by decide, by decide⟩ rfl (Nat.le_of_ble_eq_true rfl) (fun r4 => ?_)
        refine x_aload_n (pc := 256) dL_text_256 (i := 2) rfl rfl ?_
        refine x_iconst (pc := 257) (v := 1) dL_text_257 (by decide) ?_
        refine x_ldI (pc := 258) dL_text_258 (fun v5 => ?_)
        refine x_icmp_ne (pc := 259) (tgt := 302) dL_text_259 (by decide) ?_ ?_
        · refine x_aload_n (pc := 262) dL_text_262 (i := 0) rfl rfl ?_
          refine x_callVi (pc := 263) (As := []) (rest := []) (vx := fun a => a.1) (μf := fun a => a.2) fcX10 (mFrM rfl (mMetP (mX10_shortest oS r4.2 cx cy x0))) (fun _ => rfl) rfl (fun _ h => cPok h) dL_text_263 q540 kX10_shortest rfl ⟨by decide, by decide⟩ rfl (Nat.le_of_ble_eq_true rfl) (fun r6 => ?_)
          refine x_aload_n (pc := 266) dL_text_266 (i := 2) rfl rfl ?_
          refine x_iconst (pc := 267) (v := 2) dL_text_267 (by decide) ?_
          refine x_ldI (pc := 268) dL_text_268 (fun v7 => ?_)
          refine x_icmp_ne (pc := 269) (tgt := 302) dL_text_269 (by decide) ?_ ?_
          · refine x_aload_n (pc := 272) dL_text_272 (i := 0) rfl rfl ?_
            refine x_callVi (pc := 273) (As := []) (rest := []) (vx := fun a => a.1) (μf := fun a => a.2) fcX10 (mFrM rfl (mMetP (mX10_longest oS r6.2 cx cy x0))) (fun _ => rfl) rfl (fun _ h => cPok h) dL_text_273 q544 kX10_longest rfl ⟨by decide, by decide⟩ rfl (Nat.le_of_ble_eq_true rfl) (fun r8 => ?_)
            refine x_aload_n (pc := 276) dL_text_276 (i := 2) rfl rfl ?_
            refine x_iconst (pc := 277) (v := 3) dL_text_277 (by decide) ?_
            refine x_ldI (pc := 278) dL_text_278 (fun v9 => ?_)
            refine x_icmp_ne (pc := 279) (tgt := 302) dL_text_279 (by decide) ?_ ?_
            · refine x_aload_n (pc := 282) dL_text_282 (i := 2) rfl rfl ?_
              refine x_iconst (pc := 283) (v := 0) dL_text_283 (by decide) ?_
              refine x_ldI (pc := 284) dL_text_284 (fun v10 => ?_)
              refine x_iconst (pc := 285) (v := 2) dL_text_285 (by decide) ?_
              refine x_icmp_lt (pc := 286) (tgt := 298) dL_text_286 (by decide) ?_ ?_
              · exact xL_text_298 r8.2 _ _ _ _ _ _ _ _ _ _
              · refine x_aload_n (pc := 289) dL_text_289 (i := 0) rfl rfl ?_
                refine x_callVi (pc := 290) (As := []) (rest := []) (vx := fun a => a.1) (μf := fun a => a.2) fcX10 (mFrV rfl (mX10_mostFrequent oS r8.2 cx cy x0)) (fun _ => rfl) rfl (fun _ h => cVok h) dL_text_290 q548 kX10_mostFrequent rfl ⟨by decide, by decide⟩ rfl (Nat.le_of_ble_eq_true rfl) (fun r11 => ?_)
                refine x_iload (pc := 293) dL_text_293 rfl ?_
                refine x_icmp_ne (pc := 295) (tgt := 302) dL_text_295 (by decide) ?_ ?_
                · exact xL_text_298 r11.2 _ _ _ _ _ _ _ _ _ _
                · refine x_iconst (pc := 302) (v := 0) dL_text_302 (by decide) ?_
                  exact x_iret rfl dL_text_303 rfl rfl
            · refine x_iconst (pc := 302) (v := 0) dL_text_302 (by decide) ?_
              exact x_iret rfl dL_text_303 rfl rfl
          · refine x_iconst (pc := 302) (v := 0) dL_text_302 (by decide) ?_
            exact x_iret rfl dL_text_303 rfl rfl
        · refine x_iconst (pc := 302) (v := 0) dL_text_302 (by decide) ?_
          exact x_iret rfl dL_text_303 rfl rfl
      · refine x_iconst (pc := 302) (v := 0) dL_text_302 (by decide) ?_
        exact x_iret rfl dL_text_303 rfl rfl
    · refine x_iconst (pc := 99) (v := 0) dL_text_99 (by decide) ?_
      refine x_istore (pc := 100) dL_text_100 (by decide) (l' := [some (.ref x0), some (.ref x1), some (.ref x2), some (.int x3), some (.int x4), some (.int x5), some (.int (0 : Int32)), d7, d8, d9]) rfl ?_
      refine x_iconst (pc := 102) (v := -1) dL_text_102 (by decide) ?_
      refine x_istore (pc := 103) dL_text_103 (by decide) (l' := [some (.ref x0), some (.ref x1), some (.ref x2), some (.int x3), some (.int x4), some (.int x5), some (.int (0 : Int32)), some (.int (-1 : Int32)), d8, d9]) rfl ?_
      refine x_iconst (pc := 105) (v := 1) dL_text_105 (by decide) ?_
      refine x_istore (pc := 106) dL_text_106 (by decide) (l' := [some (.ref x0), some (.ref x1), some (.ref x2), some (.int x3), some (.int x4), some (.int x5), some (.int (0 : Int32)), some (.int (-1 : Int32)), some (.int (1 : Int32)), d9]) rfl ?_
      exact xL_text_108 (k92 := (lL_text_92 S n)) ih FU μ x0 x1 x2 x3 x4 x5 (0 : Int32) (-1 : Int32) (1 : Int32) _
set_option maxRecDepth 100000 in
set_option maxHeartbeats 40000000 in
theorem xL_text_73 {n0 c0 s0 cx cy : Nat} {S : mSh} {k2 : mMm → Nat → Nat → Nat → Int32 → Option (Int32 × mMm)} (hk2 : ∀ (μ : mMm) (x0 : Nat) (x1 : Nat) (x2 : Nat) (x3 : Int32) (d4 : Option Value) (d5 : Option Value) (d6 : Option Value) (d7 : Option Value) (d8 : Option Value) (d9 : Option Value), mX ML_text n0 c0 s0 2 [some (.ref x0), some (.ref x1), some (.ref x2), some (.int x3), d4, d5, d6, d7, d8, d9] [] (S, μ, cx, cy) (iMI S cx cy) (k2 μ x0 x1 x2 x3)) (μ : mMm) (x0 : Nat) (x1 : Nat) (x2 : Nat) (x3 : Int32) (t0 : Int32) (t1 : Int32) (d4 : Option Value) (d5 : Option Value) (d6 : Option Value) (d7 : Option Value) (d8 : Option Value) (d9 : Option Value) : mX ML_text n0 c0 s0 73 [some (.ref x0), some (.ref x1), some (.ref x2), some (.int x3), d4, d5, d6, d7, d8, d9] [.int t0, .int t1] (S, μ, cx, cy) (iMI S cx cy) (lL_text_73 k2 S μ x0 x1 x2 x3 t0 t1) := by
  unfold lL_text_73
  refine x_icmp_eq (pc := 73) (tgt := 78) dL_text_73 (by decide) ?_ ?_
  · refine x_iinc (pc := 78) (v := x3 + (1 : Int32)) dL_text_78 rfl (by rw [show Int32.ofInt (1) = (1 : Int32) from by decide]) (by decide) (l' := [some (.ref x0), some (.ref x1), some (.ref x2), some (.int (x3 + (1 : Int32))), d4, d5, d6, d7, d8, d9]) rfl ?_
    refine x_goto (pc := 81) (tgt := 2) dL_text_81 (by decide) ?_
    exact hk2 μ x0 x1 x2 (x3 + (1 : Int32)) _ _ _ _ _ _
  · refine x_iconst (pc := 76) (v := 0) dL_text_76 (by decide) ?_
    exact x_iret rfl dL_text_77 rfl rfl
set_option maxRecDepth 100000 in
set_option maxHeartbeats 40000000 in
theorem xL_text_2 {n0 c0 s0 cx cy : Nat} {S : mSh} : ∀ (n : Nat) (μ : mMm) (x0 : Nat) (x1 : Nat) (x2 : Nat) (x3 : Int32) (d4 : Option Value) (d5 : Option Value) (d6 : Option Value) (d7 : Option Value) (d8 : Option Value) (d9 : Option Value), mX ML_text n0 c0 s0 2 [some (.ref x0), some (.ref x1), some (.ref x2), some (.int x3), d4, d5, d6, d7, d8, d9] [] (S, μ, cx, cy) (iMI S cx cy) (lL_text_2 S n μ x0 x1 x2 x3) := by
  intro n
  induction n with
  | zero => intros; exact x_none
  | succ n ih =>
    intro μ x0 x1 x2 x3 d4 d5 d6 d7 d8 d9
    unfold lL_text_2
    refine x_iload_n (pc := 2) dL_text_2 (i := 3) rfl rfl ?_
    refine x_aload_n (pc := 3) dL_text_3 (i := 2) rfl rfl ?_
    refine x_iconst (pc := 4) (v := 0) dL_text_4 (by decide) ?_
    refine x_ldI (pc := 5) dL_text_5 (fun v1 => ?_)
    refine x_icmp_ge (pc := 6) (tgt := 84) dL_text_6 (by decide) ?_ ?_
    · refine x_iconst (pc := 84) (v := 0) dL_text_84 (by decide) ?_
      refine x_istore_n (pc := 85) dL_text_85 (i := 3) rfl (by decide) (l' := [some (.ref x0), some (.ref x1), some (.ref x2), some (.int (0 : Int32)), d4, d5, d6, d7, d8, d9]) rfl ?_
      refine x_iconst (pc := 86) (v := -1) dL_text_86 (by decide) ?_
      refine x_istore (pc := 87) dL_text_87 (by decide) (l' := [some (.ref x0), some (.ref x1), some (.ref x2), some (.int (0 : Int32)), some (.int (-1 : Int32)), d5, d6, d7, d8, d9]) rfl ?_
      refine x_iconst (pc := 89) (v := 0) dL_text_89 (by decide) ?_
      refine x_istore (pc := 90) dL_text_90 (by decide) (l' := [some (.ref x0), some (.ref x1), some (.ref x2), some (.int (0 : Int32)), some (.int (-1 : Int32)), some (.int (0 : Int32)), d6, d7, d8, d9]) rfl ?_
      exact xL_text_92 FU μ x0 x1 x2 (0 : Int32) (-1 : Int32) (0 : Int32) _ _ _ _
    · refine x_aload_n (pc := 9) dL_text_9 (i := 1) rfl rfl ?_
      refine x_aload_n (pc := 10) dL_text_10 (i := 2) rfl rfl ?_
      refine x_iload_n (pc := 11) dL_text_11 (i := 3) rfl rfl ?_
      refine x_aload_n (pc := 12) dL_text_12 (i := 2) rfl rfl ?_
      refine x_iconst (pc := 13) (v := 1) dL_text_13 (by decide) ?_
      refine x_ldI (pc := 14) dL_text_14 (fun v19 => ?_)
      refine x_callSi (pc := 15) (As := [.ref x1, .ref x2, .int x3, .int v19]) (rest := []) (vx := fun a => a) (μf := fun _ => μ) (mL_longest S μ cx cy x1 x2 x3 v19) (fun _ => rfl) rfl dL_text_15 q239 kL_longest rfl ⟨by decide, by decide⟩ rfl (Nat.le_of_ble_eq_true rfl) (fun v20 => ?_)
      refine x_istore (pc := 18) dL_text_18 (by decide) (l' := [some (.ref x0), some (.ref x1), some (.ref x2), some (.int x3), some (.int v20), d5, d6, d7, d8, d9]) rfl ?_
      refine x_aload_n (pc := 20) dL_text_20 (i := 0) rfl rfl ?_
      refine x_iload_n (pc := 21) dL_text_21 (i := 3) rfl rfl ?_
      refine x_callVi (pc := 22) (As := [.int x3]) (rest := []) (vx := fun a => a.1) (μf := fun a => a.2) fcX10 (mFrV rfl (mMetQ (mX10_letterAt oS μ cx cy x0 x3))) (fun _ => rfl) rfl (fun _ h => cQok h) dL_text_22 q476 kX10_letterAt rfl ⟨by decide, by decide⟩ rfl (Nat.le_of_ble_eq_true rfl) (fun r21 => ?_)
      refine x_aload_n (pc := 25) dL_text_25 (i := 1) rfl rfl ?_
      refine x_iload_n (pc := 26) dL_text_26 (i := 3) rfl rfl ?_
      refine x_ldI (pc := 27) dL_text_27 (fun v22 => ?_)
      refine x_icmp_ne (pc := 28) (tgt := 76) dL_text_28 (by decide) ?_ ?_
      · refine x_aload_n (pc := 31) dL_text_31 (i := 0) rfl rfl ?_
        refine x_iload_n (pc := 32) dL_text_32 (i := 3) rfl rfl ?_
        refine x_callVi (pc := 33) (As := [.int x3]) (rest := []) (vx := fun a => a.1) (μf := fun a => a.2) fcX10 (mFrV rfl (mMetQ (mX10_repeatLength oS r21.2 cx cy x0 x3))) (fun _ => rfl) rfl (fun _ h => cQok h) dL_text_33 q480 kX10_repeatLength rfl ⟨by decide, by decide⟩ rfl (Nat.le_of_ble_eq_true rfl) (fun r23 => ?_)
        refine x_iload (pc := 36) dL_text_36 rfl ?_
        refine x_icmp_ne (pc := 38) (tgt := 76) dL_text_38 (by decide) ?_ ?_
        · refine x_aload_n (pc := 41) dL_text_41 (i := 0) rfl rfl ?_
          refine x_iload_n (pc := 42) dL_text_42 (i := 3) rfl rfl ?_
          refine x_callVi (pc := 43) (As := [.int x3]) (rest := []) (vx := fun a => a.1) (μf := fun a => a.2) fcX10 (mFrV rfl (mX10_repeatLengthByPairs oS r23.2 cx cy x0 x3)) (fun _ => rfl) rfl (fun _ h => cVok h) dL_text_43 q485 kX10_repeatLengthByPairs rfl ⟨by decide, by decide⟩ rfl (Nat.le_of_ble_eq_true rfl) (fun r24 => ?_)
          refine x_iload (pc := 46) dL_text_46 rfl ?_
          refine x_icmp_ne (pc := 48) (tgt := 76) dL_text_48 (by decide) ?_ ?_
          · refine x_aload_n (pc := 51) dL_text_51 (i := 0) rfl rfl ?_
            refine x_iload_n (pc := 52) dL_text_52 (i := 3) rfl rfl ?_
            refine x_callVi (pc := 53) (As := [.int x3]) (rest := []) (vx := fun a => a.1) (μf := fun a => a.2) fcX10 (mFrV rfl (mMetQ (mX10_repeatDistance oS r24.2 cx cy x0 x3))) (fun _ => rfl) rfl (fun _ h => cQok h) dL_text_53 q508 kX10_repeatDistance rfl ⟨by decide, by decide⟩ rfl (Nat.le_of_ble_eq_true rfl) (fun r25 => ?_)
            refine x_iload (pc := 56) dL_text_56 rfl ?_
            refine x_if_ne (pc := 58) (tgt := 65) dL_text_58 (by decide) ?_ ?_
            · refine x_iconst (pc := 61) (v := 0) dL_text_61 (by decide) ?_
              refine x_goto (pc := 62) (tgt := 73) dL_text_62 (by decide) ?_
              exact xL_text_73 (k2 := (lL_text_2 S n)) ih r25.2 x0 x1 x2 x3 (0 : Int32) r25.1 _ _ _ _ _ _
            · refine x_aload_n (pc := 65) dL_text_65 (i := 1) rfl rfl ?_
              refine x_aload_n (pc := 66) dL_text_66 (i := 2) rfl rfl ?_
              refine x_iload_n (pc := 67) dL_text_67 (i := 3) rfl rfl ?_
              refine x_iload (pc := 68) dL_text_68 rfl ?_
              refine x_callSi (pc := 70) (As := [.ref x1, .ref x2, .int x3, .int v20]) (rest := [.int r25.1]) (vx := fun a => a) (μf := fun _ => r25.2) (mL_nearest S r25.2 cx cy x1 x2 x3 v20) (fun _ => rfl) rfl dL_text_70 q248 kL_nearest rfl ⟨by decide, by decide⟩ rfl (Nat.le_of_ble_eq_true rfl) (fun v26 => ?_)
              exact xL_text_73 (k2 := (lL_text_2 S n)) ih r25.2 x0 x1 x2 x3 v26 r25.1 _ _ _ _ _ _
          · refine x_iconst (pc := 76) (v := 0) dL_text_76 (by decide) ?_
            exact x_iret rfl dL_text_77 rfl rfl
        · refine x_iconst (pc := 76) (v := 0) dL_text_76 (by decide) ?_
          exact x_iret rfl dL_text_77 rfl rfl
      · refine x_iconst (pc := 76) (v := 0) dL_text_76 (by decide) ?_
        exact x_iret rfl dL_text_77 rfl rfl
set_option maxRecDepth 100000 in
set_option maxHeartbeats 40000000 in
theorem xbL_text {n0 c0 s0 cx cy : Nat} {S : mSh} {μ : mMm} (p0 : Nat) (p1 : Nat) (p2 : Nat) : mX ML_text n0 c0 s0 0 [some (.ref p0), some (.ref p1), some (.ref p2), none, none, none, none, none, none, none] [] (S, μ, cx, cy) (iMI S cx cy) (fL_text S μ p0 p1 p2) := by
  unfold fL_text
  refine x_iconst (pc := 0) (v := 0) dL_text_0 (by decide) ?_
  refine x_istore_n (pc := 1) dL_text_1 (i := 3) rfl (by decide) (l' := [some (.ref p0), some (.ref p1), some (.ref p2), some (.int (0 : Int32)), none, none, none, none, none, none]) rfl ?_
  exact xL_text_2 FU μ p0 p1 p2 (0 : Int32) _ _ _ _ _ _
theorem mL_text (S : mSh) (μ : mMm) (cx cy : Nat) (p0 : Nat) (p1 : Nat) (p2 : Nat) : mMet ML_text [.ref p0, .ref p1, .ref p2] (S, μ, cx, cy) (iMI S cx cy) (fL_text S μ p0 p1 p2) := mMet.of rfl (by decide) rfl (fun h => by cases h) (Nat.le_of_ble_eq_true rfl) (xbL_text p0 p1 p2)
/-! SlideMillsLaw.costsOf(LSlideMills;[I[II)Z -/
noncomputable def lL_costsOf_151 (k92 : mSh → mMm → Nat → Nat → Nat → Nat → Nat → Nat → Int32 → Int32 → Option (Int32 × mSh × mMm × Nat)) (S : mSh) (μ : mMm) (cx : Nat) (x0 : Nat) (x1 : Nat) (x2 : Nat) (x5 : Nat) (x6 : Nat) (x8 : Int32) (t0 : Int32) : Option (Int32 × mSh × mMm × Nat) := k92 S μ cx x0 x1 x2 x5 x6 t0 (x8 + (1 : Int32))
noncomputable def lL_costsOf_150 (k92 : mSh → mMm → Nat → Nat → Nat → Nat → Nat → Nat → Int32 → Int32 → Option (Int32 × mSh × mMm × Nat)) (S : mSh) (μ : mMm) (cx : Nat) (x0 : Nat) (x1 : Nat) (x2 : Nat) (x5 : Nat) (x6 : Nat) (x8 : Int32) : Option (Int32 × mSh × mMm × Nat) := lL_costsOf_151 k92 S μ cx x0 x1 x2 x5 x6 x8 (0 : Int32)
noncomputable def lL_costsOf_92 : Nat → mSh → mMm → Nat → Nat → Nat → Nat → Nat → Nat → Int32 → Int32 → Option (Int32 × mSh × mMm × Nat)
  | 0, _, _, _, _, _, _, _, _, _, _ => none
  | n + 1, S, μ, cx, x0, x1, x2, x5, x6, x7, x8 => if (3 : Int32) ≤ x8 then (if (x7 = 0 ∨ x7 = 1) then some (x7, S, μ, cx) else none) else ((if mvk S [some (.ref x0), some (.ref x1), some (.ref x2), none, none, some (.ref x5), some (.ref x6), some (.int x7), some (.int x8), none] [] = true then fgt S (fL_pack S μ cx x1 x2 x8 x5 x6) else none).bind fun r9 => if x7 = 0 then (lL_costsOf_150 (lL_costsOf_92 n) S r9.2.1 r9.2.2 x0 x1 x2 x5 x6 x8) else ((cV oS S r9.2.1 (fX10_tokensBy oS r9.2.1 x0 x8)).bind fun r10 => (dRem r9.1 (1000 : Int32)).bind fun v11 => if r10.1 = v11 then ((cV oS S r10.2 (fX10_costBy oS r10.2 x0 x8)).bind fun r12 => (dDiv r9.1 (1000 : Int32)).bind fun v13 => if r12.1 = v13 then (lL_costsOf_151 (lL_costsOf_92 n) S r12.2 r9.2.2 x0 x1 x2 x5 x6 x8 (1 : Int32)) else (lL_costsOf_150 (lL_costsOf_92 n) S r12.2 r9.2.2 x0 x1 x2 x5 x6 x8)) else (lL_costsOf_150 (lL_costsOf_92 n) S r10.2 r9.2.2 x0 x1 x2 x5 x6 x8)))
noncomputable def lL_costsOf_87 (S : mSh) (μ : mMm) (cx : Nat) (x0 : Nat) (x1 : Nat) (x2 : Nat) (x5 : Nat) (x6 : Nat) (t0 : Int32) : Option (Int32 × mSh × mMm × Nat) := lL_costsOf_92 FU S μ cx x0 x1 x2 x5 x6 t0 (0 : Int32)
noncomputable def lL_costsOf_86 (S : mSh) (μ : mMm) (cx : Nat) (x0 : Nat) (x1 : Nat) (x2 : Nat) (x5 : Nat) (x6 : Nat) : Option (Int32 × mSh × mMm × Nat) := lL_costsOf_87 S μ cx x0 x1 x2 x5 x6 (0 : Int32)
noncomputable def lL_costsOf_43 (S : mSh) (μ : mMm) (cx : Nat) (x0 : Nat) (x1 : Nat) (x2 : Nat) (x4 : Nat) (x5 : Nat) (x6 : Nat) (t0 : Int32) : Option (Int32 × mSh × mMm × Nat) := (ldI S μ x2 (1 : Int32)).bind fun v7 => (fL_costs S μ x1 x2 v7 x4).bind fun m8 => if t0 = 0 then (lL_costsOf_86 S m8 cx x0 x1 x2 x5 x6) else ((cM oS S m8 (fX10_leastCost oS m8 x0)).bind fun r14 => (ldI S r14.2 x4 (0 : Int32)).bind fun v15 => if r14.1 = v15 then ((cM oS S r14.2 (fX10_leastCostFromBeginning oS r14.2 x0)).bind fun r16 => (ldI S r16.2 x4 (0 : Int32)).bind fun v17 => if r16.1 = v17 then (lL_costsOf_87 S r16.2 cx x0 x1 x2 x5 x6 (1 : Int32)) else (lL_costsOf_86 S r16.2 cx x0 x1 x2 x5 x6)) else (lL_costsOf_86 S r14.2 cx x0 x1 x2 x5 x6))
noncomputable def fL_costsOf (S : mSh) (μ : mMm) (cx : Nat) (p0 : Nat) (p1 : Nat) (p2 : Nat) (p3 : Int32) : Option (Int32 × mSh × mMm × Nat) := (aN S μ [some (.ref p0), some (.ref p1), some (.ref p2), some (.int p3), none, none, none, none, none, none] [] 12 41 41).bind fun r1 => (aN r1.1 r1.2 [some (.ref p0), some (.ref p1), some (.ref p2), some (.int p3), some (.ref (mN S)), none, none, none, none, none] [] 12 40 40).bind fun r2 => (aN r2.1 r2.2 [some (.ref p0), some (.ref p1), some (.ref p2), some (.int p3), some (.ref (mN S)), some (.ref (mN r1.1)), none, none, none, none] [] 12 40 40).bind fun r3 => (fL_costs r3.1 r3.2 p1 p2 p3 (mN S)).bind fun m4 => (cV oS r3.1 m4 (fX10_leastCostWith oS m4 p0 p3)).bind fun r5 => (ldI r3.1 r5.2 (mN S) (0 : Int32)).bind fun v6 => if r5.1 = v6 then (lL_costsOf_43 r3.1 r5.2 cx p0 p1 p2 (mN S) (mN r1.1) (mN r2.1) (1 : Int32)) else (lL_costsOf_43 r3.1 r5.2 cx p0 p1 p2 (mN S) (mN r1.1) (mN r2.1) (0 : Int32))
abbrev ML_costsOf : mM := ((yL_costsOf, cL_costsOf, 10, (some .boolean)), (7, 162), (true, false), RL, eT)
theorem kL_costsOf : mCalS ML_costsOf 4 := ⟨q557, q130, q558, by decide +kernel⟩
set_option maxRecDepth 100000 in
set_option maxHeartbeats 40000000 in
theorem xL_costsOf_151 {n0 c0 s0 : Nat} {k92 : mSh → mMm → Nat → Nat → Nat → Nat → Nat → Nat → Int32 → Int32 → Option (Int32 × mSh × mMm × Nat)} (hk92 : ∀ (S : mSh) (μ : mMm) (cx : Nat) (x0 : Nat) (x1 : Nat) (x2 : Nat) (x5 : Nat) (x6 : Nat) (x7 : Int32) (x8 : Int32) (d3 : Option Value) (d4 : Option Value) (d9 : Option Value), mX ML_costsOf n0 c0 s0 92 [some (.ref x0), some (.ref x1), some (.ref x2), d3, d4, some (.ref x5), some (.ref x6), some (.int x7), some (.int x8), d9] [] (S, μ, cx, 41 * cx) iAI (k92 S μ cx x0 x1 x2 x5 x6 x7 x8)) (S : mSh) (μ : mMm) (cx : Nat) (x0 : Nat) (x1 : Nat) (x2 : Nat) (x5 : Nat) (x6 : Nat) (x8 : Int32) (t0 : Int32) (d3 : Option Value) (d4 : Option Value) (d7 : Option Value) (d9 : Option Value) : mX ML_costsOf n0 c0 s0 151 [some (.ref x0), some (.ref x1), some (.ref x2), d3, d4, some (.ref x5), some (.ref x6), d7, some (.int x8), d9] [.int t0] (S, μ, cx, 41 * cx) iAI (lL_costsOf_151 k92 S μ cx x0 x1 x2 x5 x6 x8 t0) := by
  unfold lL_costsOf_151
  refine x_istore (pc := 151) dL_costsOf_151 (Nat.le_of_ble_eq_true rfl) (l' := [some (.ref x0), some (.ref x1), some (.ref x2), d3, d4, some (.ref x5), some (.ref x6), some (.int t0), some (.int x8), d9]) rfl ?_
  refine x_iinc (pc := 153) (v := x8 + (1 : Int32)) dL_costsOf_153 rfl (by rw [show Int32.ofInt (1) = (1 : Int32) from by decide]) (Nat.le_of_ble_eq_true rfl) (l' := [some (.ref x0), some (.ref x1), some (.ref x2), d3, d4, some (.ref x5), some (.ref x6), some (.int t0), some (.int (x8 + (1 : Int32))), d9]) rfl ?_
  refine x_goto (pc := 156) (tgt := 92) dL_costsOf_156 (by decide) ?_
  exact hk92 S μ cx x0 x1 x2 x5 x6 t0 (x8 + (1 : Int32)) _ _ _
set_option maxRecDepth 100000 in
set_option maxHeartbeats 40000000 in
theorem xL_costsOf_150 {n0 c0 s0 : Nat} {k92 : mSh → mMm → Nat → Nat → Nat → Nat → Nat → Nat → Int32 → Int32 → Option (Int32 × mSh × mMm × Nat)} (hk92 : ∀ (S : mSh) (μ : mMm) (cx : Nat) (x0 : Nat) (x1 : Nat) (x2 : Nat) (x5 : Nat) (x6 : Nat) (x7 : Int32) (x8 : Int32) (d3 : Option Value) (d4 : Option Value) (d9 : Option Value), mX ML_costsOf n0 c0 s0 92 [some (.ref x0), some (.ref x1), some (.ref x2), d3, d4, some (.ref x5), some (.ref x6), some (.int x7), some (.int x8), d9] [] (S, μ, cx, 41 * cx) iAI (k92 S μ cx x0 x1 x2 x5 x6 x7 x8)) (S : mSh) (μ : mMm) (cx : Nat) (x0 : Nat) (x1 : Nat) (x2 : Nat) (x5 : Nat) (x6 : Nat) (x8 : Int32) (d3 : Option Value) (d4 : Option Value) (d7 : Option Value) (d9 : Option Value) : mX ML_costsOf n0 c0 s0 150 [some (.ref x0), some (.ref x1), some (.ref x2), d3, d4, some (.ref x5), some (.ref x6), d7, some (.int x8), d9] [] (S, μ, cx, 41 * cx) iAI (lL_costsOf_150 k92 S μ cx x0 x1 x2 x5 x6 x8) := by
  unfold lL_costsOf_150
  refine x_iconst (pc := 150) (v := 0) dL_costsOf_150 (by decide) ?_
  exact xL_costsOf_151 (k92 := k92) hk92 S μ cx x0 x1 x2 x5 x6 x8 (0 : Int32) _ _ _ _
set_option maxRecDepth 100000 in
set_option maxHeartbeats 40000000 in
theorem xL_costsOf_92 {n0 c0 s0 : Nat} : ∀ (n : Nat) (S : mSh) (μ : mMm) (cx : Nat) (x0 : Nat) (x1 : Nat) (x2 : Nat) (x5 : Nat) (x6 : Nat) (x7 : Int32) (x8 : Int32) (d3 : Option Value) (d4 : Option Value) (d9 : Option Value), mX ML_costsOf n0 c0 s0 92 [some (.ref x0), some (.ref x1), some (.ref x2), d3, d4, some (.ref x5), some (.ref x6), some (.int x7), some (.int x8), d9] [] (S, μ, cx, 41 * cx) iAI (lL_costsOf_92 n S μ cx x0 x1 x2 x5 x6 x7 x8) := by
  intro n
  induction n with
  | zero => intros; exact x_none
  | succ n ih =>
    intro S μ cx x0 x1 x2 x5 x6 x7 x8 d3 d4 d9
    unfold lL_costsOf_92
    refine x_iload (pc := 92) dL_costsOf_92 rfl ?_
    refine x_iconst (pc := 94) (v := 3) dL_costsOf_94 (by decide) ?_
    refine x_icmp_ge (pc := 95) (tgt := 159) dL_costsOf_95 (by decide) ?_ ?_
    · refine x_iload (pc := 159) dL_costsOf_159 rfl ?_
      exact mX.ck (fun hp => x_iret rfl dL_costsOf_161 rfl (mNarZ hp))
    · refine x_aload_n (pc := 98) dL_costsOf_98 (i := 1) rfl rfl ?_
      refine x_aload_n (pc := 99) dL_costsOf_99 (i := 2) rfl rfl ?_
      refine x_iload (pc := 100) dL_costsOf_100 rfl ?_
      refine x_aload (pc := 102) dL_costsOf_102 rfl ?_
      refine x_aload (pc := 104) dL_costsOf_104 rfl ?_
      refine x_wk (l' := [some (.ref x0), some (.ref x1), some (.ref x2), none, none, some (.ref x5), some (.ref x6), some (.int x7), some (.int x8), none]) ⟨Or.inr rfl, Or.inr rfl, Or.inr rfl, Or.inl rfl, Or.inl rfl, Or.inr rfl, Or.inr rfl, Or.inr rfl, Or.inr rfl, Or.inl rfl, trivial⟩ ?_
      refine x_callB (pc := 106) (As := [.ref x1, .ref x2, .int x8, .ref x5, .ref x6]) (rest := []) (mL_pack S μ cx x1 x2 x8 x5 x6) rfl dL_costsOf_106 q233 kL_pack rfl ⟨Nat.le_of_ble_eq_true rfl, Nat.le_of_ble_eq_true rfl⟩ rfl (Nat.le_of_ble_eq_true rfl) (fun r9 => ?_)
      refine x_istore (pc := 109) dL_costsOf_109 (Nat.le_of_ble_eq_true rfl) (l' := [some (.ref x0), some (.ref x1), some (.ref x2), none, none, some (.ref x5), some (.ref x6), some (.int x7), some (.int x8), some (.int r9.1)]) rfl ?_
      refine x_iload (pc := 111) dL_costsOf_111 rfl ?_
      refine x_if_eq (pc := 113) (tgt := 150) dL_costsOf_113 (by decide) ?_ ?_
      · exact xL_costsOf_150 (k92 := (lL_costsOf_92 n)) ih S r9.2.1 r9.2.2 x0 x1 x2 x5 x6 x8 _ _ _ _
      · refine x_aload_n (pc := 116) dL_costsOf_116 (i := 0) rfl rfl ?_
        refine x_iload (pc := 117) dL_costsOf_117 rfl ?_
        refine x_callVi (pc := 119) (As := [.int x8]) (rest := []) (vx := fun a => a.1) (μf := fun a => a.2) fcX10 (mFrV rfl (mX10_tokensBy oS r9.2.1 r9.2.2 (41 * r9.2.2) x0 x8)) (fun _ => rfl) rfl (fun _ h => cVok h) dL_costsOf_119 q581 kX10_tokensBy rfl ⟨Nat.le_of_ble_eq_true rfl, Nat.le_of_ble_eq_true rfl⟩ rfl (Nat.le_of_ble_eq_true rfl) (fun r10 => ?_)
        refine x_iload (pc := 122) dL_costsOf_122 rfl ?_
        refine x_sipush (pc := 124) (v := 1000) dL_costsOf_124 (by decide) ?_
        refine x_irem (pc := 127) dL_costsOf_127 (fun v11 => ?_)
        refine x_icmp_ne (pc := 128) (tgt := 150) dL_costsOf_128 (by decide) ?_ ?_
        · refine x_aload_n (pc := 131) dL_costsOf_131 (i := 0) rfl rfl ?_
          refine x_iload (pc := 132) dL_costsOf_132 rfl ?_
          refine x_callVi (pc := 134) (As := [.int x8]) (rest := []) (vx := fun a => a.1) (μf := fun a => a.2) fcX10 (mFrV rfl (mX10_costBy oS r10.2 r9.2.2 (41 * r9.2.2) x0 x8)) (fun _ => rfl) rfl (fun _ h => cVok h) dL_costsOf_134 q585 kX10_costBy rfl ⟨Nat.le_of_ble_eq_true rfl, Nat.le_of_ble_eq_true rfl⟩ rfl (Nat.le_of_ble_eq_true rfl) (fun r12 => ?_)
          refine x_iload (pc := 137) dL_costsOf_137 rfl ?_
          refine x_sipush (pc := 139) (v := 1000) dL_costsOf_139 (by decide) ?_
          refine x_idiv (pc := 142) dL_costsOf_142 (fun v13 => ?_)
          refine x_icmp_ne (pc := 143) (tgt := 150) dL_costsOf_143 (by decide) ?_ ?_
          · refine x_iconst (pc := 146) (v := 1) dL_costsOf_146 (by decide) ?_
            refine x_goto (pc := 147) (tgt := 151) dL_costsOf_147 (by decide) ?_
            exact xL_costsOf_151 (k92 := (lL_costsOf_92 n)) ih S r12.2 r9.2.2 x0 x1 x2 x5 x6 x8 (1 : Int32) _ _ _ _
          · exact xL_costsOf_150 (k92 := (lL_costsOf_92 n)) ih S r12.2 r9.2.2 x0 x1 x2 x5 x6 x8 _ _ _ _
        · exact xL_costsOf_150 (k92 := (lL_costsOf_92 n)) ih S r10.2 r9.2.2 x0 x1 x2 x5 x6 x8 _ _ _ _
set_option maxRecDepth 100000 in
set_option maxHeartbeats 40000000 in
theorem xL_costsOf_87 {n0 c0 s0 : Nat} (S : mSh) (μ : mMm) (cx : Nat) (x0 : Nat) (x1 : Nat) (x2 : Nat) (x5 : Nat) (x6 : Nat) (t0 : Int32) (d3 : Option Value) (d4 : Option Value) (d7 : Option Value) (d8 : Option Value) (d9 : Option Value) : mX ML_costsOf n0 c0 s0 87 [some (.ref x0), some (.ref x1), some (.ref x2), d3, d4, some (.ref x5), some (.ref x6), d7, d8, d9] [.int t0] (S, μ, cx, 41 * cx) iAI (lL_costsOf_87 S μ cx x0 x1 x2 x5 x6 t0) := by
  unfold lL_costsOf_87
  refine x_istore (pc := 87) dL_costsOf_87 (Nat.le_of_ble_eq_true rfl) (l' := [some (.ref x0), some (.ref x1), some (.ref x2), d3, d4, some (.ref x5), some (.ref x6), some (.int t0), d8, d9]) rfl ?_
  refine x_iconst (pc := 89) (v := 0) dL_costsOf_89 (by decide) ?_
  refine x_istore (pc := 90) dL_costsOf_90 (Nat.le_of_ble_eq_true rfl) (l' := [some (.ref x0), some (.ref x1), some (.ref x2), d3, d4, some (.ref x5), some (.ref x6), some (.int t0), some (.int (0 : Int32)), d9]) rfl ?_
  exact xL_costsOf_92 FU S μ cx x0 x1 x2 x5 x6 t0 (0 : Int32) _ _ _
set_option maxRecDepth 100000 in
set_option maxHeartbeats 40000000 in
theorem xL_costsOf_86 {n0 c0 s0 : Nat} (S : mSh) (μ : mMm) (cx : Nat) (x0 : Nat) (x1 : Nat) (x2 : Nat) (x5 : Nat) (x6 : Nat) (d3 : Option Value) (d4 : Option Value) (d7 : Option Value) (d8 : Option Value) (d9 : Option Value) : mX ML_costsOf n0 c0 s0 86 [some (.ref x0), some (.ref x1), some (.ref x2), d3, d4, some (.ref x5), some (.ref x6), d7, d8, d9] [] (S, μ, cx, 41 * cx) iAI (lL_costsOf_86 S μ cx x0 x1 x2 x5 x6) := by
  unfold lL_costsOf_86
  refine x_iconst (pc := 86) (v := 0) dL_costsOf_86 (by decide) ?_
  exact xL_costsOf_87 S μ cx x0 x1 x2 x5 x6 (0 : Int32) _ _ _ _ _
set_option maxRecDepth 100000 in
set_option maxHeartbeats 40000000 in
theorem xL_costsOf_43 {n0 c0 s0 : Nat} (S : mSh) (μ : mMm) (cx : Nat) (x0 : Nat) (x1 : Nat) (x2 : Nat) (x4 : Nat) (x5 : Nat) (x6 : Nat) (t0 : Int32) (d3 : Option Value) (d7 : Option Value) (d8 : Option Value) (d9 : Option Value) : mX ML_costsOf n0 c0 s0 43 [some (.ref x0), some (.ref x1), some (.ref x2), d3, some (.ref x4), some (.ref x5), some (.ref x6), d7, d8, d9] [.int t0] (S, μ, cx, 41 * cx) iAI (lL_costsOf_43 S μ cx x0 x1 x2 x4 x5 x6 t0) := by
  unfold lL_costsOf_43
  refine x_istore (pc := 43) dL_costsOf_43 (Nat.le_of_ble_eq_true rfl) (l' := [some (.ref x0), some (.ref x1), some (.ref x2), d3, some (.ref x4), some (.ref x5), some (.ref x6), some (.int t0), d8, d9]) rfl ?_
  refine x_aload_n (pc := 45) dL_costsOf_45 (i := 1) rfl rfl ?_
  refine x_aload_n (pc := 46) dL_costsOf_46 (i := 2) rfl rfl ?_
  refine x_aload_n (pc := 47) dL_costsOf_47 (i := 2) rfl rfl ?_
  refine x_iconst (pc := 48) (v := 1) dL_costsOf_48 (by decide) ?_
  refine x_ldI (pc := 49) dL_costsOf_49 (fun v7 => ?_)
  refine x_aload (pc := 50) dL_costsOf_50 rfl ?_
  refine x_callSv (pc := 52) (As := [.ref x1, .ref x2, .int v7, .ref x4]) (rest := []) (μf := fun a => a) (mL_costs S μ cx (41 * cx) x1 x2 v7 x4) (fun _ => rfl) rfl dL_costsOf_52 q236 kL_costs rfl ⟨Nat.le_of_ble_eq_true rfl, Nat.le_of_ble_eq_true rfl⟩ rfl (Nat.le_of_ble_eq_true rfl) (fun m8 => ?_)
  refine x_iload (pc := 55) dL_costsOf_55 rfl ?_
  refine x_if_eq (pc := 57) (tgt := 86) dL_costsOf_57 (by decide) ?_ ?_
  · exact xL_costsOf_86 S m8 cx x0 x1 x2 x5 x6 _ _ _ _ _
  · refine x_aload_n (pc := 60) dL_costsOf_60 (i := 0) rfl rfl ?_
    refine x_callVi (pc := 61) (As := []) (rest := []) (vx := fun a => a.1) (μf := fun a => a.2) fcX10 (mFrM rfl (mX10_leastCost oS m8 cx (41 * cx) x0)) (fun _ => rfl) rfl (fun _ h => cMok h) dL_costsOf_61 q564 kX10_leastCost rfl ⟨Nat.le_of_ble_eq_true rfl, Nat.le_of_ble_eq_true rfl⟩ rfl (Nat.le_of_ble_eq_true rfl) (fun r14 => ?_)
    refine x_aload (pc := 64) dL_costsOf_64 rfl ?_
    refine x_iconst (pc := 66) (v := 0) dL_costsOf_66 (by decide) ?_
    refine x_ldI (pc := 67) dL_costsOf_67 (fun v15 => ?_)
    refine x_icmp_ne (pc := 68) (tgt := 86) dL_costsOf_68 (by decide) ?_ ?_
    · refine x_aload_n (pc := 71) dL_costsOf_71 (i := 0) rfl rfl ?_
      refine x_callVi (pc := 72) (As := []) (rest := []) (vx := fun a => a.1) (μf := fun a => a.2) fcX10 (mFrM rfl (mX10_leastCostFromBeginning oS r14.2 cx (41 * cx) x0)) (fun _ => rfl) rfl (fun _ h => cMok h) dL_costsOf_72 q568 kX10_leastCostFromBeginning rfl ⟨Nat.le_of_ble_eq_true rfl, Nat.le_of_ble_eq_true rfl⟩ rfl (Nat.le_of_ble_eq_true rfl) (fun r16 => ?_)
      refine x_aload (pc := 75) dL_costsOf_75 rfl ?_
      refine x_iconst (pc := 77) (v := 0) dL_costsOf_77 (by decide) ?_
      refine x_ldI (pc := 78) dL_costsOf_78 (fun v17 => ?_)
      refine x_icmp_ne (pc := 79) (tgt := 86) dL_costsOf_79 (by decide) ?_ ?_
      · refine x_iconst (pc := 82) (v := 1) dL_costsOf_82 (by decide) ?_
        refine x_goto (pc := 83) (tgt := 87) dL_costsOf_83 (by decide) ?_
        exact xL_costsOf_87 S r16.2 cx x0 x1 x2 x5 x6 (1 : Int32) _ _ _ _ _
      · exact xL_costsOf_86 S r16.2 cx x0 x1 x2 x5 x6 _ _ _ _ _
    · exact xL_costsOf_86 S r14.2 cx x0 x1 x2 x5 x6 _ _ _ _ _
set_option maxRecDepth 100000 in
set_option maxHeartbeats 40000000 in
theorem xbL_costsOf {n0 c0 s0 : Nat} (S : mSh) (μ : mMm) (cx : Nat) (p0 : Nat) (p1 : Nat) (p2 : Nat) (p3 : Int32) : mX ML_costsOf n0 c0 s0 0 [some (.ref p0), some (.ref p1), some (.ref p2), some (.int p3), none, none, none, none, none, none] [] (S, μ, cx, 41 * cx) iAI (fL_costsOf S μ cx p0 p1 p2 p3) := by
  unfold fL_costsOf
  refine x_bipush (pc := 0) (v := 41) dL_costsOf_0 (by decide) ?_
  refine x_aI (pc := 2) rfl dL_costsOf_2 q3 (by decide) (by decide) (by decide) (fun r1 => ?_)
  refine x_astore (pc := 4) dL_costsOf_4 (Nat.le_of_ble_eq_true rfl) (l' := [some (.ref p0), some (.ref p1), some (.ref p2), some (.int p3), some (.ref (mN S)), none, none, none, none, none]) rfl ?_
  refine x_bipush (pc := 6) (v := 40) dL_costsOf_6 (by decide) ?_
  refine x_aI (pc := 8) rfl dL_costsOf_8 q3 (by decide) (by decide) (by decide) (fun r2 => ?_)
  refine x_astore (pc := 10) dL_costsOf_10 (Nat.le_of_ble_eq_true rfl) (l' := [some (.ref p0), some (.ref p1), some (.ref p2), some (.int p3), some (.ref (mN S)), some (.ref (mN r1.1)), none, none, none, none]) rfl ?_
  refine x_bipush (pc := 12) (v := 40) dL_costsOf_12 (by decide) ?_
  refine x_aI (pc := 14) rfl dL_costsOf_14 q3 (by decide) (by decide) (by decide) (fun r3 => ?_)
  refine x_astore (pc := 16) dL_costsOf_16 (Nat.le_of_ble_eq_true rfl) (l' := [some (.ref p0), some (.ref p1), some (.ref p2), some (.int p3), some (.ref (mN S)), some (.ref (mN r1.1)), some (.ref (mN r2.1)), none, none, none]) rfl ?_
  refine x_aload_n (pc := 18) dL_costsOf_18 (i := 1) rfl rfl ?_
  refine x_aload_n (pc := 19) dL_costsOf_19 (i := 2) rfl rfl ?_
  refine x_iload_n (pc := 20) dL_costsOf_20 (i := 3) rfl rfl ?_
  refine x_aload (pc := 21) dL_costsOf_21 rfl ?_
  refine x_callSv (pc := 23) (As := [.ref p1, .ref p2, .int p3, .ref (mN S)]) (rest := []) (μf := fun a => a) (mL_costs r3.1 r3.2 cx (41 * cx) p1 p2 p3 (mN S)) (fun _ => rfl) rfl dL_costsOf_23 q236 kL_costs rfl ⟨Nat.le_of_ble_eq_true rfl, Nat.le_of_ble_eq_true rfl⟩ rfl (Nat.le_of_ble_eq_true rfl) (fun m4 => ?_)
  refine x_aload_n (pc := 26) dL_costsOf_26 (i := 0) rfl rfl ?_
  refine x_iload_n (pc := 27) dL_costsOf_27 (i := 3) rfl rfl ?_
  refine x_callVi (pc := 28) (As := [.int p3]) (rest := []) (vx := fun a => a.1) (μf := fun a => a.2) fcX10 (mFrV rfl (mX10_leastCostWith oS m4 cx (41 * cx) p0 p3)) (fun _ => rfl) rfl (fun _ h => cVok h) dL_costsOf_28 q559 kX10_leastCostWith rfl ⟨Nat.le_of_ble_eq_true rfl, Nat.le_of_ble_eq_true rfl⟩ rfl (Nat.le_of_ble_eq_true rfl) (fun r5 => ?_)
  refine x_aload (pc := 31) dL_costsOf_31 rfl ?_
  refine x_iconst (pc := 33) (v := 0) dL_costsOf_33 (by decide) ?_
  refine x_ldI (pc := 34) dL_costsOf_34 (fun v6 => ?_)
  refine x_icmp_ne (pc := 35) (tgt := 42) dL_costsOf_35 (by decide) ?_ ?_
  · refine x_iconst (pc := 38) (v := 1) dL_costsOf_38 (by decide) ?_
    refine x_goto (pc := 39) (tgt := 43) dL_costsOf_39 (by decide) ?_
    exact xL_costsOf_43 r3.1 r5.2 cx p0 p1 p2 (mN S) (mN r1.1) (mN r2.1) (1 : Int32) _ _ _ _
  · refine x_iconst (pc := 42) (v := 0) dL_costsOf_42 (by decide) ?_
    exact xL_costsOf_43 r3.1 r5.2 cx p0 p1 p2 (mN S) (mN r1.1) (mN r2.1) (0 : Int32) _ _ _ _
theorem mL_costsOf (S : mSh) (μ : mMm) (cx : Nat) (p0 : Nat) (p1 : Nat) (p2 : Nat) (p3 : Int32) : mMet ML_costsOf [.ref p0, .ref p1, .ref p2, .int p3] (S, μ, cx, 41 * cx) iAI (fL_costsOf S μ cx p0 p1 p2 p3) := mMet.of rfl (by decide) rfl (fun h => by cases h) (Nat.le_of_ble_eq_true rfl) (xbL_costsOf S μ cx p0 p1 p2 p3)
/-! SlideMillsLaw.add(LSlideMills;I)I -/
noncomputable def fL_add (S : mSh) (μ : mMm) (p0 : Nat) (p1 : Int32) : Option (Int32 × mMm × Nat) := (cT oS S μ (fX10_addLetter oS μ p0 p1)).bind fun r => hTry r (fun v1 m1 => some (v1, m1, 0)) (fun E m1 => (if E = 0 then (some ((-101 : Int32), m1, 1)) else if E = 1 then (some ((-102 : Int32), m1, 1)) else none))
abbrev ML_add : mM := ((yL_add, cL_add, 3, (some .int)), (7, 111), (false, false), RL, eH [(0, 5, 6, 128), (0, 5, 10, 130)])
theorem kL_add : mCalH ML_add [(0, 5, 6, 128), (0, 5, 10, 130)] 2 := ⟨q139, q130, q140, by decide +kernel⟩
set_option maxRecDepth 100000 in
set_option maxHeartbeats 40000000 in
theorem xbL_add {n0 c0 s0 cx cy : Nat} {S : mSh} {μ : mMm} (p0 : Nat) (p1 : Int32) : mX ML_add n0 c0 s0 0 [some (.ref p0), some (.int p1), none] [] (S, μ, cx, cy) (iHI S cx cy) (fL_add S μ p0 p1) := by
  unfold fL_add
  refine x_aload_n (pc := 0) dL_add_0 (i := 0) rfl rfl ?_
  refine x_iload_n (pc := 1) dL_add_1 (i := 1) rfl rfl ?_
  refine x_tryT (pc := 2) (As := [.int p1]) (rest := []) (hh := [(0, 5, 6, 128), (0, 5, 10, 130)]) fcX10 (mFrT rfl (mX10_addLetter oS μ cx cy p0 p1)) rfl rfl (fun _ h => cTok h) dL_add_2 q143 kX10_addLetter rfl ⟨by decide, by decide⟩ rfl (Nat.le_of_ble_eq_true rfl) (fun v1 m1 => ?_) (fun E m1 => ?_)
  · exact x_iret rfl dL_add_5 rfl rfl
  · refine mHd.ite (e := 0) (mHd.of (i := 2) (tgt := 6) (nx := 7) ⟨by decide, [], _, _, rfl, (fun _ h => nomatch h), by decide, by decide, q141, rfl⟩ (by decide) (Or.inl ⟨2, rfl, dL_add_6, rfl⟩) ?_) ?_
    · refine x_bipush (pc := 7) (v := -101) dL_add_7 (by decide) ?_
      exact x_iret rfl dL_add_9 rfl rfl
    refine mHd.ite (e := 1) (mHd.of (i := 2) (tgt := 10) (nx := 11) ⟨by decide, [_], _, _, rfl, (fun z hz => by cases List.mem_singleton.mp hz; exact ⟨by decide, 0, by decide, by decide, q141⟩), by decide, by decide, q142, rfl⟩ (by decide) (Or.inl ⟨2, rfl, dL_add_10, rfl⟩) ?_) ?_
    · refine x_bipush (pc := 11) (v := -102) dL_add_11 (by decide) ?_
      exact x_iret rfl dL_add_13 rfl rfl
    exact mHd.no
theorem mL_add (S : mSh) (μ : mMm) (cx cy : Nat) (p0 : Nat) (p1 : Int32) : mMetH ML_add [(0, 5, 6, 128), (0, 5, 10, 130)] [.ref p0, .int p1] (S, μ, cx, cy) (iHI S cx cy) (fL_add S μ p0 p1) := mMetH.of rfl (fun _ => rfl) (by decide) rfl (fun h => by cases h) (Nat.le_of_ble_eq_true rfl) (xbL_add p0 p1)
/-! SlideMillsLaw.token(LSlideMills;II)I -/
noncomputable def fL_token (S : mSh) (μ : mMm) (p0 : Nat) (p1 : Int32) (p2 : Int32) : Option (Int32 × mMm × Nat) := if p1 = 0 then ((cT oS S μ (fX10_addToken oS μ p0 p2)).bind fun r => hTry r (fun v1 m1 => some (v1, m1, 0)) (fun E m1 => (if E = 0 then (some ((-101 : Int32), m1, 1)) else if E = 1 then (some ((-102 : Int32), m1, 1)) else none))) else ((cT oS S μ (fX10_addRepeat oS μ p0 p1 p2)).bind fun r => hTry r (fun v1 m1 => some (v1, m1, 0)) (fun E m1 => (if E = 0 then (some ((-101 : Int32), m1, 1)) else if E = 1 then (some ((-102 : Int32), m1, 1)) else none)))
abbrev ML_token : mM := ((yL_token, cL_token, 4, (some .int)), (7, 112), (false, false), RL, eH [(0, 18, 19, 128), (0, 18, 23, 130)])
theorem kL_token : mCalH ML_token [(0, 18, 19, 128), (0, 18, 23, 130)] 3 := ⟨q370, q130, q371, by decide +kernel⟩
set_option maxRecDepth 100000 in
set_option maxHeartbeats 40000000 in
theorem xbL_token {n0 c0 s0 cx cy : Nat} {S : mSh} {μ : mMm} (p0 : Nat) (p1 : Int32) (p2 : Int32) : mX ML_token n0 c0 s0 0 [some (.ref p0), some (.int p1), some (.int p2), none] [] (S, μ, cx, cy) (iHI S cx cy) (fL_token S μ p0 p1 p2) := by
  unfold fL_token
  refine x_iload_n (pc := 0) dL_token_0 (i := 1) rfl rfl ?_
  refine x_if_ne (pc := 1) (tgt := 12) dL_token_1 (by decide) ?_ ?_
  · refine x_aload_n (pc := 4) dL_token_4 (i := 0) rfl rfl ?_
    refine x_iload_n (pc := 5) dL_token_5 (i := 2) rfl rfl ?_
    refine x_tryT (pc := 6) (As := [.int p2]) (rest := []) (hh := [(0, 18, 19, 128), (0, 18, 23, 130)]) fcX10 (mFrT rfl (mX10_addToken oS μ cx cy p0 p2)) rfl rfl (fun _ h => cTok h) dL_token_6 q372 kX10_addToken rfl ⟨by decide, by decide⟩ rfl (Nat.le_of_ble_eq_true rfl) (fun v1 m1 => ?_) (fun E m1 => ?_)
    · refine x_goto (pc := 9) (tgt := 18) dL_token_9 (by decide) ?_
      exact x_iret rfl dL_token_18 rfl rfl
    · refine mHd.ite (e := 0) (mHd.of (i := 3) (tgt := 19) (nx := 20) ⟨by decide, [], _, _, rfl, (fun _ h => nomatch h), by decide, by decide, q141, rfl⟩ (by decide) (Or.inl ⟨3, rfl, dL_token_19, rfl⟩) ?_) ?_
      · refine x_bipush (pc := 20) (v := -101) dL_token_20 (by decide) ?_
        exact x_iret rfl dL_token_22 rfl rfl
      refine mHd.ite (e := 1) (mHd.of (i := 3) (tgt := 23) (nx := 24) ⟨by decide, [_], _, _, rfl, (fun z hz => by cases List.mem_singleton.mp hz; exact ⟨by decide, 0, by decide, by decide, q141⟩), by decide, by decide, q142, rfl⟩ (by decide) (Or.inl ⟨3, rfl, dL_token_23, rfl⟩) ?_) ?_
      · refine x_bipush (pc := 24) (v := -102) dL_token_24 (by decide) ?_
        exact x_iret rfl dL_token_26 rfl rfl
      exact mHd.no
  · refine x_aload_n (pc := 12) dL_token_12 (i := 0) rfl rfl ?_
    refine x_iload_n (pc := 13) dL_token_13 (i := 1) rfl rfl ?_
    refine x_iload_n (pc := 14) dL_token_14 (i := 2) rfl rfl ?_
    refine x_tryT (pc := 15) (As := [.int p1, .int p2]) (rest := []) (hh := [(0, 18, 19, 128), (0, 18, 23, 130)]) fcX10 (mFrT rfl (mX10_addRepeat oS μ cx cy p0 p1 p2)) rfl rfl (fun _ h => cTok h) dL_token_15 q381 kX10_addRepeat rfl ⟨by decide, by decide⟩ rfl (Nat.le_of_ble_eq_true rfl) (fun v1 m1 => ?_) (fun E m1 => ?_)
    · exact x_iret rfl dL_token_18 rfl rfl
    · refine mHd.ite (e := 0) (mHd.of (i := 3) (tgt := 19) (nx := 20) ⟨by decide, [], _, _, rfl, (fun _ h => nomatch h), by decide, by decide, q141, rfl⟩ (by decide) (Or.inl ⟨3, rfl, dL_token_19, rfl⟩) ?_) ?_
      · refine x_bipush (pc := 20) (v := -101) dL_token_20 (by decide) ?_
        exact x_iret rfl dL_token_22 rfl rfl
      refine mHd.ite (e := 1) (mHd.of (i := 3) (tgt := 23) (nx := 24) ⟨by decide, [_], _, _, rfl, (fun z hz => by cases List.mem_singleton.mp hz; exact ⟨by decide, 0, by decide, by decide, q141⟩), by decide, by decide, q142, rfl⟩ (by decide) (Or.inl ⟨3, rfl, dL_token_23, rfl⟩) ?_) ?_
      · refine x_bipush (pc := 24) (v := -102) dL_token_24 (by decide) ?_
        exact x_iret rfl dL_token_26 rfl rfl
      exact mHd.no
theorem mL_token (S : mSh) (μ : mMm) (cx cy : Nat) (p0 : Nat) (p1 : Int32) (p2 : Int32) : mMetH ML_token [(0, 18, 19, 128), (0, 18, 23, 130)] [.ref p0, .int p1, .int p2] (S, μ, cx, cy) (iHI S cx cy) (fL_token S μ p0 p1 p2) := mMetH.of rfl (fun _ => rfl) (by decide) rfl (fun h => by cases h) (Nat.le_of_ble_eq_true rfl) (xbL_token p0 p1 p2)
/-! SlideMillsLaw.unpacks(LSlideMills;)I -/
noncomputable def fL_unpacks (S : mSh) (μ : mMm) (p0 : Nat) : Option (Int32 × mMm × Nat) := (cT oS S μ (fX10_unpack oS μ p0)).bind fun r => hTry r (fun v1 m1 => some (v1, m1, 0)) (fun E m1 => (if E = 1 then (some ((-101 : Int32), m1, 1)) else none))
abbrev ML_unpacks : mM := ((yL_unpacks, cL_unpacks, 2, (some .int)), (7, 110), (false, false), RL, eH [(0, 4, 5, 130)])
theorem kL_unpacks : mCalH ML_unpacks [(0, 4, 5, 130)] 1 := ⟨q334, q130, q335, by decide +kernel⟩
set_option maxRecDepth 100000 in
set_option maxHeartbeats 40000000 in
theorem xbL_unpacks {n0 c0 s0 cx cy : Nat} {S : mSh} {μ : mMm} (p0 : Nat) : mX ML_unpacks n0 c0 s0 0 [some (.ref p0), none] [] (S, μ, cx, cy) (iHI S cx cy) (fL_unpacks S μ p0) := by
  unfold fL_unpacks
  refine x_aload_n (pc := 0) dL_unpacks_0 (i := 0) rfl rfl ?_
  refine x_tryT (pc := 1) (As := []) (rest := []) (hh := [(0, 4, 5, 130)]) fcX10 (mFrT rfl (mX10_unpack oS μ cx cy p0)) rfl rfl (fun _ h => cTok h) dL_unpacks_1 q336 kX10_unpack rfl ⟨by decide, by decide⟩ rfl (Nat.le_of_ble_eq_true rfl) (fun v1 m1 => ?_) (fun E m1 => ?_)
  · exact x_iret rfl dL_unpacks_4 rfl rfl
  · refine mHd.ite (e := 1) (mHd.of (i := 1) (tgt := 5) (nx := 6) ⟨by decide, [], _, _, rfl, (fun _ h => nomatch h), by decide, by decide, q142, rfl⟩ (by decide) (Or.inl ⟨1, rfl, dL_unpacks_5, rfl⟩) ?_) ?_
    · refine x_bipush (pc := 6) (v := -101) dL_unpacks_6 (by decide) ?_
      exact x_iret rfl dL_unpacks_8 rfl rfl
    exact mHd.no
theorem mL_unpacks (S : mSh) (μ : mMm) (cx cy : Nat) (p0 : Nat) : mMetH ML_unpacks [(0, 4, 5, 130)] [.ref p0] (S, μ, cx, cy) (iHI S cx cy) (fL_unpacks S μ p0) := mMetH.of rfl (fun _ => rfl) (by decide) rfl (fun h => by cases h) (Nat.le_of_ble_eq_true rfl) (xbL_unpacks p0)
/-! SlideMillsLaw.last(LSlideMills;)I -/
noncomputable def fL_last (S : mSh) (μ : mMm) (p0 : Nat) : Option (Int32 × mMm × Nat) := (cT oS S μ (fX10_takeLast oS μ p0)).bind fun r => hTry r (fun v1 m1 => some (v1, m1, 0)) (fun E m1 => (if E = 1 then (some ((-101 : Int32), m1, 1)) else none))
abbrev ML_last : mM := ((yL_last, cL_last, 2, (some .int)), (7, 110), (false, false), RL, eH [(0, 4, 5, 130)])
theorem kL_last : mCalH ML_last [(0, 4, 5, 130)] 1 := ⟨q386, q130, q387, by decide +kernel⟩
set_option maxRecDepth 100000 in
set_option maxHeartbeats 40000000 in
theorem xbL_last {n0 c0 s0 cx cy : Nat} {S : mSh} {μ : mMm} (p0 : Nat) : mX ML_last n0 c0 s0 0 [some (.ref p0), none] [] (S, μ, cx, cy) (iHI S cx cy) (fL_last S μ p0) := by
  unfold fL_last
  refine x_aload_n (pc := 0) dL_last_0 (i := 0) rfl rfl ?_
  refine x_tryT (pc := 1) (As := []) (rest := []) (hh := [(0, 4, 5, 130)]) fcX10 (mFrT rfl (mX10_takeLast oS μ cx cy p0)) rfl rfl (fun _ h => cTok h) dL_last_1 q388 kX10_takeLast rfl ⟨by decide, by decide⟩ rfl (Nat.le_of_ble_eq_true rfl) (fun v1 m1 => ?_) (fun E m1 => ?_)
  · exact x_iret rfl dL_last_4 rfl rfl
  · refine mHd.ite (e := 1) (mHd.of (i := 1) (tgt := 5) (nx := 6) ⟨by decide, [], _, _, rfl, (fun _ h => nomatch h), by decide, by decide, q142, rfl⟩ (by decide) (Or.inl ⟨1, rfl, dL_last_5, rfl⟩) ?_) ?_
    · refine x_bipush (pc := 6) (v := -101) dL_last_6 (by decide) ?_
      exact x_iret rfl dL_last_8 rfl rfl
    exact mHd.no
theorem mL_last (S : mSh) (μ : mMm) (cx cy : Nat) (p0 : Nat) : mMetH ML_last [(0, 4, 5, 130)] [.ref p0] (S, μ, cx, cy) (iHI S cx cy) (fL_last S μ p0) := mMetH.of rfl (fun _ => rfl) (by decide) rfl (fun h => by cases h) (Nat.le_of_ble_eq_true rfl) (xbL_last p0)
