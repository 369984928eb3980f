/-! printed by gen.py: each method as a function of numbers, and that the machine does what it says -/
/-! SlideMills$State.copyFrom(LSlideMills$State;)V -/
def bX7_copyFrom (S : mSh) (μ : mMm) (o : Nat) (p0 : Nat) : Option (mMm) := (gR S o 7 0).bind fun v1 => (gR S p0 7 0).bind fun v2 => (fX2_copyFrom S μ v1 v2).bind fun m3 => (gR S o 7 1).bind fun v4 => (gR S p0 7 1).bind fun v5 => (fX5_copyFrom S m3 v4 v5).bind fun m6 => (gR S o 7 2).bind fun v7 => (gR S p0 7 2).bind fun v8 => (fX6_copyFrom S m6 v7 v8).bind fun m9 => (gI S m9 p0 7 3).bind fun v10 => (pI S m9 o 7 3 v10).bind fun m11 => (gI S m11 p0 7 4).bind fun v12 => (pI S m11 o 7 4 v12).bind fun m13 => some m13
def fX7_copyFrom (S : mSh) (μ : mMm) (o : Nat) (p0 : Nat) : Option (mMm) := if mok S o 7 = true then bX7_copyFrom S μ o p0 else none
abbrev MX7_copyFrom : mM := ((yX7_copyFrom, cX7_copyFrom, 2, none), (2, 43), (false, false), RX7, eT)
theorem kX7_copyFrom : mCalV MX7_copyFrom RX7 1 := ⟨q160, q161, q12, q162, by decide +kernel⟩
set_option maxHeartbeats 4000000 in
theorem xbX7_copyFrom {n0 c0 s0 cx cy : Nat} {S : mSh} {μ : mMm} (o : Nat) (p0 : Nat) : mX MX7_copyFrom n0 c0 s0 0 [some (.ref o), some (.ref p0)] [] (S, μ, cx, cy) (iMV S cx cy) (bX7_copyFrom S μ o p0) := by
  unfold bX7_copyFrom
  refine x_aload_n (pc := 0) dX7_copyFrom_0 (i := 0) rfl rfl ?_
  refine x_gR (pc := 1) (k := 0) fcX7 dX7_copyFrom_1 q49 (by decide) rfl (fun v1 => ?_)
  refine x_aload_n (pc := 4) dX7_copyFrom_4 (i := 1) rfl rfl ?_
  refine x_gR (pc := 5) (k := 0) fcX7 dX7_copyFrom_5 q49 (by decide) rfl (fun v2 => ?_)
  refine x_callVv (pc := 8) (As := [.ref v2]) (rest := []) (μf := fun a => a) fcX2 (mX2_copyFrom S μ cx cy v1 v2) (fun _ => rfl) rfl (fun _ h => ifok h) dX7_copyFrom_8 q163 kX2_copyFrom rfl ⟨by decide, by decide⟩ rfl (Nat.le_of_ble_eq_true rfl) (fun m3 => ?_)
  refine x_aload_n (pc := 11) dX7_copyFrom_11 (i := 0) rfl rfl ?_
  refine x_gR (pc := 12) (k := 1) fcX7 dX7_copyFrom_12 q51 (by decide) rfl (fun v4 => ?_)
  refine x_aload_n (pc := 15) dX7_copyFrom_15 (i := 1) rfl rfl ?_
  refine x_gR (pc := 16) (k := 1) fcX7 dX7_copyFrom_16 q51 (by decide) rfl (fun v5 => ?_)
  refine x_callVv (pc := 19) (As := [.ref v5]) (rest := []) (μf := fun a => a) fcX5 (mX5_copyFrom S m3 cx cy v4 v5) (fun _ => rfl) rfl (fun _ h => ifok h) dX7_copyFrom_19 q167 kX5_copyFrom rfl ⟨by decide, by decide⟩ rfl (Nat.le_of_ble_eq_true rfl) (fun m6 => ?_)
  refine x_aload_n (pc := 22) dX7_copyFrom_22 (i := 0) rfl rfl ?_
  refine x_gR (pc := 23) (k := 2) fcX7 dX7_copyFrom_23 q55 (by decide) rfl (fun v7 => ?_)
  refine x_aload_n (pc := 26) dX7_copyFrom_26 (i := 1) rfl rfl ?_
  refine x_gR (pc := 27) (k := 2) fcX7 dX7_copyFrom_27 q55 (by decide) rfl (fun v8 => ?_)
  refine x_callVv (pc := 30) (As := [.ref v8]) (rest := []) (μf := fun a => a) fcX6 (mX6_copyFrom S m6 cx cy v7 v8) (fun _ => rfl) rfl (fun _ h => ifok h) dX7_copyFrom_30 q179 kX6_copyFrom rfl ⟨by decide, by decide⟩ rfl (Nat.le_of_ble_eq_true rfl) (fun m9 => ?_)
  refine x_aload_n (pc := 33) dX7_copyFrom_33 (i := 0) rfl rfl ?_
  refine x_aload_n (pc := 34) dX7_copyFrom_34 (i := 1) rfl rfl ?_
  refine x_gI (pc := 35) (k := 3) fcX7 dX7_copyFrom_35 q56 (by decide) rfl (fun v10 => ?_)
  refine x_pI (pc := 38) (k := 3) fcX7 dX7_copyFrom_38 q56 (by decide) rfl rfl rfl rfl (fun m11 => ?_)
  refine x_aload_n (pc := 41) dX7_copyFrom_41 (i := 0) rfl rfl ?_
  refine x_aload_n (pc := 42) dX7_copyFrom_42 (i := 1) rfl rfl ?_
  refine x_gI (pc := 43) (k := 4) fcX7 dX7_copyFrom_43 q57 (by decide) rfl (fun v12 => ?_)
  refine x_pI (pc := 46) (k := 4) fcX7 dX7_copyFrom_46 q57 (by decide) rfl rfl rfl rfl (fun m13 => ?_)
  exact x_ret rfl dX7_copyFrom_49 rfl
theorem mX7_copyFrom (S : mSh) (μ : mMm) (cx cy : Nat) (o : Nat) (p0 : Nat) : mMet MX7_copyFrom [.ref o, .ref p0] (S, μ, cx, cy) (iMV S cx cy) (fX7_copyFrom S μ o p0) := mMet.of rfl (by decide) rfl (fun h => by cases h) (Nat.le_of_ble_eq_true rfl) (mX.ck (fun _ => xbX7_copyFrom o p0))
/-! SlideMills$History.push(LSlideMills$State;)V -/
def lX1_push_63 (S : mSh) (μ : mMm) (x0 : Nat) (t0 : Int32) (t1 : Nat) : Option (mMm) := (pI S μ t1 1 1 t0).bind fun m4 => (gI S m4 x0 1 2).bind fun v5 => if v5 < (6 : Int32) then ((gI S m4 x0 1 2).bind fun v6 => (pI S m4 x0 1 2 (v6 + (1 : Int32))).bind fun m7 => some m7) else ((pI S m4 x0 1 2 (6 : Int32)).bind fun m8 => some m8)
def lX1_push_44 (S : mSh) (μ : mMm) (x0 : Nat) : Option (mMm) := (gI S μ x0 1 1).bind fun v2 => if v2 < (5 : Int32) then ((gI S μ x0 1 1).bind fun v3 => lX1_push_63 S μ x0 (v3 + (1 : Int32)) x0) else (lX1_push_63 S μ x0 (0 : Int32) x0)
def bX1_push (S : mSh) (μ : mMm) (o : Nat) (p0 : Nat) : Option (mMm) := (gI S μ o 1 1).bind fun v1 => if v1 < 0 then (lX1_push_44 S μ o) else ((gI S μ o 1 1).bind fun v9 => (gR S o 1 0).bind fun v10 => (aL S v10 15).bind fun v11 => if v11 ≤ v9 then (lX1_push_44 S μ o) else ((gR S o 1 0).bind fun v12 => (gI S μ o 1 1).bind fun v13 => (ldR S v12 v13).bind fun v14 => (gR S o 1 0).bind fun v15 => (gI S μ o 1 1).bind fun v16 => (ldR S v15 v16).bind fun v17 => (fX7_copyFrom S μ v17 p0).bind fun m18 => lX1_push_44 S m18 o))
def fX1_push (S : mSh) (μ : mMm) (o : Nat) (p0 : Nat) : Option (mMm) := if mok S o 1 = true then bX1_push S μ o p0 else none
abbrev MX1_push : mM := ((yX1_push, cX1_push, 2, none), (3, 64), (false, false), RX1, eT)
theorem kX1_push : mCalV MX1_push RX1 1 := ⟨q156, q157, q18, q158, by decide +kernel⟩
set_option maxHeartbeats 4000000 in
theorem xX1_push_63 {n0 c0 s0 cx cy : Nat} {S : mSh} (μ : mMm) (x0 : Nat) (t0 : Int32) (t1 : Nat) (d1 : Option Value) : mX MX1_push n0 c0 s0 63 [some (.ref x0), d1] [.int t0, .ref t1] (S, μ, cx, cy) (iMV S cx cy) (lX1_push_63 S μ x0 t0 t1) := by
  unfold lX1_push_63
  refine x_pI (pc := 63) (k := 1) fcX1 dX1_push_63 q86 (by decide) rfl rfl rfl rfl (fun m4 => ?_)
  refine x_aload_n (pc := 66) dX1_push_66 (i := 0) rfl rfl ?_
  refine x_aload_n (pc := 67) dX1_push_67 (i := 0) rfl rfl ?_
  refine x_gI (pc := 68) (k := 2) fcX1 dX1_push_68 q87 (by decide) rfl (fun v5 => ?_)
  refine x_bipush (pc := 71) (v := 6) dX1_push_71 (by decide) ?_
  refine x_icmp_lt (pc := 73) (tgt := 81) dX1_push_73 (by decide) ?_ ?_
  · refine x_aload_n (pc := 81) dX1_push_81 (i := 0) rfl rfl ?_
    refine x_gI (pc := 82) (k := 2) fcX1 dX1_push_82 q87 (by decide) rfl (fun v6 => ?_)
    refine x_iconst (pc := 85) (v := 1) dX1_push_85 (by decide) ?_
    refine x_iadd (pc := 86) dX1_push_86 ?_
    refine x_pI (pc := 87) (k := 2) fcX1 dX1_push_87 q87 (by decide) rfl rfl rfl rfl (fun m7 => ?_)
    exact x_ret rfl dX1_push_90 rfl
  · refine x_bipush (pc := 76) (v := 6) dX1_push_76 (by decide) ?_
    refine x_goto (pc := 78) (tgt := 87) dX1_push_78 (by decide) ?_
    refine x_pI (pc := 87) (k := 2) fcX1 dX1_push_87 q87 (by decide) rfl rfl rfl rfl (fun m8 => ?_)
    exact x_ret rfl dX1_push_90 rfl
set_option maxHeartbeats 4000000 in
theorem xX1_push_44 {n0 c0 s0 cx cy : Nat} {S : mSh} (μ : mMm) (x0 : Nat) (d1 : Option Value) : mX MX1_push n0 c0 s0 44 [some (.ref x0), d1] [] (S, μ, cx, cy) (iMV S cx cy) (lX1_push_44 S μ x0) := by
  unfold lX1_push_44
  refine x_aload_n (pc := 44) dX1_push_44 (i := 0) rfl rfl ?_
  refine x_aload_n (pc := 45) dX1_push_45 (i := 0) rfl rfl ?_
  refine x_gI (pc := 46) (k := 1) fcX1 dX1_push_46 q86 (by decide) rfl (fun v2 => ?_)
  refine x_iconst (pc := 49) (v := 5) dX1_push_49 (by decide) ?_
  refine x_icmp_lt (pc := 50) (tgt := 57) dX1_push_50 (by decide) ?_ ?_
  · refine x_aload_n (pc := 57) dX1_push_57 (i := 0) rfl rfl ?_
    refine x_gI (pc := 58) (k := 1) fcX1 dX1_push_58 q86 (by decide) rfl (fun v3 => ?_)
    refine x_iconst (pc := 61) (v := 1) dX1_push_61 (by decide) ?_
    refine x_iadd (pc := 62) dX1_push_62 ?_
    exact xX1_push_63 μ x0 (v3 + (1 : Int32)) x0 _
  · refine x_iconst (pc := 53) (v := 0) dX1_push_53 (by decide) ?_
    refine x_goto (pc := 54) (tgt := 63) dX1_push_54 (by decide) ?_
    exact xX1_push_63 μ x0 (0 : Int32) x0 _
set_option maxHeartbeats 4000000 in
theorem xbX1_push {n0 c0 s0 cx cy : Nat} {S : mSh} {μ : mMm} (o : Nat) (p0 : Nat) : mX MX1_push n0 c0 s0 0 [some (.ref o), some (.ref p0)] [] (S, μ, cx, cy) (iMV S cx cy) (bX1_push S μ o p0) := by
  unfold bX1_push
  refine x_aload_n (pc := 0) dX1_push_0 (i := 0) rfl rfl ?_
  refine x_gI (pc := 1) (k := 1) fcX1 dX1_push_1 q86 (by decide) rfl (fun v1 => ?_)
  refine x_if_lt (pc := 4) (tgt := 44) dX1_push_4 (by decide) ?_ ?_
  · exact xX1_push_44 μ o _
  · refine x_aload_n (pc := 7) dX1_push_7 (i := 0) rfl rfl ?_
    refine x_gI (pc := 8) (k := 1) fcX1 dX1_push_8 q86 (by decide) rfl (fun v9 => ?_)
    refine x_aload_n (pc := 11) dX1_push_11 (i := 0) rfl rfl ?_
    refine x_gR (pc := 12) (k := 0) fcX1 dX1_push_12 q85 (by decide) rfl (fun v10 => ?_)
    refine x_aLR (pc := 15) dX1_push_15 (fun v11 => ?_)
    refine x_icmp_ge (pc := 16) (tgt := 44) dX1_push_16 (by decide) ?_ ?_
    · exact xX1_push_44 μ o _
    · refine x_aload_n (pc := 19) dX1_push_19 (i := 0) rfl rfl ?_
      refine x_gR (pc := 20) (k := 0) fcX1 dX1_push_20 q85 (by decide) rfl (fun v12 => ?_)
      refine x_aload_n (pc := 23) dX1_push_23 (i := 0) rfl rfl ?_
      refine x_gI (pc := 24) (k := 1) fcX1 dX1_push_24 q86 (by decide) rfl (fun v13 => ?_)
      refine x_ldR (pc := 27) dX1_push_27 (fun v14 => ?_)
      refine x_ifnull (pc := 28) dX1_push_28 ?_
      refine x_aload_n (pc := 31) dX1_push_31 (i := 0) rfl rfl ?_
      refine x_gR (pc := 32) (k := 0) fcX1 dX1_push_32 q85 (by decide) rfl (fun v15 => ?_)
      refine x_aload_n (pc := 35) dX1_push_35 (i := 0) rfl rfl ?_
      refine x_gI (pc := 36) (k := 1) fcX1 dX1_push_36 q86 (by decide) rfl (fun v16 => ?_)
      refine x_ldR (pc := 39) dX1_push_39 (fun v17 => ?_)
      refine x_aload_n (pc := 40) dX1_push_40 (i := 1) rfl rfl ?_
      refine x_callVv (pc := 41) (As := [.ref p0]) (rest := []) (μf := fun a => a) fcX7 (mX7_copyFrom S μ cx cy v17 p0) (fun _ => rfl) rfl (fun _ h => ifok h) dX1_push_41 q159 kX7_copyFrom rfl ⟨by decide, by decide⟩ rfl (Nat.le_of_ble_eq_true rfl) (fun m18 => ?_)
      exact xX1_push_44 m18 o _
theorem mX1_push (S : mSh) (μ : mMm) (cx cy : Nat) (o : Nat) (p0 : Nat) : mMet MX1_push [.ref o, .ref p0] (S, μ, cx, cy) (iMV S cx cy) (fX1_push S μ o p0) := mMet.of rfl (by decide) rfl (fun h => by cases h) (Nat.le_of_ble_eq_true rfl) (mX.ck (fun _ => xbX1_push o p0))
/-! SlideMills$Mill.alike(II)I -/
def lX3_alike_48 (S : mSh) (μ : mMm) : Nat → Int32 → Int32 → Nat → Int32 → Int32 → Option (Int32)
  | 0, _, _, _, _, _ => none
  | n + 1, x1, x2, x3, x4, x5 => if x4 ≤ x5 then (some (x5 - x1)) else ((ldI S μ x3 x5).bind fun v8 => (ldI S μ x3 (x5 - x2)).bind fun v9 => if v8 = v9 then (lX3_alike_48 S μ n x1 x2 x3 x4 (x5 + (1 : Int32))) else (some (x5 - x1)))
def bX3_alike (S : mSh) (μ : mMm) (o : Nat) (p0 : Int32) (p1 : Int32) : Option (Int32) := if p1 < 0 then (some (0 : Int32)) else (if p1 ≤ p0 then ((gR S o 3 0).bind fun v1 => (gR S v1 2 0).bind fun v2 => (gR S o 3 1).bind fun v3 => (gI S μ v3 6 2).bind fun v4 => (gR S o 3 0).bind fun v5 => (gI S μ v5 2 1).bind fun v6 => (aL S v2 12).bind fun v7 => lX3_alike_48 S μ FU p0 p1 v2 (mMin (mMin (p0 + v4) v6) v7) p0) else (some (0 : Int32)))
def fX3_alike (S : mSh) (μ : mMm) (o : Nat) (p0 : Int32) (p1 : Int32) : Option (Int32) := if mok S o 3 = true then bX3_alike S μ o p0 p1 else none
abbrev MX3_alike : mM := ((yX3_alike, cX3_alike, 6, (some .int)), (1, 21), (false, false), RX3, eT)
theorem kX3_alike : mCalV MX3_alike RX3 2 := ⟨q301, q302, q26, q303, by decide +kernel⟩
set_option maxHeartbeats 4000000 in
theorem xX3_alike_48 {n0 c0 s0 cx cy : Nat} {S : mSh} {μ : mMm} : ∀ (n : Nat) (x1 : Int32) (x2 : Int32) (x3 : Nat) (x4 : Int32) (x5 : Int32) (d0 : Option Value), mX MX3_alike n0 c0 s0 48 [d0, some (.int x1), some (.int x2), some (.ref x3), some (.int x4), some (.int x5)] [] (S, μ, cx, cy) (iPI S μ cx cy) (lX3_alike_48 S μ n x1 x2 x3 x4 x5) := by
  intro n
  induction n with
  | zero => intros; exact x_none
  | succ n ih =>
    intro x1 x2 x3 x4 x5 d0
    unfold lX3_alike_48
    refine x_iload (pc := 48) dX3_alike_48 rfl ?_
    refine x_iload (pc := 50) dX3_alike_50 rfl ?_
    refine x_icmp_ge (pc := 52) (tgt := 74) dX3_alike_52 (by decide) ?_ ?_
    · refine x_iload (pc := 74) dX3_alike_74 rfl ?_
      refine x_iload_n (pc := 76) dX3_alike_76 (i := 1) rfl rfl ?_
      refine x_isub (pc := 77) dX3_alike_77 ?_
      exact x_iret rfl dX3_alike_78 rfl rfl
    · refine x_aload_n (pc := 55) dX3_alike_55 (i := 3) rfl rfl ?_
      refine x_iload (pc := 56) dX3_alike_56 rfl ?_
      refine x_ldI (pc := 58) dX3_alike_58 (fun v8 => ?_)
      refine x_aload_n (pc := 59) dX3_alike_59 (i := 3) rfl rfl ?_
      refine x_iload (pc := 60) dX3_alike_60 rfl ?_
      refine x_iload_n (pc := 62) dX3_alike_62 (i := 2) rfl rfl ?_
      refine x_isub (pc := 63) dX3_alike_63 ?_
      refine x_ldI (pc := 64) dX3_alike_64 (fun v9 => ?_)
      refine x_icmp_ne (pc := 65) (tgt := 74) dX3_alike_65 (by decide) ?_ ?_
      · refine x_iinc (pc := 68) (v := x5 + (1 : Int32)) dX3_alike_68 rfl (by rw [show Int32.ofInt (1) = (1 : Int32) from by decide]) (by decide) (l' := [d0, some (.int x1), some (.int x2), some (.ref x3), some (.int x4), some (.int (x5 + (1 : Int32)))]) rfl ?_
        refine x_goto (pc := 71) (tgt := 48) dX3_alike_71 (by decide) ?_
        exact ih x1 x2 x3 x4 (x5 + (1 : Int32)) _
      · refine x_iload (pc := 74) dX3_alike_74 rfl ?_
        refine x_iload_n (pc := 76) dX3_alike_76 (i := 1) rfl rfl ?_
        refine x_isub (pc := 77) dX3_alike_77 ?_
        exact x_iret rfl dX3_alike_78 rfl rfl
set_option maxHeartbeats 4000000 in
theorem xbX3_alike {n0 c0 s0 cx cy : Nat} {S : mSh} {μ : mMm} (o : Nat) (p0 : Int32) (p1 : Int32) : mX MX3_alike n0 c0 s0 0 [some (.ref o), some (.int p0), some (.int p1), none, none, none] [] (S, μ, cx, cy) (iPI S μ cx cy) (bX3_alike S μ o p0 p1) := by
  unfold bX3_alike
  refine x_iload_n (pc := 0) dX3_alike_0 (i := 2) rfl rfl ?_
  refine x_if_lt (pc := 1) (tgt := 9) dX3_alike_1 (by decide) ?_ ?_
  · refine x_iconst (pc := 9) (v := 0) dX3_alike_9 (by decide) ?_
    exact x_iret rfl dX3_alike_10 rfl rfl
  · refine x_iload_n (pc := 4) dX3_alike_4 (i := 2) rfl rfl ?_
    refine x_iload_n (pc := 5) dX3_alike_5 (i := 1) rfl rfl ?_
    refine x_icmp_le (pc := 6) (tgt := 11) dX3_alike_6 (by decide) ?_ ?_
    · refine x_aload_n (pc := 11) dX3_alike_11 (i := 0) rfl rfl ?_
      refine x_gR (pc := 12) (k := 0) fcX3 dX3_alike_12 q99 (by decide) rfl (fun v1 => ?_)
      refine x_gR (pc := 15) (k := 0) fcX2 dX3_alike_15 q304 (by decide) rfl (fun v2 => ?_)
      refine x_astore_n (pc := 18) dX3_alike_18 (i := 3) rfl (by decide) (l' := [some (.ref o), some (.int p0), some (.int p1), some (.ref v2), none, none]) rfl ?_
      refine x_iload_n (pc := 19) dX3_alike_19 (i := 1) rfl rfl ?_
      refine x_aload_n (pc := 20) dX3_alike_20 (i := 0) rfl rfl ?_
      refine x_gR (pc := 21) (k := 1) fcX3 dX3_alike_21 q100 (by decide) rfl (fun v3 => ?_)
      refine x_gI (pc := 24) (k := 2) fcX6 dX3_alike_24 q305 (by decide) rfl (fun v4 => ?_)
      refine x_iadd (pc := 27) dX3_alike_27 ?_
      refine x_aload_n (pc := 28) dX3_alike_28 (i := 0) rfl rfl ?_
      refine x_gR (pc := 29) (k := 0) fcX3 dX3_alike_29 q99 (by decide) rfl (fun v5 => ?_)
      refine x_gI (pc := 32) (k := 1) fcX2 dX3_alike_32 q306 (by decide) rfl (fun v6 => ?_)
      refine x_min (pc := 35) dX3_alike_35 q307 q284 q285 q286 ⟨by decide, by decide⟩ (Nat.le_of_ble_eq_true rfl) ?_
      refine x_aload_n (pc := 38) dX3_alike_38 (i := 3) rfl rfl ?_
      refine x_aL (pc := 39) dX3_alike_39 (fun v7 => ?_)
      refine x_min (pc := 40) dX3_alike_40 q307 q284 q285 q286 ⟨by decide, by decide⟩ (Nat.le_of_ble_eq_true rfl) ?_
      refine x_istore (pc := 43) dX3_alike_43 (by decide) (l' := [some (.ref o), some (.int p0), some (.int p1), some (.ref v2), some (.int (mMin (mMin (p0 + v4) v6) v7)), none]) rfl ?_
      refine x_iload_n (pc := 45) dX3_alike_45 (i := 1) rfl rfl ?_
      refine x_istore (pc := 46) dX3_alike_46 (by decide) (l' := [some (.ref o), some (.int p0), some (.int p1), some (.ref v2), some (.int (mMin (mMin (p0 + v4) v6) v7)), some (.int p0)]) rfl ?_
      exact xX3_alike_48 FU p0 p1 v2 (mMin (mMin (p0 + v4) v6) v7) p0 _
    · refine x_iconst (pc := 9) (v := 0) dX3_alike_9 (by decide) ?_
      exact x_iret rfl dX3_alike_10 rfl rfl
theorem mX3_alike (S : mSh) (μ : mMm) (cx cy : Nat) (o : Nat) (p0 : Int32) (p1 : Int32) : mMet MX3_alike [.ref o, .int p0, .int p1] (S, μ, cx, cy) (iPI S μ cx cy) (fX3_alike S μ o p0 p1) := mMet.of rfl (by decide) rfl (fun h => by cases h) (Nat.le_of_ble_eq_true rfl) (mX.ck (fun _ => xbX3_alike o p0 p1))
/-! SlideMills$Mill.longestAt(II)I -/
def lX3_longestAt_47 (k5 : Nat → Int32 → Int32 → Int32 → Int32 → Option (Int32)) (S : mSh) (μ : mMm) (x0 : Nat) (x1 : Int32) (x2 : Int32) (x3 : Int32) (x4 : Int32) : Option (Int32) := k5 x0 x1 x2 x3 (x4 + (1 : Int32))
def lX3_longestAt_5 (S : mSh) (μ : mMm) : Nat → Nat → Int32 → Int32 → Int32 → Int32 → Option (Int32)
  | 0, _, _, _, _, _ => none
  | n + 1, x0, x1, x2, x3, x4 => if x2 < x4 then (some x3) else (if x1 < x4 then (some x3) else ((fX3_alike S μ x0 x1 x4).bind fun v1 => (gR S x0 3 1).bind fun v2 => (gI S μ v2 6 1).bind fun v3 => if v1 < v3 then (lX3_longestAt_47 (lX3_longestAt_5 S μ n) S μ x0 x1 x2 x3 x4) else (if v1 ≤ x3 then (lX3_longestAt_47 (lX3_longestAt_5 S μ n) S μ x0 x1 x2 x3 x4) else (lX3_longestAt_47 (lX3_longestAt_5 S μ n) S μ x0 x1 x2 v1 x4))))
def bX3_longestAt (S : mSh) (μ : mMm) (o : Nat) (p0 : Int32) (p1 : Int32) : Option (Int32) := lX3_longestAt_5 S μ FU o p0 p1 (0 : Int32) (1 : Int32)
def fX3_longestAt (S : mSh) (μ : mMm) (o : Nat) (p0 : Int32) (p1 : Int32) : Option (Int32) := if mok S o 3 = true then bX3_longestAt S μ o p0 p1 else none
abbrev MX3_longestAt : mM := ((yX3_longestAt, cX3_longestAt, 6, (some .int)), (2, 46), (false, false), RX3, eT)
theorem kX3_longestAt : mCalV MX3_longestAt RX3 2 := ⟨q296, q297, q26, q298, by decide +kernel⟩
set_option maxHeartbeats 4000000 in
theorem xX3_longestAt_47 {n0 c0 s0 cx cy : Nat} {S : mSh} {μ : mMm} {k5 : Nat → Int32 → Int32 → Int32 → Int32 → Option (Int32)} (hk5 : ∀ (x0 : Nat) (x1 : Int32) (x2 : Int32) (x3 : Int32) (x4 : Int32) (d5 : Option Value), mX MX3_longestAt n0 c0 s0 5 [some (.ref x0), some (.int x1), some (.int x2), some (.int x3), some (.int x4), d5] [] (S, μ, cx, cy) (iPI S μ cx cy) (k5 x0 x1 x2 x3 x4)) (x0 : Nat) (x1 : Int32) (x2 : Int32) (x3 : Int32) (x4 : Int32) (d5 : Option Value) : mX MX3_longestAt n0 c0 s0 47 [some (.ref x0), some (.int x1), some (.int x2), some (.int x3), some (.int x4), d5] [] (S, μ, cx, cy) (iPI S μ cx cy) (lX3_longestAt_47 k5 S μ x0 x1 x2 x3 x4) := by
  unfold lX3_longestAt_47
  refine x_iinc (pc := 47) (v := x4 + (1 : Int32)) dX3_longestAt_47 rfl (by rw [show Int32.ofInt (1) = (1 : Int32) from by decide]) (by decide) (l' := [some (.ref x0), some (.int x1), some (.int x2), some (.int x3), some (.int (x4 + (1 : Int32))), d5]) rfl ?_
  refine x_goto (pc := 50) (tgt := 5) dX3_longestAt_50 (by decide) ?_
  exact hk5 x0 x1 x2 x3 (x4 + (1 : Int32)) _
set_option maxHeartbeats 4000000 in
theorem xX3_longestAt_5 {n0 c0 s0 cx cy : Nat} {S : mSh} {μ : mMm} : ∀ (n : Nat) (x0 : Nat) (x1 : Int32) (x2 : Int32) (x3 : Int32) (x4 : Int32) (d5 : Option Value), mX MX3_longestAt n0 c0 s0 5 [some (.ref x0), some (.int x1), some (.int x2), some (.int x3), some (.int x4), d5] [] (S, μ, cx, cy) (iPI S μ cx cy) (lX3_longestAt_5 S μ n x0 x1 x2 x3 x4) := by
  intro n
  induction n with
  | zero => intros; exact x_none
  | succ n ih =>
    intro x0 x1 x2 x3 x4 d5
    unfold lX3_longestAt_5
    refine x_iload (pc := 5) dX3_longestAt_5 rfl ?_
    refine x_iload_n (pc := 7) dX3_longestAt_7 (i := 2) rfl rfl ?_
    refine x_icmp_gt (pc := 8) (tgt := 53) dX3_longestAt_8 (by decide) ?_ ?_
    · refine x_iload_n (pc := 53) dX3_longestAt_53 (i := 3) rfl rfl ?_
      exact x_iret rfl dX3_longestAt_54 rfl rfl
    · refine x_iload (pc := 11) dX3_longestAt_11 rfl ?_
      refine x_iload_n (pc := 13) dX3_longestAt_13 (i := 1) rfl rfl ?_
      refine x_icmp_gt (pc := 14) (tgt := 53) dX3_longestAt_14 (by decide) ?_ ?_
      · refine x_iload_n (pc := 53) dX3_longestAt_53 (i := 3) rfl rfl ?_
        exact x_iret rfl dX3_longestAt_54 rfl rfl
      · refine x_aload_n (pc := 17) dX3_longestAt_17 (i := 0) rfl rfl ?_
        refine x_iload_n (pc := 18) dX3_longestAt_18 (i := 1) rfl rfl ?_
        refine x_iload (pc := 19) dX3_longestAt_19 rfl ?_
        refine x_callVi (pc := 21) (As := [.int x1, .int x4]) (rest := []) (vx := fun a => a) (μf := fun _ => μ) fcX3 (mX3_alike S μ cx cy x0 x1 x4) (fun _ => rfl) rfl (fun _ h => ifok h) dX3_longestAt_21 q300 kX3_alike rfl ⟨by decide, by decide⟩ rfl (Nat.le_of_ble_eq_true rfl) (fun v1 => ?_)
        refine x_istore (pc := 24) dX3_longestAt_24 (by decide) (l' := [some (.ref x0), some (.int x1), some (.int x2), some (.int x3), some (.int x4), some (.int v1)]) rfl ?_
        refine x_iload (pc := 26) dX3_longestAt_26 rfl ?_
        refine x_aload_n (pc := 28) dX3_longestAt_28 (i := 0) rfl rfl ?_
        refine x_gR (pc := 29) (k := 1) fcX3 dX3_longestAt_29 q100 (by decide) rfl (fun v2 => ?_)
        refine x_gI (pc := 32) (k := 1) fcX6 dX3_longestAt_32 q299 (by decide) rfl (fun v3 => ?_)
        refine x_icmp_lt (pc := 35) (tgt := 47) dX3_longestAt_35 (by decide) ?_ ?_
        · exact xX3_longestAt_47 (k5 := (lX3_longestAt_5 S μ n)) ih x0 x1 x2 x3 x4 _
        · refine x_iload (pc := 38) dX3_longestAt_38 rfl ?_
          refine x_iload_n (pc := 40) dX3_longestAt_40 (i := 3) rfl rfl ?_
          refine x_icmp_le (pc := 41) (tgt := 47) dX3_longestAt_41 (by decide) ?_ ?_
          · exact xX3_longestAt_47 (k5 := (lX3_longestAt_5 S μ n)) ih x0 x1 x2 x3 x4 _
          · refine x_iload (pc := 44) dX3_longestAt_44 rfl ?_
            refine x_istore_n (pc := 46) dX3_longestAt_46 (i := 3) rfl (by decide) (l' := [some (.ref x0), some (.int x1), some (.int x2), some (.int v1), some (.int x4), some (.int v1)]) rfl ?_
            exact xX3_longestAt_47 (k5 := (lX3_longestAt_5 S μ n)) ih x0 x1 x2 v1 x4 _
set_option maxHeartbeats 4000000 in
theorem xbX3_longestAt {n0 c0 s0 cx cy : Nat} {S : mSh} {μ : mMm} (o : Nat) (p0 : Int32) (p1 : Int32) : mX MX3_longestAt n0 c0 s0 0 [some (.ref o), some (.int p0), some (.int p1), none, none, none] [] (S, μ, cx, cy) (iPI S μ cx cy) (bX3_longestAt S μ o p0 p1) := by
  unfold bX3_longestAt
  refine x_iconst (pc := 0) (v := 0) dX3_longestAt_0 (by decide) ?_
  refine x_istore_n (pc := 1) dX3_longestAt_1 (i := 3) rfl (by decide) (l' := [some (.ref o), some (.int p0), some (.int p1), some (.int (0 : Int32)), none, none]) rfl ?_
  refine x_iconst (pc := 2) (v := 1) dX3_longestAt_2 (by decide) ?_
  refine x_istore (pc := 3) dX3_longestAt_3 (by decide) (l' := [some (.ref o), some (.int p0), some (.int p1), some (.int (0 : Int32)), some (.int (1 : Int32)), none]) rfl ?_
  exact xX3_longestAt_5 FU o p0 p1 (0 : Int32) (1 : Int32) _
theorem mX3_longestAt (S : mSh) (μ : mMm) (cx cy : Nat) (o : Nat) (p0 : Int32) (p1 : Int32) : mMet MX3_longestAt [.ref o, .int p0, .int p1] (S, μ, cx, cy) (iPI S μ cx cy) (fX3_longestAt S μ o p0 p1) := mMet.of rfl (by decide) rfl (fun h => by cases h) (Nat.le_of_ble_eq_true rfl) (mX.ck (fun _ => xbX3_longestAt o p0 p1))
/-! SlideMills$Mill.longestByPairs(I)I -/
def lX3_longestByPairs_89 (k29 : Nat → Int32 → Int32 → Int32 → Int32 → Option (Int32)) (S : mSh) (μ : mMm) (x0 : Nat) (x1 : Int32) (x2 : Int32) (x3 : Int32) (x4 : Int32) : Option (Int32) := (gR S x0 3 2).bind fun v9 => (fX0_earlierPlace S μ v9 x3).bind fun v10 => k29 x0 x1 x2 v10 (x4 + (1 : Int32))
def lX3_longestByPairs_66 (k29 : Nat → Int32 → Int32 → Int32 → Int32 → Option (Int32)) (S : mSh) (μ : mMm) (x0 : Nat) (x1 : Int32) (x2 : Int32) (x3 : Int32) (x4 : Int32) (t0 : Int32) : Option (Int32) := (gR S x0 3 1).bind fun v7 => (gI S μ v7 6 1).bind fun v8 => if t0 < v8 then (lX3_longestByPairs_89 k29 S μ x0 x1 x2 x3 x4) else (if t0 ≤ x2 then (lX3_longestByPairs_89 k29 S μ x0 x1 x2 x3 x4) else (lX3_longestByPairs_89 k29 S μ x0 x1 t0 x3 x4))
def lX3_longestByPairs_29 (S : mSh) (μ : mMm) : Nat → Nat → Int32 → Int32 → Int32 → Int32 → Option (Int32)
  | 0, _, _, _, _, _ => none
  | n + 1, x0, x1, x2, x3, x4 => if (40 : Int32) ≤ x4 then (some x2) else (if x3 = (-1 : Int32) then (some x2) else ((gR S x0 3 1).bind fun v5 => (gI S μ v5 6 0).bind fun v6 => if v6 < (x1 - x3) then (lX3_longestByPairs_66 (lX3_longestByPairs_29 S μ n) S μ x0 x1 x2 x3 x4 (0 : Int32)) else ((fX3_alike S μ x0 x1 (x1 - x3)).bind fun v11 => lX3_longestByPairs_66 (lX3_longestByPairs_29 S μ n) S μ x0 x1 x2 x3 x4 v11)))
def bX3_longestByPairs (S : mSh) (μ : mMm) (o : Nat) (p0 : Int32) : Option (Int32) := (gR S o 3 0).bind fun v1 => (gI S μ v1 2 1).bind fun v2 => if (p0 + (1 : Int32)) < v2 then ((gR S o 3 2).bind fun v3 => (fX0_earlierPlace S μ v3 p0).bind fun v4 => lX3_longestByPairs_29 S μ FU o p0 (0 : Int32) v4 (0 : Int32)) else (some (0 : Int32))
def fX3_longestByPairs (S : mSh) (μ : mMm) (o : Nat) (p0 : Int32) : Option (Int32) := if mok S o 3 = true then bX3_longestByPairs S μ o p0 else none
abbrev MX3_longestByPairs : mM := ((yX3_longestByPairs, cX3_longestByPairs, 6, (some .int)), (2, 46), (false, false), RX3, eT)
theorem kX3_longestByPairs : mCalV MX3_longestByPairs RX3 1 := ⟨q501, q502, q26, q503, by decide +kernel⟩
set_option maxHeartbeats 4000000 in
theorem xX3_longestByPairs_89 {n0 c0 s0 cx cy : Nat} {S : mSh} {μ : mMm} {k29 : Nat → Int32 → Int32 → Int32 → Int32 → Option (Int32)} (hk29 : ∀ (x0 : Nat) (x1 : Int32) (x2 : Int32) (x3 : Int32) (x4 : Int32) (d5 : Option Value), mX MX3_longestByPairs n0 c0 s0 29 [some (.ref x0), some (.int x1), some (.int x2), some (.int x3), some (.int x4), d5] [] (S, μ, cx, cy) (iPI S μ cx cy) (k29 x0 x1 x2 x3 x4)) (x0 : Nat) (x1 : Int32) (x2 : Int32) (x3 : Int32) (x4 : Int32) (d5 : Option Value) : mX MX3_longestByPairs n0 c0 s0 89 [some (.ref x0), some (.int x1), some (.int x2), some (.int x3), some (.int x4), d5] [] (S, μ, cx, cy) (iPI S μ cx cy) (lX3_longestByPairs_89 k29 S μ x0 x1 x2 x3 x4) := by
  unfold lX3_longestByPairs_89
  refine x_aload_n (pc := 89) dX3_longestByPairs_89 (i := 0) rfl rfl ?_
  refine x_gR (pc := 90) (k := 2) fcX3 dX3_longestByPairs_90 q104 (by decide) rfl (fun v9 => ?_)
  refine x_iload_n (pc := 93) dX3_longestByPairs_93 (i := 3) rfl rfl ?_
  refine x_callVi (pc := 94) (As := [.int x3]) (rest := []) (vx := fun a => a) (μf := fun _ => μ) fcX0 (mX0_earlierPlace S μ cx cy v9 x3) (fun _ => rfl) rfl (fun _ h => ifok h) dX3_longestByPairs_94 q504 kX0_earlierPlace rfl ⟨by decide, by decide⟩ rfl (Nat.le_of_ble_eq_true rfl) (fun v10 => ?_)
  refine x_istore_n (pc := 97) dX3_longestByPairs_97 (i := 3) rfl (by decide) (l' := [some (.ref x0), some (.int x1), some (.int x2), some (.int v10), some (.int x4), d5]) rfl ?_
  refine x_iinc (pc := 98) (v := x4 + (1 : Int32)) dX3_longestByPairs_98 rfl (by rw [show Int32.ofInt (1) = (1 : Int32) from by decide]) (by decide) (l' := [some (.ref x0), some (.int x1), some (.int x2), some (.int v10), some (.int (x4 + (1 : Int32))), d5]) rfl ?_
  refine x_goto (pc := 101) (tgt := 29) dX3_longestByPairs_101 (by decide) ?_
  exact hk29 x0 x1 x2 v10 (x4 + (1 : Int32)) _
set_option maxHeartbeats 4000000 in
theorem xX3_longestByPairs_66 {n0 c0 s0 cx cy : Nat} {S : mSh} {μ : mMm} {k29 : Nat → Int32 → Int32 → Int32 → Int32 → Option (Int32)} (hk29 : ∀ (x0 : Nat) (x1 : Int32) (x2 : Int32) (x3 : Int32) (x4 : Int32) (d5 : Option Value), mX MX3_longestByPairs n0 c0 s0 29 [some (.ref x0), some (.int x1), some (.int x2), some (.int x3), some (.int x4), d5] [] (S, μ, cx, cy) (iPI S μ cx cy) (k29 x0 x1 x2 x3 x4)) (x0 : Nat) (x1 : Int32) (x2 : Int32) (x3 : Int32) (x4 : Int32) (t0 : Int32) (d5 : Option Value) : mX MX3_longestByPairs n0 c0 s0 66 [some (.ref x0), some (.int x1), some (.int x2), some (.int x3), some (.int x4), d5] [.int t0] (S, μ, cx, cy) (iPI S μ cx cy) (lX3_longestByPairs_66 k29 S μ x0 x1 x2 x3 x4 t0) := by
  unfold lX3_longestByPairs_66
  refine x_istore (pc := 66) dX3_longestByPairs_66 (by decide) (l' := [some (.ref x0), some (.int x1), some (.int x2), some (.int x3), some (.int x4), some (.int t0)]) rfl ?_
  refine x_iload (pc := 68) dX3_longestByPairs_68 rfl ?_
  refine x_aload_n (pc := 70) dX3_longestByPairs_70 (i := 0) rfl rfl ?_
  refine x_gR (pc := 71) (k := 1) fcX3 dX3_longestByPairs_71 q100 (by decide) rfl (fun v7 => ?_)
  refine x_gI (pc := 74) (k := 1) fcX6 dX3_longestByPairs_74 q299 (by decide) rfl (fun v8 => ?_)
  refine x_icmp_lt (pc := 77) (tgt := 89) dX3_longestByPairs_77 (by decide) ?_ ?_
  · exact xX3_longestByPairs_89 (k29 := k29) hk29 x0 x1 x2 x3 x4 _
  · refine x_iload (pc := 80) dX3_longestByPairs_80 rfl ?_
    refine x_iload_n (pc := 82) dX3_longestByPairs_82 (i := 2) rfl rfl ?_
    refine x_icmp_le (pc := 83) (tgt := 89) dX3_longestByPairs_83 (by decide) ?_ ?_
    · exact xX3_longestByPairs_89 (k29 := k29) hk29 x0 x1 x2 x3 x4 _
    · refine x_iload (pc := 86) dX3_longestByPairs_86 rfl ?_
      refine x_istore_n (pc := 88) dX3_longestByPairs_88 (i := 2) rfl (by decide) (l' := [some (.ref x0), some (.int x1), some (.int t0), some (.int x3), some (.int x4), some (.int t0)]) rfl ?_
      exact xX3_longestByPairs_89 (k29 := k29) hk29 x0 x1 t0 x3 x4 _
set_option maxHeartbeats 4000000 in
theorem xX3_longestByPairs_29 {n0 c0 s0 cx cy : Nat} {S : mSh} {μ : mMm} : ∀ (n : Nat) (x0 : Nat) (x1 : Int32) (x2 : Int32) (x3 : Int32) (x4 : Int32) (d5 : Option Value), mX MX3_longestByPairs n0 c0 s0 29 [some (.ref x0), some (.int x1), some (.int x2), some (.int x3), some (.int x4), d5] [] (S, μ, cx, cy) (iPI S μ cx cy) (lX3_longestByPairs_29 S μ n x0 x1 x2 x3 x4) := by
  intro n
  induction n with
  | zero => intros; exact x_none
  | succ n ih =>
    intro x0 x1 x2 x3 x4 d5
    unfold lX3_longestByPairs_29
    refine x_iload (pc := 29) dX3_longestByPairs_29 rfl ?_
    refine x_bipush (pc := 31) (v := 40) dX3_longestByPairs_31 (by decide) ?_
    refine x_icmp_ge (pc := 33) (tgt := 104) dX3_longestByPairs_33 (by decide) ?_ ?_
    · refine x_iload_n (pc := 104) dX3_longestByPairs_104 (i := 2) rfl rfl ?_
      exact x_iret rfl dX3_longestByPairs_105 rfl rfl
    · refine x_iload_n (pc := 36) dX3_longestByPairs_36 (i := 3) rfl rfl ?_
      refine x_iconst (pc := 37) (v := -1) dX3_longestByPairs_37 (by decide) ?_
      refine x_icmp_eq (pc := 38) (tgt := 104) dX3_longestByPairs_38 (by decide) ?_ ?_
      · refine x_iload_n (pc := 104) dX3_longestByPairs_104 (i := 2) rfl rfl ?_
        exact x_iret rfl dX3_longestByPairs_105 rfl rfl
      · refine x_iload_n (pc := 41) dX3_longestByPairs_41 (i := 1) rfl rfl ?_
        refine x_iload_n (pc := 42) dX3_longestByPairs_42 (i := 3) rfl rfl ?_
        refine x_isub (pc := 43) dX3_longestByPairs_43 ?_
        refine x_aload_n (pc := 44) dX3_longestByPairs_44 (i := 0) rfl rfl ?_
        refine x_gR (pc := 45) (k := 1) fcX3 dX3_longestByPairs_45 q100 (by decide) rfl (fun v5 => ?_)
        refine x_gI (pc := 48) (k := 0) fcX6 dX3_longestByPairs_48 q325 (by decide) rfl (fun v6 => ?_)
        refine x_icmp_gt (pc := 51) (tgt := 65) dX3_longestByPairs_51 (by decide) ?_ ?_
        · refine x_iconst (pc := 65) (v := 0) dX3_longestByPairs_65 (by decide) ?_
          exact xX3_longestByPairs_66 (k29 := (lX3_longestByPairs_29 S μ n)) ih x0 x1 x2 x3 x4 (0 : Int32) _
        · refine x_aload_n (pc := 54) dX3_longestByPairs_54 (i := 0) rfl rfl ?_
          refine x_iload_n (pc := 55) dX3_longestByPairs_55 (i := 1) rfl rfl ?_
          refine x_iload_n (pc := 56) dX3_longestByPairs_56 (i := 1) rfl rfl ?_
          refine x_iload_n (pc := 57) dX3_longestByPairs_57 (i := 3) rfl rfl ?_
          refine x_isub (pc := 58) dX3_longestByPairs_58 ?_
          refine x_callVi (pc := 59) (As := [.int x1, .int (x1 - x3)]) (rest := []) (vx := fun a => a) (μf := fun _ => μ) fcX3 (mX3_alike S μ cx cy x0 x1 (x1 - x3)) (fun _ => rfl) rfl (fun _ h => ifok h) dX3_longestByPairs_59 q300 kX3_alike rfl ⟨by decide, by decide⟩ rfl (Nat.le_of_ble_eq_true rfl) (fun v11 => ?_)
          refine x_goto (pc := 62) (tgt := 66) dX3_longestByPairs_62 (by decide) ?_
          exact xX3_longestByPairs_66 (k29 := (lX3_longestByPairs_29 S μ n)) ih x0 x1 x2 x3 x4 v11 _
set_option maxHeartbeats 4000000 in
theorem xbX3_longestByPairs {n0 c0 s0 cx cy : Nat} {S : mSh} {μ : mMm} (o : Nat) (p0 : Int32) : mX MX3_longestByPairs n0 c0 s0 0 [some (.ref o), some (.int p0), none, none, none, none] [] (S, μ, cx, cy) (iPI S μ cx cy) (bX3_longestByPairs S μ o p0) := by
  unfold bX3_longestByPairs
  refine x_iload_n (pc := 0) dX3_longestByPairs_0 (i := 1) rfl rfl ?_
  refine x_iconst (pc := 1) (v := 1) dX3_longestByPairs_1 (by decide) ?_
  refine x_iadd (pc := 2) dX3_longestByPairs_2 ?_
  refine x_aload_n (pc := 3) dX3_longestByPairs_3 (i := 0) rfl rfl ?_
  refine x_gR (pc := 4) (k := 0) fcX3 dX3_longestByPairs_4 q99 (by decide) rfl (fun v1 => ?_)
  refine x_gI (pc := 7) (k := 1) fcX2 dX3_longestByPairs_7 q306 (by decide) rfl (fun v2 => ?_)
  refine x_icmp_lt (pc := 10) (tgt := 15) dX3_longestByPairs_10 (by decide) ?_ ?_
  · refine x_iconst (pc := 15) (v := 0) dX3_longestByPairs_15 (by decide) ?_
    refine x_istore_n (pc := 16) dX3_longestByPairs_16 (i := 2) rfl (by decide) (l' := [some (.ref o), some (.int p0), some (.int (0 : Int32)), none, none, none]) rfl ?_
    refine x_aload_n (pc := 17) dX3_longestByPairs_17 (i := 0) rfl rfl ?_
    refine x_gR (pc := 18) (k := 2) fcX3 dX3_longestByPairs_18 q104 (by decide) rfl (fun v3 => ?_)
    refine x_iload_n (pc := 21) dX3_longestByPairs_21 (i := 1) rfl rfl ?_
    refine x_callVi (pc := 22) (As := [.int p0]) (rest := []) (vx := fun a => a) (μf := fun _ => μ) fcX0 (mX0_earlierPlace S μ cx cy v3 p0) (fun _ => rfl) rfl (fun _ h => ifok h) dX3_longestByPairs_22 q504 kX0_earlierPlace rfl ⟨by decide, by decide⟩ rfl (Nat.le_of_ble_eq_true rfl) (fun v4 => ?_)
    refine x_istore_n (pc := 25) dX3_longestByPairs_25 (i := 3) rfl (by decide) (l' := [some (.ref o), some (.int p0), some (.int (0 : Int32)), some (.int v4), none, none]) rfl ?_
    refine x_iconst (pc := 26) (v := 0) dX3_longestByPairs_26 (by decide) ?_
    refine x_istore (pc := 27) dX3_longestByPairs_27 (by decide) (l' := [some (.ref o), some (.int p0), some (.int (0 : Int32)), some (.int v4), some (.int (0 : Int32)), none]) rfl ?_
    exact xX3_longestByPairs_29 FU o p0 (0 : Int32) v4 (0 : Int32) _
  · refine x_iconst (pc := 13) (v := 0) dX3_longestByPairs_13 (by decide) ?_
    exact x_iret rfl dX3_longestByPairs_14 rfl rfl
theorem mX3_longestByPairs (S : mSh) (μ : mMm) (cx cy : Nat) (o : Nat) (p0 : Int32) : mMet MX3_longestByPairs [.ref o, .int p0] (S, μ, cx, cy) (iPI S μ cx cy) (fX3_longestByPairs S μ o p0) := mMet.of rfl (by decide) rfl (fun h => by cases h) (Nat.le_of_ble_eq_true rfl) (mX.ck (fun _ => xbX3_longestByPairs o p0))
/-! SlideMills$Mill.leastDistance(II)I -/
def lX3_leastDistance_8 (S : mSh) (μ : mMm) : Nat → Nat → Int32 → Int32 → Int32 → Option (Int32)
  | 0, _, _, _, _ => none
  | n + 1, x0, x1, x2, x3 => (gR S x0 3 1).bind fun v1 => (gI S μ v1 6 0).bind fun v2 => if v2 < x3 then (some (0 : Int32)) else (if x1 < x3 then (some (0 : Int32)) else ((fX3_alike S μ x0 x1 x3).bind fun v3 => if v3 < x2 then (lX3_leastDistance_8 S μ n x0 x1 x2 (x3 + (1 : Int32))) else (some x3)))
def bX3_leastDistance (S : mSh) (μ : mMm) (o : Nat) (p0 : Int32) (p1 : Int32) : Option (Int32) := if 0 < p1 then (lX3_leastDistance_8 S μ FU o p0 p1 (1 : Int32)) else (some (0 : Int32))
def fX3_leastDistance (S : mSh) (μ : mMm) (o : Nat) (p0 : Int32) (p1 : Int32) : Option (Int32) := if mok S o 3 = true then bX3_leastDistance S μ o p0 p1 else none
abbrev MX3_leastDistance : mM := ((yX3_leastDistance, cX3_leastDistance, 4, (some .int)), (2, 46), (false, false), RX3, eT)
theorem kX3_leastDistance : mCalV MX3_leastDistance RX3 2 := ⟨q322, q323, q26, q324, by decide +kernel⟩
set_option maxHeartbeats 4000000 in
theorem xX3_leastDistance_8 {n0 c0 s0 cx cy : Nat} {S : mSh} {μ : mMm} : ∀ (n : Nat) (x0 : Nat) (x1 : Int32) (x2 : Int32) (x3 : Int32), mX MX3_leastDistance n0 c0 s0 8 [some (.ref x0), some (.int x1), some (.int x2), some (.int x3)] [] (S, μ, cx, cy) (iPI S μ cx cy) (lX3_leastDistance_8 S μ n x0 x1 x2 x3) := by
  intro n
  induction n with
  | zero => intros; exact x_none
  | succ n ih =>
    intro x0 x1 x2 x3
    unfold lX3_leastDistance_8
    refine x_iload_n (pc := 8) dX3_leastDistance_8 (i := 3) rfl rfl ?_
    refine x_aload_n (pc := 9) dX3_leastDistance_9 (i := 0) rfl rfl ?_
    refine x_gR (pc := 10) (k := 1) fcX3 dX3_leastDistance_10 q100 (by decide) rfl (fun v1 => ?_)
    refine x_gI (pc := 13) (k := 0) fcX6 dX3_leastDistance_13 q325 (by decide) rfl (fun v2 => ?_)
    refine x_icmp_gt (pc := 16) (tgt := 42) dX3_leastDistance_16 (by decide) ?_ ?_
    · refine x_iconst (pc := 42) (v := 0) dX3_leastDistance_42 (by decide) ?_
      exact x_iret rfl dX3_leastDistance_43 rfl rfl
    · refine x_iload_n (pc := 19) dX3_leastDistance_19 (i := 3) rfl rfl ?_
      refine x_iload_n (pc := 20) dX3_leastDistance_20 (i := 1) rfl rfl ?_
      refine x_icmp_gt (pc := 21) (tgt := 42) dX3_leastDistance_21 (by decide) ?_ ?_
      · refine x_iconst (pc := 42) (v := 0) dX3_leastDistance_42 (by decide) ?_
        exact x_iret rfl dX3_leastDistance_43 rfl rfl
      · refine x_aload_n (pc := 24) dX3_leastDistance_24 (i := 0) rfl rfl ?_
        refine x_iload_n (pc := 25) dX3_leastDistance_25 (i := 1) rfl rfl ?_
        refine x_iload_n (pc := 26) dX3_leastDistance_26 (i := 3) rfl rfl ?_
        refine x_callVi (pc := 27) (As := [.int x1, .int x3]) (rest := []) (vx := fun a => a) (μf := fun _ => μ) fcX3 (mX3_alike S μ cx cy x0 x1 x3) (fun _ => rfl) rfl (fun _ h => ifok h) dX3_leastDistance_27 q300 kX3_alike rfl ⟨by decide, by decide⟩ rfl (Nat.le_of_ble_eq_true rfl) (fun v3 => ?_)
        refine x_iload_n (pc := 30) dX3_leastDistance_30 (i := 2) rfl rfl ?_
        refine x_icmp_lt (pc := 31) (tgt := 36) dX3_leastDistance_31 (by decide) ?_ ?_
        · refine x_iinc (pc := 36) (v := x3 + (1 : Int32)) dX3_leastDistance_36 rfl (by rw [show Int32.ofInt (1) = (1 : Int32) from by decide]) (by decide) (l' := [some (.ref x0), some (.int x1), some (.int x2), some (.int (x3 + (1 : Int32)))]) rfl ?_
          refine x_goto (pc := 39) (tgt := 8) dX3_leastDistance_39 (by decide) ?_
          exact ih x0 x1 x2 (x3 + (1 : Int32)) 
        · refine x_iload_n (pc := 34) dX3_leastDistance_34 (i := 3) rfl rfl ?_
          exact x_iret rfl dX3_leastDistance_35 rfl rfl
set_option maxHeartbeats 4000000 in
theorem xbX3_leastDistance {n0 c0 s0 cx cy : Nat} {S : mSh} {μ : mMm} (o : Nat) (p0 : Int32) (p1 : Int32) : mX MX3_leastDistance n0 c0 s0 0 [some (.ref o), some (.int p0), some (.int p1), none] [] (S, μ, cx, cy) (iPI S μ cx cy) (bX3_leastDistance S μ o p0 p1) := by
  unfold bX3_leastDistance
  refine x_iload_n (pc := 0) dX3_leastDistance_0 (i := 2) rfl rfl ?_
  refine x_if_gt (pc := 1) (tgt := 6) dX3_leastDistance_1 (by decide) ?_ ?_
  · refine x_iconst (pc := 6) (v := 1) dX3_leastDistance_6 (by decide) ?_
    refine x_istore_n (pc := 7) dX3_leastDistance_7 (i := 3) rfl (by decide) (l' := [some (.ref o), some (.int p0), some (.int p1), some (.int (1 : Int32))]) rfl ?_
    exact xX3_leastDistance_8 FU o p0 p1 (1 : Int32) 
  · refine x_iconst (pc := 4) (v := 0) dX3_leastDistance_4 (by decide) ?_
    exact x_iret rfl dX3_leastDistance_5 rfl rfl
theorem mX3_leastDistance (S : mSh) (μ : mMm) (cx cy : Nat) (o : Nat) (p0 : Int32) (p1 : Int32) : mMet MX3_leastDistance [.ref o, .int p0, .int p1] (S, μ, cx, cy) (iPI S μ cx cy) (fX3_leastDistance S μ o p0 p1) := mMet.of rfl (by decide) rfl (fun h => by cases h) (Nat.le_of_ble_eq_true rfl) (mX.ck (fun _ => xbX3_leastDistance o p0 p1))
/-! SlideMills$Packer.setCost(II)V -/
def bX4_setCost (S : mSh) (μ : mMm) (o : Nat) (p0 : Int32) (p1 : Int32) : Option (mMm) := if p0 < 0 then (some μ) else ((gR S o 4 1).bind fun v1 => (aL S v1 12).bind fun v2 => if v2 ≤ p0 then (some μ) else ((gR S o 4 1).bind fun v3 => (stI S μ v3 p0 p1).bind fun m4 => some m4))
def fX4_setCost (S : mSh) (μ : mMm) (o : Nat) (p0 : Int32) (p1 : Int32) : Option (mMm) := if mok S o 4 = true then bX4_setCost S μ o p0 p1 else none
abbrev MX4_setCost : mM := ((yX4_setCost, cX4_setCost, 3, none), (0, 0), (false, false), RX4, eT)
theorem kX4_setCost : mCalV MX4_setCost RX4 2 := ⟨q288, q289, q32, q290, by decide +kernel⟩
set_option maxHeartbeats 4000000 in
theorem xbX4_setCost {n0 c0 s0 cx cy : Nat} {S : mSh} {μ : mMm} (o : Nat) (p0 : Int32) (p1 : Int32) : mX MX4_setCost n0 c0 s0 0 [some (.ref o), some (.int p0), some (.int p1)] [] (S, μ, cx, cy) (iMV S cx cy) (bX4_setCost S μ o p0 p1) := by
  unfold bX4_setCost
  refine x_iload_n (pc := 0) dX4_setCost_0 (i := 1) rfl rfl ?_
  refine x_if_lt (pc := 1) (tgt := 20) dX4_setCost_1 (by decide) ?_ ?_
  · exact x_ret rfl dX4_setCost_20 rfl
  · refine x_iload_n (pc := 4) dX4_setCost_4 (i := 1) rfl rfl ?_
    refine x_aload_n (pc := 5) dX4_setCost_5 (i := 0) rfl rfl ?_
    refine x_gR (pc := 6) (k := 1) fcX4 dX4_setCost_6 q117 (by decide) rfl (fun v1 => ?_)
    refine x_aL (pc := 9) dX4_setCost_9 (fun v2 => ?_)
    refine x_icmp_ge (pc := 10) (tgt := 20) dX4_setCost_10 (by decide) ?_ ?_
    · exact x_ret rfl dX4_setCost_20 rfl
    · refine x_aload_n (pc := 13) dX4_setCost_13 (i := 0) rfl rfl ?_
      refine x_gR (pc := 14) (k := 1) fcX4 dX4_setCost_14 q117 (by decide) rfl (fun v3 => ?_)
      refine x_iload_n (pc := 17) dX4_setCost_17 (i := 1) rfl rfl ?_
      refine x_iload_n (pc := 18) dX4_setCost_18 (i := 2) rfl rfl ?_
      refine x_stI (pc := 19) dX4_setCost_19 (fun m4 => ?_)
      exact x_ret rfl dX4_setCost_20 rfl
theorem mX4_setCost (S : mSh) (μ : mMm) (cx cy : Nat) (o : Nat) (p0 : Int32) (p1 : Int32) : mMet MX4_setCost [.ref o, .int p0, .int p1] (S, μ, cx, cy) (iMV S cx cy) (fX4_setCost S μ o p0 p1) := mMet.of rfl (by decide) rfl (fun h => by cases h) (Nat.le_of_ble_eq_true rfl) (mX.ck (fun _ => xbX4_setCost o p0 p1))
/-! SlideMills$Packer.costAt(I)I -/
def bX4_costAt (S : mSh) (μ : mMm) (o : Nat) (p0 : Int32) : Option (Int32) := if p0 < 0 then (some (0 : Int32)) else ((gR S o 4 1).bind fun v1 => (aL S v1 12).bind fun v2 => if v2 ≤ p0 then (some (0 : Int32)) else ((gR S o 4 1).bind fun v3 => (ldI S μ v3 p0).bind fun v4 => some v4))
def fX4_costAt (S : mSh) (μ : mMm) (o : Nat) (p0 : Int32) : Option (Int32) := if mok S o 4 = true then bX4_costAt S μ o p0 else none
abbrev MX4_costAt : mM := ((yX4_costAt, cX4_costAt, 2, (some .int)), (0, 0), (false, false), RX4, eT)
theorem kX4_costAt : mCalV MX4_costAt RX4 1 := ⟨q292, q293, q32, q294, by decide +kernel⟩
set_option maxHeartbeats 4000000 in
theorem xbX4_costAt {n0 c0 s0 cx cy : Nat} {S : mSh} {μ : mMm} (o : Nat) (p0 : Int32) : mX MX4_costAt n0 c0 s0 0 [some (.ref o), some (.int p0)] [] (S, μ, cx, cy) (iPI S μ cx cy) (bX4_costAt S μ o p0) := by
  unfold bX4_costAt
  refine x_iload_n (pc := 0) dX4_costAt_0 (i := 1) rfl rfl ?_
  refine x_if_lt (pc := 1) (tgt := 22) dX4_costAt_1 (by decide) ?_ ?_
  · refine x_iconst (pc := 22) (v := 0) dX4_costAt_22 (by decide) ?_
    exact x_iret rfl dX4_costAt_23 rfl rfl
  · refine x_iload_n (pc := 4) dX4_costAt_4 (i := 1) rfl rfl ?_
    refine x_aload_n (pc := 5) dX4_costAt_5 (i := 0) rfl rfl ?_
    refine x_gR (pc := 6) (k := 1) fcX4 dX4_costAt_6 q117 (by decide) rfl (fun v1 => ?_)
    refine x_aL (pc := 9) dX4_costAt_9 (fun v2 => ?_)
    refine x_icmp_ge (pc := 10) (tgt := 22) dX4_costAt_10 (by decide) ?_ ?_
    · refine x_iconst (pc := 22) (v := 0) dX4_costAt_22 (by decide) ?_
      exact x_iret rfl dX4_costAt_23 rfl rfl
    · refine x_aload_n (pc := 13) dX4_costAt_13 (i := 0) rfl rfl ?_
      refine x_gR (pc := 14) (k := 1) fcX4 dX4_costAt_14 q117 (by decide) rfl (fun v3 => ?_)
      refine x_iload_n (pc := 17) dX4_costAt_17 (i := 1) rfl rfl ?_
      refine x_ldI (pc := 18) dX4_costAt_18 (fun v4 => ?_)
      refine x_goto (pc := 19) (tgt := 23) dX4_costAt_19 (by decide) ?_
      exact x_iret rfl dX4_costAt_23 rfl rfl
theorem mX4_costAt (S : mSh) (μ : mMm) (cx cy : Nat) (o : Nat) (p0 : Int32) : mMet MX4_costAt [.ref o, .int p0] (S, μ, cx, cy) (iPI S μ cx cy) (fX4_costAt S μ o p0) := mMet.of rfl (by decide) rfl (fun h => by cases h) (Nat.le_of_ble_eq_true rfl) (mX.ck (fun _ => xbX4_costAt o p0))
/-! SlideMills$Packer.leastFromEnd(I)I -/
def lX4_leastFromEnd_74 (k28 : mMm → Nat → Int32 → Int32 → Option (Int32 × mMm)) (S : mSh) : Nat → mMm → Nat → Int32 → Int32 → Int32 → Int32 → Int32 → Option (Int32 × mMm)
  | 0, _, _, _, _, _, _, _ => none
  | n + 1, μ, x0, x1, x2, x3, x4, x5 => if x4 < x5 then ((fX4_setCost S μ x0 x2 x3).bind fun m18 => k28 m18 x0 x1 (x2 + (-1 : Int32))) else ((gR S x0 4 0).bind fun v19 => (gR S v19 3 1).bind fun v20 => (gI S μ v20 6 4).bind fun v21 => (fX4_costAt S μ x0 (x2 + x5)).bind fun v22 => lX4_leastFromEnd_74 k28 S n μ x0 x1 x2 (mMin x3 (v21 + v22)) x4 (x5 + (1 : Int32)))
def lX4_leastFromEnd_28 (S : mSh) : Nat → mMm → Nat → Int32 → Int32 → Option (Int32 × mMm)
  | 0, _, _, _, _ => none
  | n + 1, μ, x0, x1, x2 => if x2 < 0 then ((fX4_costAt S μ x0 (0 : Int32)).bind fun v8 => some (v8, μ)) else ((gR S x0 4 0).bind fun v9 => (gR S v9 3 1).bind fun v10 => (gI S μ v10 6 3).bind fun v11 => (fX4_costAt S μ x0 (x2 + (1 : Int32))).bind fun v12 => (gR S x0 4 0).bind fun v13 => (fX3_longestAt S μ v13 x2 x1).bind fun v14 => (gR S x0 4 0).bind fun v15 => (gR S v15 3 1).bind fun v16 => (gI S μ v16 6 1).bind fun v17 => lX4_leastFromEnd_74 (lX4_leastFromEnd_28 S n) S FU μ x0 x1 x2 (v11 + v12) v14 v17)
def bX4_leastFromEnd (S : mSh) (μ : mMm) (o : Nat) (p0 : Int32) : Option (Int32 × mMm) := (gR S o 4 0).bind fun v1 => (gR S v1 3 0).bind fun v2 => (gI S μ v2 2 1).bind fun v3 => (fX4_setCost S μ o v3 (0 : Int32)).bind fun m4 => (gR S o 4 0).bind fun v5 => (gR S v5 3 0).bind fun v6 => (gI S m4 v6 2 1).bind fun v7 => lX4_leastFromEnd_28 S FU m4 o p0 (v7 - (1 : Int32))
def fX4_leastFromEnd (S : mSh) (μ : mMm) (o : Nat) (p0 : Int32) : Option (Int32 × mMm) := if mok S o 4 = true then bX4_leastFromEnd S μ o p0 else none
abbrev MX4_leastFromEnd : mM := ((yX4_leastFromEnd, cX4_leastFromEnd, 6, (some .int)), (3, 71), (false, false), RX4, eT)
theorem kX4_leastFromEnd : mCalV MX4_leastFromEnd RX4 1 := ⟨q277, q278, q32, q279, by decide +kernel⟩
set_option maxHeartbeats 4000000 in
theorem xX4_leastFromEnd_74 {n0 c0 s0 cx cy : Nat} {S : mSh} {k28 : mMm → Nat → Int32 → Int32 → Option (Int32 × mMm)} (hk28 : ∀ (μ : mMm) (x0 : Nat) (x1 : Int32) (x2 : Int32) (d3 : Option Value) (d4 : Option Value) (d5 : Option Value), mX MX4_leastFromEnd n0 c0 s0 28 [some (.ref x0), some (.int x1), some (.int x2), d3, d4, d5] [] (S, μ, cx, cy) (iMI S cx cy) (k28 μ x0 x1 x2)) : ∀ (n : Nat) (μ : mMm) (x0 : Nat) (x1 : Int32) (x2 : Int32) (x3 : Int32) (x4 : Int32) (x5 : Int32), mX MX4_leastFromEnd n0 c0 s0 74 [some (.ref x0), some (.int x1), some (.int x2), some (.int x3), some (.int x4), some (.int x5)] [] (S, μ, cx, cy) (iMI S cx cy) (lX4_leastFromEnd_74 k28 S n μ x0 x1 x2 x3 x4 x5) := by
  intro n
  induction n with
  | zero => intros; exact x_none
  | succ n ih =>
    intro μ x0 x1 x2 x3 x4 x5
    unfold lX4_leastFromEnd_74
    refine x_iload (pc := 74) dX4_leastFromEnd_74 rfl ?_
    refine x_iload (pc := 76) dX4_leastFromEnd_76 rfl ?_
    refine x_icmp_gt (pc := 78) (tgt := 111) dX4_leastFromEnd_78 (by decide) ?_ ?_
    · refine x_aload_n (pc := 111) dX4_leastFromEnd_111 (i := 0) rfl rfl ?_
      refine x_iload_n (pc := 112) dX4_leastFromEnd_112 (i := 2) rfl rfl ?_
      refine x_iload_n (pc := 113) dX4_leastFromEnd_113 (i := 3) rfl rfl ?_
      refine x_callVv (pc := 114) (As := [.int x2, .int x3]) (rest := []) (μf := fun a => a) fcX4 (mX4_setCost S μ cx cy x0 x2 x3) (fun _ => rfl) rfl (fun _ h => ifok h) dX4_leastFromEnd_114 q287 kX4_setCost rfl ⟨by decide, by decide⟩ rfl (Nat.le_of_ble_eq_true rfl) (fun m18 => ?_)
      refine x_iinc (pc := 117) (v := x2 + (-1 : Int32)) dX4_leastFromEnd_117 rfl (by rw [show Int32.ofInt (-1) = (-1 : Int32) from by decide]) (by decide) (l' := [some (.ref x0), some (.int x1), some (.int (x2 + (-1 : Int32))), some (.int x3), some (.int x4), some (.int x5)]) rfl ?_
      refine x_goto (pc := 120) (tgt := 28) dX4_leastFromEnd_120 (by decide) ?_
      exact hk28 m18 x0 x1 (x2 + (-1 : Int32)) _ _ _
    · refine x_iload_n (pc := 81) dX4_leastFromEnd_81 (i := 3) rfl rfl ?_
      refine x_aload_n (pc := 82) dX4_leastFromEnd_82 (i := 0) rfl rfl ?_
      refine x_gR (pc := 83) (k := 0) fcX4 dX4_leastFromEnd_83 q116 (by decide) rfl (fun v19 => ?_)
      refine x_gR (pc := 86) (k := 1) fcX3 dX4_leastFromEnd_86 q272 (by decide) rfl (fun v20 => ?_)
      refine x_gI (pc := 89) (k := 4) fcX6 dX4_leastFromEnd_89 q282 (by decide) rfl (fun v21 => ?_)
      refine x_aload_n (pc := 92) dX4_leastFromEnd_92 (i := 0) rfl rfl ?_
      refine x_iload_n (pc := 93) dX4_leastFromEnd_93 (i := 2) rfl rfl ?_
      refine x_iload (pc := 94) dX4_leastFromEnd_94 rfl ?_
      refine x_iadd (pc := 96) dX4_leastFromEnd_96 ?_
      refine x_callVi (pc := 97) (As := [.int (x2 + x5)]) (rest := [.int v21, .int x3]) (vx := fun a => a) (μf := fun _ => μ) fcX4 (mX4_costAt S μ cx cy x0 (x2 + x5)) (fun _ => rfl) rfl (fun _ h => ifok h) dX4_leastFromEnd_97 q291 kX4_costAt rfl ⟨by decide, by decide⟩ rfl (Nat.le_of_ble_eq_true rfl) (fun v22 => ?_)
      refine x_iadd (pc := 100) dX4_leastFromEnd_100 ?_
      refine x_min (pc := 101) dX4_leastFromEnd_101 q283 q284 q285 q286 ⟨by decide, by decide⟩ (Nat.le_of_ble_eq_true rfl) ?_
      refine x_istore_n (pc := 104) dX4_leastFromEnd_104 (i := 3) rfl (by decide) (l' := [some (.ref x0), some (.int x1), some (.int x2), some (.int (mMin x3 (v21 + v22))), some (.int x4), some (.int x5)]) rfl ?_
      refine x_iinc (pc := 105) (v := x5 + (1 : Int32)) dX4_leastFromEnd_105 rfl (by rw [show Int32.ofInt (1) = (1 : Int32) from by decide]) (by decide) (l' := [some (.ref x0), some (.int x1), some (.int x2), some (.int (mMin x3 (v21 + v22))), some (.int x4), some (.int (x5 + (1 : Int32)))]) rfl ?_
      refine x_goto (pc := 108) (tgt := 74) dX4_leastFromEnd_108 (by decide) ?_
      exact ih μ x0 x1 x2 (mMin x3 (v21 + v22)) x4 (x5 + (1 : Int32)) 
set_option maxHeartbeats 4000000 in
theorem xX4_leastFromEnd_28 {n0 c0 s0 cx cy : Nat} {S : mSh} : ∀ (n : Nat) (μ : mMm) (x0 : Nat) (x1 : Int32) (x2 : Int32) (d3 : Option Value) (d4 : Option Value) (d5 : Option Value), mX MX4_leastFromEnd n0 c0 s0 28 [some (.ref x0), some (.int x1), some (.int x2), d3, d4, d5] [] (S, μ, cx, cy) (iMI S cx cy) (lX4_leastFromEnd_28 S n μ x0 x1 x2) := by
  intro n
  induction n with
  | zero => intros; exact x_none
  | succ n ih =>
    intro μ x0 x1 x2 d3 d4 d5
    unfold lX4_leastFromEnd_28
    refine x_iload_n (pc := 28) dX4_leastFromEnd_28 (i := 2) rfl rfl ?_
    refine x_if_lt (pc := 29) (tgt := 123) dX4_leastFromEnd_29 (by decide) ?_ ?_
    · refine x_aload_n (pc := 123) dX4_leastFromEnd_123 (i := 0) rfl rfl ?_
      refine x_iconst (pc := 124) (v := 0) dX4_leastFromEnd_124 (by decide) ?_
      refine x_callVi (pc := 125) (As := [.int (0 : Int32)]) (rest := []) (vx := fun a => a) (μf := fun _ => μ) fcX4 (mX4_costAt S μ cx cy x0 (0 : Int32)) (fun _ => rfl) rfl (fun _ h => ifok h) dX4_leastFromEnd_125 q291 kX4_costAt rfl ⟨by decide, by decide⟩ rfl (Nat.le_of_ble_eq_true rfl) (fun v8 => ?_)
      exact x_iret rfl dX4_leastFromEnd_128 rfl rfl
    · refine x_aload_n (pc := 32) dX4_leastFromEnd_32 (i := 0) rfl rfl ?_
      refine x_gR (pc := 33) (k := 0) fcX4 dX4_leastFromEnd_33 q116 (by decide) rfl (fun v9 => ?_)
      refine x_gR (pc := 36) (k := 1) fcX3 dX4_leastFromEnd_36 q272 (by decide) rfl (fun v10 => ?_)
      refine x_gI (pc := 39) (k := 3) fcX6 dX4_leastFromEnd_39 q280 (by decide) rfl (fun v11 => ?_)
      refine x_aload_n (pc := 42) dX4_leastFromEnd_42 (i := 0) rfl rfl ?_
      refine x_iload_n (pc := 43) dX4_leastFromEnd_43 (i := 2) rfl rfl ?_
      refine x_iconst (pc := 44) (v := 1) dX4_leastFromEnd_44 (by decide) ?_
      refine x_iadd (pc := 45) dX4_leastFromEnd_45 ?_
      refine x_callVi (pc := 46) (As := [.int (x2 + (1 : Int32))]) (rest := [.int v11]) (vx := fun a => a) (μf := fun _ => μ) fcX4 (mX4_costAt S μ cx cy x0 (x2 + (1 : Int32))) (fun _ => rfl) rfl (fun _ h => ifok h) dX4_leastFromEnd_46 q291 kX4_costAt rfl ⟨by decide, by decide⟩ rfl (Nat.le_of_ble_eq_true rfl) (fun v12 => ?_)
      refine x_iadd (pc := 49) dX4_leastFromEnd_49 ?_
      refine x_istore_n (pc := 50) dX4_leastFromEnd_50 (i := 3) rfl (by decide) (l' := [some (.ref x0), some (.int x1), some (.int x2), some (.int (v11 + v12)), d4, d5]) rfl ?_
      refine x_aload_n (pc := 51) dX4_leastFromEnd_51 (i := 0) rfl rfl ?_
      refine x_gR (pc := 52) (k := 0) fcX4 dX4_leastFromEnd_52 q116 (by decide) rfl (fun v13 => ?_)
      refine x_iload_n (pc := 55) dX4_leastFromEnd_55 (i := 2) rfl rfl ?_
      refine x_iload_n (pc := 56) dX4_leastFromEnd_56 (i := 1) rfl rfl ?_
      refine x_callVi (pc := 57) (As := [.int x2, .int x1]) (rest := []) (vx := fun a => a) (μf := fun _ => μ) fcX3 (mX3_longestAt S μ cx cy v13 x2 x1) (fun _ => rfl) rfl (fun _ h => ifok h) dX4_leastFromEnd_57 q295 kX3_longestAt rfl ⟨by decide, by decide⟩ rfl (Nat.le_of_ble_eq_true rfl) (fun v14 => ?_)
      refine x_istore (pc := 60) dX4_leastFromEnd_60 (by decide) (l' := [some (.ref x0), some (.int x1), some (.int x2), some (.int (v11 + v12)), some (.int v14), d5]) rfl ?_
      refine x_aload_n (pc := 62) dX4_leastFromEnd_62 (i := 0) rfl rfl ?_
      refine x_gR (pc := 63) (k := 0) fcX4 dX4_leastFromEnd_63 q116 (by decide) rfl (fun v15 => ?_)
      refine x_gR (pc := 66) (k := 1) fcX3 dX4_leastFromEnd_66 q272 (by decide) rfl (fun v16 => ?_)
      refine x_gI (pc := 69) (k := 1) fcX6 dX4_leastFromEnd_69 q281 (by decide) rfl (fun v17 => ?_)
      refine x_istore (pc := 72) dX4_leastFromEnd_72 (by decide) (l' := [some (.ref x0), some (.int x1), some (.int x2), some (.int (v11 + v12)), some (.int v14), some (.int v17)]) rfl ?_
      exact xX4_leastFromEnd_74 (k28 := (lX4_leastFromEnd_28 S n)) ih FU μ x0 x1 x2 (v11 + v12) v14 v17 
set_option maxHeartbeats 4000000 in
theorem xbX4_leastFromEnd {n0 c0 s0 cx cy : Nat} {S : mSh} {μ : mMm} (o : Nat) (p0 : Int32) : mX MX4_leastFromEnd n0 c0 s0 0 [some (.ref o), some (.int p0), none, none, none, none] [] (S, μ, cx, cy) (iMI S cx cy) (bX4_leastFromEnd S μ o p0) := by
  unfold bX4_leastFromEnd
  refine x_aload_n (pc := 0) dX4_leastFromEnd_0 (i := 0) rfl rfl ?_
  refine x_aload_n (pc := 1) dX4_leastFromEnd_1 (i := 0) rfl rfl ?_
  refine x_gR (pc := 2) (k := 0) fcX4 dX4_leastFromEnd_2 q116 (by decide) rfl (fun v1 => ?_)
  refine x_gR (pc := 5) (k := 0) fcX3 dX4_leastFromEnd_5 q274 (by decide) rfl (fun v2 => ?_)
  refine x_gI (pc := 8) (k := 1) fcX2 dX4_leastFromEnd_8 q275 (by decide) rfl (fun v3 => ?_)
  refine x_iconst (pc := 11) (v := 0) dX4_leastFromEnd_11 (by decide) ?_
  refine x_callVv (pc := 12) (As := [.int v3, .int (0 : Int32)]) (rest := []) (μf := fun a => a) fcX4 (mX4_setCost S μ cx cy o v3 (0 : Int32)) (fun _ => rfl) rfl (fun _ h => ifok h) dX4_leastFromEnd_12 q287 kX4_setCost rfl ⟨by decide, by decide⟩ rfl (Nat.le_of_ble_eq_true rfl) (fun m4 => ?_)
  refine x_aload_n (pc := 15) dX4_leastFromEnd_15 (i := 0) rfl rfl ?_
  refine x_gR (pc := 16) (k := 0) fcX4 dX4_leastFromEnd_16 q116 (by decide) rfl (fun v5 => ?_)
  refine x_gR (pc := 19) (k := 0) fcX3 dX4_leastFromEnd_19 q274 (by decide) rfl (fun v6 => ?_)
  refine x_gI (pc := 22) (k := 1) fcX2 dX4_leastFromEnd_22 q275 (by decide) rfl (fun v7 => ?_)
  refine x_iconst (pc := 25) (v := 1) dX4_leastFromEnd_25 (by decide) ?_
  refine x_isub (pc := 26) dX4_leastFromEnd_26 ?_
  refine x_istore_n (pc := 27) dX4_leastFromEnd_27 (i := 2) rfl (by decide) (l' := [some (.ref o), some (.int p0), some (.int (v7 - (1 : Int32))), none, none, none]) rfl ?_
  exact xX4_leastFromEnd_28 FU m4 o p0 (v7 - (1 : Int32)) _ _ _
theorem mX4_leastFromEnd (S : mSh) (μ : mMm) (cx cy : Nat) (o : Nat) (p0 : Int32) : mMet MX4_leastFromEnd [.ref o, .int p0] (S, μ, cx, cy) (iMI S cx cy) (fX4_leastFromEnd S μ o p0) := mMet.of rfl (by decide) rfl (fun h => by cases h) (Nat.le_of_ble_eq_true rfl) (mX.ck (fun _ => xbX4_leastFromEnd o p0))
/-! SlideMills$Packer.cheapestLength(I)I -/
def lX4_cheapestLength_21 (S : mSh) (μ : mMm) : Nat → Nat → Int32 → Int32 → Option (Int32)
  | 0, _, _, _ => none
  | n + 1, x0, x1, x3 => (gR S x0 4 0).bind fun v6 => (gR S v6 3 1).bind fun v7 => (gI S μ v7 6 1).bind fun v8 => if x3 < v8 then (some (0 : Int32)) else ((gR S x0 4 0).bind fun v9 => (gR S v9 3 1).bind fun v10 => (gI S μ v10 6 4).bind fun v11 => (fX4_costAt S μ x0 (x1 + x3)).bind fun v12 => (fX4_costAt S μ x0 x1).bind fun v13 => if (v11 + v12) = v13 then (some x3) else (lX4_cheapestLength_21 S μ n x0 x1 (x3 + (-1 : Int32))))
def bX4_cheapestLength (S : mSh) (μ : mMm) (o : Nat) (p0 : Int32) : Option (Int32) := (gR S o 4 0).bind fun v1 => (gR S o 4 0).bind fun v2 => (gR S v2 3 1).bind fun v3 => (gI S μ v3 6 0).bind fun v4 => (fX3_longestAt S μ v1 p0 v4).bind fun v5 => lX4_cheapestLength_21 S μ FU o p0 v5
def fX4_cheapestLength (S : mSh) (μ : mMm) (o : Nat) (p0 : Int32) : Option (Int32) := if mok S o 4 = true then bX4_cheapestLength S μ o p0 else none
abbrev MX4_cheapestLength : mM := ((yX4_cheapestLength, cX4_cheapestLength, 4, (some .int)), (3, 71), (false, false), RX4, eT)
theorem kX4_cheapestLength : mCalV MX4_cheapestLength RX4 1 := ⟨q309, q310, q32, q311, by decide +kernel⟩
set_option maxHeartbeats 4000000 in
theorem xX4_cheapestLength_21 {n0 c0 s0 cx cy : Nat} {S : mSh} {μ : mMm} : ∀ (n : Nat) (x0 : Nat) (x1 : Int32) (x3 : Int32) (d2 : Option Value), mX MX4_cheapestLength n0 c0 s0 21 [some (.ref x0), some (.int x1), d2, some (.int x3)] [] (S, μ, cx, cy) (iPI S μ cx cy) (lX4_cheapestLength_21 S μ n x0 x1 x3) := by
  intro n
  induction n with
  | zero => intros; exact x_none
  | succ n ih =>
    intro x0 x1 x3 d2
    unfold lX4_cheapestLength_21
    refine x_iload_n (pc := 21) dX4_cheapestLength_21 (i := 3) rfl rfl ?_
    refine x_aload_n (pc := 22) dX4_cheapestLength_22 (i := 0) rfl rfl ?_
    refine x_gR (pc := 23) (k := 0) fcX4 dX4_cheapestLength_23 q116 (by decide) rfl (fun v6 => ?_)
    refine x_gR (pc := 26) (k := 1) fcX3 dX4_cheapestLength_26 q272 (by decide) rfl (fun v7 => ?_)
    refine x_gI (pc := 29) (k := 1) fcX6 dX4_cheapestLength_29 q281 (by decide) rfl (fun v8 => ?_)
    refine x_icmp_lt (pc := 32) (tgt := 69) dX4_cheapestLength_32 (by decide) ?_ ?_
    · refine x_iconst (pc := 69) (v := 0) dX4_cheapestLength_69 (by decide) ?_
      exact x_iret rfl dX4_cheapestLength_70 rfl rfl
    · refine x_aload_n (pc := 35) dX4_cheapestLength_35 (i := 0) rfl rfl ?_
      refine x_gR (pc := 36) (k := 0) fcX4 dX4_cheapestLength_36 q116 (by decide) rfl (fun v9 => ?_)
      refine x_gR (pc := 39) (k := 1) fcX3 dX4_cheapestLength_39 q272 (by decide) rfl (fun v10 => ?_)
      refine x_gI (pc := 42) (k := 4) fcX6 dX4_cheapestLength_42 q282 (by decide) rfl (fun v11 => ?_)
      refine x_aload_n (pc := 45) dX4_cheapestLength_45 (i := 0) rfl rfl ?_
      refine x_iload_n (pc := 46) dX4_cheapestLength_46 (i := 1) rfl rfl ?_
      refine x_iload_n (pc := 47) dX4_cheapestLength_47 (i := 3) rfl rfl ?_
      refine x_iadd (pc := 48) dX4_cheapestLength_48 ?_
      refine x_callVi (pc := 49) (As := [.int (x1 + x3)]) (rest := [.int v11]) (vx := fun a => a) (μf := fun _ => μ) fcX4 (mX4_costAt S μ cx cy x0 (x1 + x3)) (fun _ => rfl) rfl (fun _ h => ifok h) dX4_cheapestLength_49 q291 kX4_costAt rfl ⟨by decide, by decide⟩ rfl (Nat.le_of_ble_eq_true rfl) (fun v12 => ?_)
      refine x_iadd (pc := 52) dX4_cheapestLength_52 ?_
      refine x_aload_n (pc := 53) dX4_cheapestLength_53 (i := 0) rfl rfl ?_
      refine x_iload_n (pc := 54) dX4_cheapestLength_54 (i := 1) rfl rfl ?_
      refine x_callVi (pc := 55) (As := [.int x1]) (rest := [.int (v11 + v12)]) (vx := fun a => a) (μf := fun _ => μ) fcX4 (mX4_costAt S μ cx cy x0 x1) (fun _ => rfl) rfl (fun _ h => ifok h) dX4_cheapestLength_55 q291 kX4_costAt rfl ⟨by decide, by decide⟩ rfl (Nat.le_of_ble_eq_true rfl) (fun v13 => ?_)
      refine x_icmp_ne (pc := 58) (tgt := 63) dX4_cheapestLength_58 (by decide) ?_ ?_
      · refine x_iload_n (pc := 61) dX4_cheapestLength_61 (i := 3) rfl rfl ?_
        exact x_iret rfl dX4_cheapestLength_62 rfl rfl
      · refine x_iinc (pc := 63) (v := x3 + (-1 : Int32)) dX4_cheapestLength_63 rfl (by rw [show Int32.ofInt (-1) = (-1 : Int32) from by decide]) (by decide) (l' := [some (.ref x0), some (.int x1), (kl d2), some (.int (x3 + (-1 : Int32)))]) rfl ?_
        refine x_goto (pc := 66) (tgt := 21) dX4_cheapestLength_66 (by decide) ?_
        exact ih x0 x1 (x3 + (-1 : Int32)) _
set_option maxHeartbeats 4000000 in
theorem xbX4_cheapestLength {n0 c0 s0 cx cy : Nat} {S : mSh} {μ : mMm} (o : Nat) (p0 : Int32) : mX MX4_cheapestLength n0 c0 s0 0 [some (.ref o), some (.int p0), none, none] [] (S, μ, cx, cy) (iPI S μ cx cy) (bX4_cheapestLength S μ o p0) := by
  unfold bX4_cheapestLength
  refine x_aload_n (pc := 0) dX4_cheapestLength_0 (i := 0) rfl rfl ?_
  refine x_gR (pc := 1) (k := 0) fcX4 dX4_cheapestLength_1 q116 (by decide) rfl (fun v1 => ?_)
  refine x_iload_n (pc := 4) dX4_cheapestLength_4 (i := 1) rfl rfl ?_
  refine x_aload_n (pc := 5) dX4_cheapestLength_5 (i := 0) rfl rfl ?_
  refine x_gR (pc := 6) (k := 0) fcX4 dX4_cheapestLength_6 q116 (by decide) rfl (fun v2 => ?_)
  refine x_gR (pc := 9) (k := 1) fcX3 dX4_cheapestLength_9 q272 (by decide) rfl (fun v3 => ?_)
  refine x_gI (pc := 12) (k := 0) fcX6 dX4_cheapestLength_12 q273 (by decide) rfl (fun v4 => ?_)
  refine x_callVi (pc := 15) (As := [.int p0, .int v4]) (rest := []) (vx := fun a => a) (μf := fun _ => μ) fcX3 (mX3_longestAt S μ cx cy v1 p0 v4) (fun _ => rfl) rfl (fun _ h => ifok h) dX4_cheapestLength_15 q295 kX3_longestAt rfl ⟨by decide, by decide⟩ rfl (Nat.le_of_ble_eq_true rfl) (fun v5 => ?_)
  refine x_istore_n (pc := 18) dX4_cheapestLength_18 (i := 2) rfl (by decide) (l' := [some (.ref o), some (.int p0), some (.int v5), none]) rfl ?_
  refine x_iload_n (pc := 19) dX4_cheapestLength_19 (i := 2) rfl rfl ?_
  refine x_istore_n (pc := 20) dX4_cheapestLength_20 (i := 3) rfl (by decide) (l' := [some (.ref o), some (.int p0), some (.int v5), some (.int v5)]) rfl ?_
  exact xX4_cheapestLength_21 FU o p0 v5 _
theorem mX4_cheapestLength (S : mSh) (μ : mMm) (cx cy : Nat) (o : Nat) (p0 : Int32) : mMet MX4_cheapestLength [.ref o, .int p0] (S, μ, cx, cy) (iPI S μ cx cy) (fX4_cheapestLength S μ o p0) := mMet.of rfl (by decide) rfl (fun h => by cases h) (Nat.le_of_ble_eq_true rfl) (mX.ck (fun _ => xbX4_cheapestLength o p0))
/-! SlideMills$Packer.putTokenAt(IILSlideMills$Sack;)I -/
def bX4_putTokenAt (S : mSh) (μ : mMm) (o : Nat) (p0 : Int32) (p1 : Int32) (p2 : Nat) : Option (Int32 × mMm) := if 0 < p1 then ((gR S o 4 0).bind fun v1 => (fX3_leastDistance S μ v1 p0 p1).bind fun v2 => (fX5_put S μ p2 v2 p1).bind fun m3 => some (p1, m3)) else ((gR S o 4 0).bind fun v4 => (gR S v4 3 0).bind fun v5 => (fX2_get S μ v5 p0).bind fun v6 => (fX5_put S μ p2 (0 : Int32) v6).bind fun m7 => some ((1 : Int32), m7))
def fX4_putTokenAt (S : mSh) (μ : mMm) (o : Nat) (p0 : Int32) (p1 : Int32) (p2 : Nat) : Option (Int32 × mMm) := if mok S o 4 = true then bX4_putTokenAt S μ o p0 p1 p2 else none
abbrev MX4_putTokenAt : mM := ((yX4_putTokenAt, cX4_putTokenAt, 4, (some .int)), (3, 69), (false, false), RX4, eT)
theorem kX4_putTokenAt : mCalV MX4_putTokenAt RX4 3 := ⟨q313, q314, q32, q315, by decide +kernel⟩
set_option maxHeartbeats 4000000 in
theorem xbX4_putTokenAt {n0 c0 s0 cx cy : Nat} {S : mSh} {μ : mMm} (o : Nat) (p0 : Int32) (p1 : Int32) (p2 : Nat) : mX MX4_putTokenAt n0 c0 s0 0 [some (.ref o), some (.int p0), some (.int p1), some (.ref p2)] [] (S, μ, cx, cy) (iMI S cx cy) (bX4_putTokenAt S μ o p0 p1 p2) := by
  unfold bX4_putTokenAt
  refine x_iload_n (pc := 0) dX4_putTokenAt_0 (i := 2) rfl rfl ?_
  refine x_if_gt (pc := 1) (tgt := 22) dX4_putTokenAt_1 (by decide) ?_ ?_
  · refine x_aload_n (pc := 22) dX4_putTokenAt_22 (i := 3) rfl rfl ?_
    refine x_aload_n (pc := 23) dX4_putTokenAt_23 (i := 0) rfl rfl ?_
    refine x_gR (pc := 24) (k := 0) fcX4 dX4_putTokenAt_24 q116 (by decide) rfl (fun v1 => ?_)
    refine x_iload_n (pc := 27) dX4_putTokenAt_27 (i := 1) rfl rfl ?_
    refine x_iload_n (pc := 28) dX4_putTokenAt_28 (i := 2) rfl rfl ?_
    refine x_callVi (pc := 29) (As := [.int p0, .int p1]) (rest := [.ref p2]) (vx := fun a => a) (μf := fun _ => μ) fcX3 (mX3_leastDistance S μ cx cy v1 p0 p1) (fun _ => rfl) rfl (fun _ h => ifok h) dX4_putTokenAt_29 q321 kX3_leastDistance rfl ⟨by decide, by decide⟩ rfl (Nat.le_of_ble_eq_true rfl) (fun v2 => ?_)
    refine x_iload_n (pc := 32) dX4_putTokenAt_32 (i := 2) rfl rfl ?_
    refine x_callVv (pc := 33) (As := [.int v2, .int p1]) (rest := []) (μf := fun a => a) fcX5 (mX5_put S μ cx cy p2 v2 p1) (fun _ => rfl) rfl (fun _ h => ifok h) dX4_putTokenAt_33 q317 kX5_put rfl ⟨by decide, by decide⟩ rfl (Nat.le_of_ble_eq_true rfl) (fun m3 => ?_)
    refine x_iload_n (pc := 36) dX4_putTokenAt_36 (i := 2) rfl rfl ?_
    exact x_iret rfl dX4_putTokenAt_37 rfl rfl
  · refine x_aload_n (pc := 4) dX4_putTokenAt_4 (i := 3) rfl rfl ?_
    refine x_iconst (pc := 5) (v := 0) dX4_putTokenAt_5 (by decide) ?_
    refine x_aload_n (pc := 6) dX4_putTokenAt_6 (i := 0) rfl rfl ?_
    refine x_gR (pc := 7) (k := 0) fcX4 dX4_putTokenAt_7 q116 (by decide) rfl (fun v4 => ?_)
    refine x_gR (pc := 10) (k := 0) fcX3 dX4_putTokenAt_10 q274 (by decide) rfl (fun v5 => ?_)
    refine x_iload_n (pc := 13) dX4_putTokenAt_13 (i := 1) rfl rfl ?_
    refine x_callVi (pc := 14) (As := [.int p0]) (rest := [.int (0 : Int32), .ref p2]) (vx := fun a => a) (μf := fun _ => μ) fcX2 (mX2_get S μ cx cy v5 p0) (fun _ => rfl) rfl (fun _ h => ifok h) dX4_putTokenAt_14 q316 kX2_get rfl ⟨by decide, by decide⟩ rfl (Nat.le_of_ble_eq_true rfl) (fun v6 => ?_)
    refine x_callVv (pc := 17) (As := [.int (0 : Int32), .int v6]) (rest := []) (μf := fun a => a) fcX5 (mX5_put S μ cx cy p2 (0 : Int32) v6) (fun _ => rfl) rfl (fun _ h => ifok h) dX4_putTokenAt_17 q317 kX5_put rfl ⟨by decide, by decide⟩ rfl (Nat.le_of_ble_eq_true rfl) (fun m7 => ?_)
    refine x_iconst (pc := 20) (v := 1) dX4_putTokenAt_20 (by decide) ?_
    exact x_iret rfl dX4_putTokenAt_21 rfl rfl
theorem mX4_putTokenAt (S : mSh) (μ : mMm) (cx cy : Nat) (o : Nat) (p0 : Int32) (p1 : Int32) (p2 : Nat) : mMet MX4_putTokenAt [.ref o, .int p0, .int p1, .ref p2] (S, μ, cx, cy) (iMI S cx cy) (fX4_putTokenAt S μ o p0 p1 p2) := mMet.of rfl (by decide) rfl (fun h => by cases h) (Nat.le_of_ble_eq_true rfl) (mX.ck (fun _ => xbX4_putTokenAt o p0 p1 p2))
/-! SlideMills$Packer.packCheaply(LSlideMills$Sack;)V -/
def lX4_packCheaply_19 (S : mSh) : Nat → mMm → Nat → Nat → Int32 → Int32 → Option (mMm)
  | 0, _, _, _, _, _ => none
  | n + 1, μ, x0, x1, x2, x3 => if (40 : Int32) ≤ x3 then (some μ) else ((gR S x0 4 0).bind fun v5 => (gR S v5 3 0).bind fun v6 => (gI S μ v6 2 1).bind fun v7 => if v7 ≤ x2 then (some μ) else ((fX4_cheapestLength S μ x0 x2).bind fun v8 => (fX4_putTokenAt S μ x0 x2 v8 x1).bind fun r9 => lX4_packCheaply_19 S n r9.2 x0 x1 (x2 + r9.1) (x3 + (1 : Int32))))
def bX4_packCheaply (S : mSh) (μ : mMm) (o : Nat) (p0 : Nat) : Option (mMm) := (gR S o 4 0).bind fun v1 => (gR S v1 3 1).bind fun v2 => (gI S μ v2 6 0).bind fun v3 => (fX4_leastFromEnd S μ o v3).bind fun r4 => lX4_packCheaply_19 S FU r4.2 o p0 (0 : Int32) (0 : Int32)
def fX4_packCheaply (S : mSh) (μ : mMm) (o : Nat) (p0 : Nat) : Option (mMm) := if mok S o 4 = true then bX4_packCheaply S μ o p0 else none
abbrev MX4_packCheaply : mM := ((yX4_packCheaply, cX4_packCheaply, 4, none), (4, 96), (false, false), RX4, eT)
theorem kX4_packCheaply : mCalV MX4_packCheaply RX4 1 := ⟨q269, q270, q32, q271, by decide +kernel⟩
set_option maxHeartbeats 4000000 in
theorem xX4_packCheaply_19 {n0 c0 s0 cx cy : Nat} {S : mSh} : ∀ (n : Nat) (μ : mMm) (x0 : Nat) (x1 : Nat) (x2 : Int32) (x3 : Int32), mX MX4_packCheaply n0 c0 s0 19 [some (.ref x0), some (.ref x1), some (.int x2), some (.int x3)] [] (S, μ, cx, cy) (iMV S cx cy) (lX4_packCheaply_19 S n μ x0 x1 x2 x3) := by
  intro n
  induction n with
  | zero => intros; exact x_none
  | succ n ih =>
    intro μ x0 x1 x2 x3
    unfold lX4_packCheaply_19
    refine x_iload_n (pc := 19) dX4_packCheaply_19 (i := 3) rfl rfl ?_
    refine x_bipush (pc := 20) (v := 40) dX4_packCheaply_20 (by decide) ?_
    refine x_icmp_ge (pc := 22) (tgt := 59) dX4_packCheaply_22 (by decide) ?_ ?_
    · exact x_ret rfl dX4_packCheaply_59 rfl
    · refine x_iload_n (pc := 25) dX4_packCheaply_25 (i := 2) rfl rfl ?_
      refine x_aload_n (pc := 26) dX4_packCheaply_26 (i := 0) rfl rfl ?_
      refine x_gR (pc := 27) (k := 0) fcX4 dX4_packCheaply_27 q116 (by decide) rfl (fun v5 => ?_)
      refine x_gR (pc := 30) (k := 0) fcX3 dX4_packCheaply_30 q274 (by decide) rfl (fun v6 => ?_)
      refine x_gI (pc := 33) (k := 1) fcX2 dX4_packCheaply_33 q275 (by decide) rfl (fun v7 => ?_)
      refine x_icmp_ge (pc := 36) (tgt := 59) dX4_packCheaply_36 (by decide) ?_ ?_
      · exact x_ret rfl dX4_packCheaply_59 rfl
      · refine x_iload_n (pc := 39) dX4_packCheaply_39 (i := 2) rfl rfl ?_
        refine x_aload_n (pc := 40) dX4_packCheaply_40 (i := 0) rfl rfl ?_
        refine x_iload_n (pc := 41) dX4_packCheaply_41 (i := 2) rfl rfl ?_
        refine x_aload_n (pc := 42) dX4_packCheaply_42 (i := 0) rfl rfl ?_
        refine x_iload_n (pc := 43) dX4_packCheaply_43 (i := 2) rfl rfl ?_
        refine x_callVi (pc := 44) (As := [.int x2]) (rest := [.int x2, .ref x0, .int x2]) (vx := fun a => a) (μf := fun _ => μ) fcX4 (mX4_cheapestLength S μ cx cy x0 x2) (fun _ => rfl) rfl (fun _ h => ifok h) dX4_packCheaply_44 q308 kX4_cheapestLength rfl ⟨by decide, by decide⟩ rfl (Nat.le_of_ble_eq_true rfl) (fun v8 => ?_)
        refine x_aload_n (pc := 47) dX4_packCheaply_47 (i := 1) rfl rfl ?_
        refine x_callVi (pc := 48) (As := [.int x2, .int v8, .ref x1]) (rest := [.int x2]) (vx := fun a => a.1) (μf := fun a => a.2) fcX4 (mX4_putTokenAt S μ cx cy x0 x2 v8 x1) (fun _ => rfl) rfl (fun _ h => ifok h) dX4_packCheaply_48 q312 kX4_putTokenAt rfl ⟨by decide, by decide⟩ rfl (Nat.le_of_ble_eq_true rfl) (fun r9 => ?_)
        refine x_iadd (pc := 51) dX4_packCheaply_51 ?_
        refine x_istore_n (pc := 52) dX4_packCheaply_52 (i := 2) rfl (by decide) (l' := [some (.ref x0), some (.ref x1), some (.int (x2 + r9.1)), some (.int x3)]) rfl ?_
        refine x_iinc (pc := 53) (v := x3 + (1 : Int32)) dX4_packCheaply_53 rfl (by rw [show Int32.ofInt (1) = (1 : Int32) from by decide]) (by decide) (l' := [some (.ref x0), some (.ref x1), some (.int (x2 + r9.1)), some (.int (x3 + (1 : Int32)))]) rfl ?_
        refine x_goto (pc := 56) (tgt := 19) dX4_packCheaply_56 (by decide) ?_
        exact ih r9.2 x0 x1 (x2 + r9.1) (x3 + (1 : Int32)) 
set_option maxHeartbeats 4000000 in
theorem xbX4_packCheaply {n0 c0 s0 cx cy : Nat} {S : mSh} {μ : mMm} (o : Nat) (p0 : Nat) : mX MX4_packCheaply n0 c0 s0 0 [some (.ref o), some (.ref p0), none, none] [] (S, μ, cx, cy) (iMV S cx cy) (bX4_packCheaply S μ o p0) := by
  unfold bX4_packCheaply
  refine x_aload_n (pc := 0) dX4_packCheaply_0 (i := 0) rfl rfl ?_
  refine x_aload_n (pc := 1) dX4_packCheaply_1 (i := 0) rfl rfl ?_
  refine x_gR (pc := 2) (k := 0) fcX4 dX4_packCheaply_2 q116 (by decide) rfl (fun v1 => ?_)
  refine x_gR (pc := 5) (k := 1) fcX3 dX4_packCheaply_5 q272 (by decide) rfl (fun v2 => ?_)
  refine x_gI (pc := 8) (k := 0) fcX6 dX4_packCheaply_8 q273 (by decide) rfl (fun v3 => ?_)
  refine x_callVi (pc := 11) (As := [.int v3]) (rest := []) (vx := fun a => a.1) (μf := fun a => a.2) fcX4 (mX4_leastFromEnd S μ cx cy o v3) (fun _ => rfl) rfl (fun _ h => ifok h) dX4_packCheaply_11 q276 kX4_leastFromEnd rfl ⟨by decide, by decide⟩ rfl (Nat.le_of_ble_eq_true rfl) (fun r4 => ?_)
  refine x_pop (pc := 14) dX4_packCheaply_14 rfl ?_
  refine x_iconst (pc := 15) (v := 0) dX4_packCheaply_15 (by decide) ?_
  refine x_istore_n (pc := 16) dX4_packCheaply_16 (i := 2) rfl (by decide) (l' := [some (.ref o), some (.ref p0), some (.int (0 : Int32)), none]) rfl ?_
  refine x_iconst (pc := 17) (v := 0) dX4_packCheaply_17 (by decide) ?_
  refine x_istore_n (pc := 18) dX4_packCheaply_18 (i := 3) rfl (by decide) (l' := [some (.ref o), some (.ref p0), some (.int (0 : Int32)), some (.int (0 : Int32))]) rfl ?_
  exact xX4_packCheaply_19 FU r4.2 o p0 (0 : Int32) (0 : Int32) 
theorem mX4_packCheaply (S : mSh) (μ : mMm) (cx cy : Nat) (o : Nat) (p0 : Nat) : mMet MX4_packCheaply [.ref o, .ref p0] (S, μ, cx, cy) (iMV S cx cy) (fX4_packCheaply S μ o p0) := mMet.of rfl (by decide) rfl (fun h => by cases h) (Nat.le_of_ble_eq_true rfl) (mX.ck (fun _ => xbX4_packCheaply o p0))
/-! SlideMills$Packer.packByLongest(LSlideMills$Sack;Z)V -/
def lX4_packByLongest_75 (k17 : mMm → Nat → Nat → Int32 → Int32 → Int32 → Int32 → Option (mMm)) (S : mSh) (μ : mMm) (x0 : Nat) (x1 : Nat) (x2 : Int32) (x3 : Int32) (x4 : Int32) (x5 : Int32) (x6 : Int32) : Option (mMm) := (fX4_putTokenAt S μ x0 x4 x6 x1).bind fun r9 => k17 r9.2 x0 x1 x2 x3 (x4 + r9.1) (x5 + (1 : Int32))
def lX4_packByLongest_17 (S : mSh) : Nat → mMm → Nat → Nat → Int32 → Int32 → Int32 → Int32 → Option (mMm)
  | 0, _, _, _, _, _, _, _ => none
  | n + 1, μ, x0, x1, x2, x3, x4, x5 => if (40 : Int32) ≤ x5 then (some μ) else ((gR S x0 4 0).bind fun v4 => (gR S v4 3 0).bind fun v5 => (gI S μ v5 2 1).bind fun v6 => if v6 ≤ x4 then (some μ) else ((gR S x0 4 0).bind fun v7 => (fX3_longestAt S μ v7 x4 x3).bind fun v8 => if x2 = 0 then (lX4_packByLongest_75 (lX4_packByLongest_17 S n) S μ x0 x1 x2 x3 x4 x5 v8) else ((gR S x0 4 0).bind fun v10 => (fX3_longestAt S μ v10 (x4 + (1 : Int32)) x3).bind fun v11 => if v11 ≤ v8 then (lX4_packByLongest_75 (lX4_packByLongest_17 S n) S μ x0 x1 x2 x3 x4 x5 v8) else (lX4_packByLongest_75 (lX4_packByLongest_17 S n) S μ x0 x1 x2 x3 x4 x5 (0 : Int32)))))
def bX4_packByLongest (S : mSh) (μ : mMm) (o : Nat) (p0 : Nat) (p1 : Int32) : Option (mMm) := (gR S o 4 0).bind fun v1 => (gR S v1 3 1).bind fun v2 => (gI S μ v2 6 0).bind fun v3 => lX4_packByLongest_17 S FU μ o p0 p1 v3 (0 : Int32) (0 : Int32)
def fX4_packByLongest (S : mSh) (μ : mMm) (o : Nat) (p0 : Nat) (p1 : Int32) : Option (mMm) := if mok S o 4 = true then bX4_packByLongest S μ o p0 p1 else none
abbrev MX4_packByLongest : mM := ((yX4_packByLongest, cX4_packByLongest, 7, none), (4, 92), (false, false), RX4, eT)
theorem kX4_packByLongest : mCalV MX4_packByLongest RX4 2 := ⟨q327, q328, q32, q329, by decide +kernel⟩
set_option maxHeartbeats 4000000 in
theorem xX4_packByLongest_75 {n0 c0 s0 cx cy : Nat} {S : mSh} {k17 : mMm → Nat → Nat → Int32 → Int32 → Int32 → Int32 → Option (mMm)} (hk17 : ∀ (μ : mMm) (x0 : Nat) (x1 : Nat) (x2 : Int32) (x3 : Int32) (x4 : Int32) (x5 : Int32) (d6 : Option Value), mX MX4_packByLongest n0 c0 s0 17 [some (.ref x0), some (.ref x1), some (.int x2), some (.int x3), some (.int x4), some (.int x5), d6] [] (S, μ, cx, cy) (iMV S cx cy) (k17 μ x0 x1 x2 x3 x4 x5)) (μ : mMm) (x0 : Nat) (x1 : Nat) (x2 : Int32) (x3 : Int32) (x4 : Int32) (x5 : Int32) (x6 : Int32) : mX MX4_packByLongest n0 c0 s0 75 [some (.ref x0), some (.ref x1), some (.int x2), some (.int x3), some (.int x4), some (.int x5), some (.int x6)] [] (S, μ, cx, cy) (iMV S cx cy) (lX4_packByLongest_75 k17 S μ x0 x1 x2 x3 x4 x5 x6) := by
  unfold lX4_packByLongest_75
  refine x_iload (pc := 75) dX4_packByLongest_75 rfl ?_
  refine x_aload_n (pc := 77) dX4_packByLongest_77 (i := 0) rfl rfl ?_
  refine x_iload (pc := 78) dX4_packByLongest_78 rfl ?_
  refine x_iload (pc := 80) dX4_packByLongest_80 rfl ?_
  refine x_aload_n (pc := 82) dX4_packByLongest_82 (i := 1) rfl rfl ?_
  refine x_callVi (pc := 83) (As := [.int x4, .int x6, .ref x1]) (rest := [.int x4]) (vx := fun a => a.1) (μf := fun a => a.2) fcX4 (mX4_putTokenAt S μ cx cy x0 x4 x6 x1) (fun _ => rfl) rfl (fun _ h => ifok h) dX4_packByLongest_83 q312 kX4_putTokenAt rfl ⟨by decide, by decide⟩ rfl (Nat.le_of_ble_eq_true rfl) (fun r9 => ?_)
  refine x_iadd (pc := 86) dX4_packByLongest_86 ?_
  refine x_istore (pc := 87) dX4_packByLongest_87 (by decide) (l' := [some (.ref x0), some (.ref x1), some (.int x2), some (.int x3), some (.int (x4 + r9.1)), some (.int x5), some (.int x6)]) rfl ?_
  refine x_iinc (pc := 89) (v := x5 + (1 : Int32)) dX4_packByLongest_89 rfl (by rw [show Int32.ofInt (1) = (1 : Int32) from by decide]) (by decide) (l' := [some (.ref x0), some (.ref x1), some (.int x2), some (.int x3), some (.int (x4 + r9.1)), some (.int (x5 + (1 : Int32))), some (.int x6)]) rfl ?_
  refine x_goto (pc := 92) (tgt := 17) dX4_packByLongest_92 (by decide) ?_
  exact hk17 r9.2 x0 x1 x2 x3 (x4 + r9.1) (x5 + (1 : Int32)) _
set_option maxHeartbeats 4000000 in
theorem xX4_packByLongest_17 {n0 c0 s0 cx cy : Nat} {S : mSh} : ∀ (n : Nat) (μ : mMm) (x0 : Nat) (x1 : Nat) (x2 : Int32) (x3 : Int32) (x4 : Int32) (x5 : Int32) (d6 : Option Value), mX MX4_packByLongest n0 c0 s0 17 [some (.ref x0), some (.ref x1), some (.int x2), some (.int x3), some (.int x4), some (.int x5), d6] [] (S, μ, cx, cy) (iMV S cx cy) (lX4_packByLongest_17 S n μ x0 x1 x2 x3 x4 x5) := by
  intro n
  induction n with
  | zero => intros; exact x_none
  | succ n ih =>
    intro μ x0 x1 x2 x3 x4 x5 d6
    unfold lX4_packByLongest_17
    refine x_iload (pc := 17) dX4_packByLongest_17 rfl ?_
    refine x_bipush (pc := 19) (v := 40) dX4_packByLongest_19 (by decide) ?_
    refine x_icmp_ge (pc := 21) (tgt := 95) dX4_packByLongest_21 (by decide) ?_ ?_
    · exact x_ret rfl dX4_packByLongest_95 rfl
    · refine x_iload (pc := 24) dX4_packByLongest_24 rfl ?_
      refine x_aload_n (pc := 26) dX4_packByLongest_26 (i := 0) rfl rfl ?_
      refine x_gR (pc := 27) (k := 0) fcX4 dX4_packByLongest_27 q116 (by decide) rfl (fun v4 => ?_)
      refine x_gR (pc := 30) (k := 0) fcX3 dX4_packByLongest_30 q274 (by decide) rfl (fun v5 => ?_)
      refine x_gI (pc := 33) (k := 1) fcX2 dX4_packByLongest_33 q275 (by decide) rfl (fun v6 => ?_)
      refine x_icmp_ge (pc := 36) (tgt := 95) dX4_packByLongest_36 (by decide) ?_ ?_
      · exact x_ret rfl dX4_packByLongest_95 rfl
      · refine x_aload_n (pc := 39) dX4_packByLongest_39 (i := 0) rfl rfl ?_
        refine x_gR (pc := 40) (k := 0) fcX4 dX4_packByLongest_40 q116 (by decide) rfl (fun v7 => ?_)
        refine x_iload (pc := 43) dX4_packByLongest_43 rfl ?_
        refine x_iload_n (pc := 45) dX4_packByLongest_45 (i := 3) rfl rfl ?_
        refine x_callVi (pc := 46) (As := [.int x4, .int x3]) (rest := []) (vx := fun a => a) (μf := fun _ => μ) fcX3 (mX3_longestAt S μ cx cy v7 x4 x3) (fun _ => rfl) rfl (fun _ h => ifok h) dX4_packByLongest_46 q295 kX3_longestAt rfl ⟨by decide, by decide⟩ rfl (Nat.le_of_ble_eq_true rfl) (fun v8 => ?_)
        refine x_istore (pc := 49) dX4_packByLongest_49 (by decide) (l' := [some (.ref x0), some (.ref x1), some (.int x2), some (.int x3), some (.int x4), some (.int x5), some (.int v8)]) rfl ?_
        refine x_iload_n (pc := 51) dX4_packByLongest_51 (i := 2) rfl rfl ?_
        refine x_if_eq (pc := 52) (tgt := 75) dX4_packByLongest_52 (by decide) ?_ ?_
        · exact xX4_packByLongest_75 (k17 := (lX4_packByLongest_17 S n)) ih μ x0 x1 x2 x3 x4 x5 v8
        · refine x_aload_n (pc := 55) dX4_packByLongest_55 (i := 0) rfl rfl ?_
          refine x_gR (pc := 56) (k := 0) fcX4 dX4_packByLongest_56 q116 (by decide) rfl (fun v10 => ?_)
          refine x_iload (pc := 59) dX4_packByLongest_59 rfl ?_
          refine x_iconst (pc := 61) (v := 1) dX4_packByLongest_61 (by decide) ?_
          refine x_iadd (pc := 62) dX4_packByLongest_62 ?_
          refine x_iload_n (pc := 63) dX4_packByLongest_63 (i := 3) rfl rfl ?_
          refine x_callVi (pc := 64) (As := [.int (x4 + (1 : Int32)), .int x3]) (rest := []) (vx := fun a => a) (μf := fun _ => μ) fcX3 (mX3_longestAt S μ cx cy v10 (x4 + (1 : Int32)) x3) (fun _ => rfl) rfl (fun _ h => ifok h) dX4_packByLongest_64 q295 kX3_longestAt rfl ⟨by decide, by decide⟩ rfl (Nat.le_of_ble_eq_true rfl) (fun v11 => ?_)
          refine x_iload (pc := 67) dX4_packByLongest_67 rfl ?_
          refine x_icmp_le (pc := 69) (tgt := 75) dX4_packByLongest_69 (by decide) ?_ ?_
          · exact xX4_packByLongest_75 (k17 := (lX4_packByLongest_17 S n)) ih μ x0 x1 x2 x3 x4 x5 v8
          · refine x_iconst (pc := 72) (v := 0) dX4_packByLongest_72 (by decide) ?_
            refine x_istore (pc := 73) dX4_packByLongest_73 (by decide) (l' := [some (.ref x0), some (.ref x1), some (.int x2), some (.int x3), some (.int x4), some (.int x5), some (.int (0 : Int32))]) rfl ?_
            exact xX4_packByLongest_75 (k17 := (lX4_packByLongest_17 S n)) ih μ x0 x1 x2 x3 x4 x5 (0 : Int32) 
set_option maxHeartbeats 4000000 in
theorem xbX4_packByLongest {n0 c0 s0 cx cy : Nat} {S : mSh} {μ : mMm} (o : Nat) (p0 : Nat) (p1 : Int32) : mX MX4_packByLongest n0 c0 s0 0 [some (.ref o), some (.ref p0), some (.int p1), none, none, none, none] [] (S, μ, cx, cy) (iMV S cx cy) (bX4_packByLongest S μ o p0 p1) := by
  unfold bX4_packByLongest
  refine x_aload_n (pc := 0) dX4_packByLongest_0 (i := 0) rfl rfl ?_
  refine x_gR (pc := 1) (k := 0) fcX4 dX4_packByLongest_1 q116 (by decide) rfl (fun v1 => ?_)
  refine x_gR (pc := 4) (k := 1) fcX3 dX4_packByLongest_4 q272 (by decide) rfl (fun v2 => ?_)
  refine x_gI (pc := 7) (k := 0) fcX6 dX4_packByLongest_7 q273 (by decide) rfl (fun v3 => ?_)
  refine x_istore_n (pc := 10) dX4_packByLongest_10 (i := 3) rfl (by decide) (l' := [some (.ref o), some (.ref p0), some (.int p1), some (.int v3), none, none, none]) rfl ?_
  refine x_iconst (pc := 11) (v := 0) dX4_packByLongest_11 (by decide) ?_
  refine x_istore (pc := 12) dX4_packByLongest_12 (by decide) (l' := [some (.ref o), some (.ref p0), some (.int p1), some (.int v3), some (.int (0 : Int32)), none, none]) rfl ?_
  refine x_iconst (pc := 14) (v := 0) dX4_packByLongest_14 (by decide) ?_
  refine x_istore (pc := 15) dX4_packByLongest_15 (by decide) (l' := [some (.ref o), some (.ref p0), some (.int p1), some (.int v3), some (.int (0 : Int32)), some (.int (0 : Int32)), none]) rfl ?_
  exact xX4_packByLongest_17 FU μ o p0 p1 v3 (0 : Int32) (0 : Int32) _
theorem mX4_packByLongest (S : mSh) (μ : mMm) (cx cy : Nat) (o : Nat) (p0 : Nat) (p1 : Int32) : mMet MX4_packByLongest [.ref o, .ref p0, .int p1] (S, μ, cx, cy) (iMV S cx cy) (fX4_packByLongest S μ o p0 p1) := mMet.of rfl (by decide) rfl (fun h => by cases h) (Nat.le_of_ble_eq_true rfl) (mX.ck (fun _ => xbX4_packByLongest o p0 p1))
/-! SlideMills$Packer.packBy(ILSlideMills$Sack;)V -/
def lX4_packBy_29 (S : mSh) (μ : mMm) (t0 : Int32) (t1 : Nat) (t2 : Nat) : Option (mMm) := (fX4_packByLongest S μ t2 t1 t0).bind fun m2 => some m2
def bX4_packBy (S : mSh) (μ : mMm) (o : Nat) (p0 : Int32) (p1 : Nat) : Option (mMm) := (fX5_clear S μ p1).bind fun m1 => if p0 = (2 : Int32) then ((fX4_packCheaply S m1 o p1).bind fun m3 => some m3) else (if p0 = (1 : Int32) then (lX4_packBy_29 S m1 (1 : Int32) p1 o) else (lX4_packBy_29 S m1 (0 : Int32) p1 o))
def fX4_packBy (S : mSh) (μ : mMm) (o : Nat) (p0 : Int32) (p1 : Nat) : Option (mMm) := if mok S o 4 = true then bX4_packBy S μ o p0 p1 else none
abbrev MX4_packBy : mM := ((yX4_packBy, cX4_packBy, 3, none), (5, 119), (false, false), RX4, eT)
theorem kX4_packBy : mCalV MX4_packBy RX4 2 := ⟨q261, q262, q32, q263, by decide +kernel⟩
set_option maxHeartbeats 4000000 in
theorem xX4_packBy_29 {n0 c0 s0 cx cy : Nat} {S : mSh} (μ : mMm) (t0 : Int32) (t1 : Nat) (t2 : Nat) (d0 : Option Value) (d1 : Option Value) (d2 : Option Value) : mX MX4_packBy n0 c0 s0 29 [d0, d1, d2] [.int t0, .ref t1, .ref t2] (S, μ, cx, cy) (iMV S cx cy) (lX4_packBy_29 S μ t0 t1 t2) := by
  unfold lX4_packBy_29
  refine x_callVv (pc := 29) (As := [.ref t1, .int t0]) (rest := []) (μf := fun a => a) fcX4 (mX4_packByLongest S μ cx cy t2 t1 t0) (fun _ => rfl) rfl (fun _ h => ifok h) dX4_packBy_29 q326 kX4_packByLongest rfl ⟨by decide, by decide⟩ rfl (Nat.le_of_ble_eq_true rfl) (fun m2 => ?_)
  exact x_ret rfl dX4_packBy_32 rfl
set_option maxHeartbeats 4000000 in
theorem xbX4_packBy {n0 c0 s0 cx cy : Nat} {S : mSh} {μ : mMm} (o : Nat) (p0 : Int32) (p1 : Nat) : mX MX4_packBy n0 c0 s0 0 [some (.ref o), some (.int p0), some (.ref p1)] [] (S, μ, cx, cy) (iMV S cx cy) (bX4_packBy S μ o p0 p1) := by
  unfold bX4_packBy
  refine x_aload_n (pc := 0) dX4_packBy_0 (i := 2) rfl rfl ?_
  refine x_callVv (pc := 1) (As := []) (rest := []) (μf := fun a => a) fcX5 (mX5_clear S μ cx cy p1) (fun _ => rfl) rfl (fun _ h => ifok h) dX4_packBy_1 q264 kX5_clear rfl ⟨by decide, by decide⟩ rfl (Nat.le_of_ble_eq_true rfl) (fun m1 => ?_)
  refine x_iload_n (pc := 4) dX4_packBy_4 (i := 1) rfl rfl ?_
  refine x_iconst (pc := 5) (v := 2) dX4_packBy_5 (by decide) ?_
  refine x_icmp_ne (pc := 6) (tgt := 17) dX4_packBy_6 (by decide) ?_ ?_
  · refine x_aload_n (pc := 9) dX4_packBy_9 (i := 0) rfl rfl ?_
    refine x_aload_n (pc := 10) dX4_packBy_10 (i := 2) rfl rfl ?_
    refine x_callVv (pc := 11) (As := [.ref p1]) (rest := []) (μf := fun a => a) fcX4 (mX4_packCheaply S m1 cx cy o p1) (fun _ => rfl) rfl (fun _ h => ifok h) dX4_packBy_11 q268 kX4_packCheaply rfl ⟨by decide, by decide⟩ rfl (Nat.le_of_ble_eq_true rfl) (fun m3 => ?_)
    refine x_goto (pc := 14) (tgt := 32) dX4_packBy_14 (by decide) ?_
    exact x_ret rfl dX4_packBy_32 rfl
  · refine x_aload_n (pc := 17) dX4_packBy_17 (i := 0) rfl rfl ?_
    refine x_aload_n (pc := 18) dX4_packBy_18 (i := 2) rfl rfl ?_
    refine x_iload_n (pc := 19) dX4_packBy_19 (i := 1) rfl rfl ?_
    refine x_iconst (pc := 20) (v := 1) dX4_packBy_20 (by decide) ?_
    refine x_icmp_ne (pc := 21) (tgt := 28) dX4_packBy_21 (by decide) ?_ ?_
    · refine x_iconst (pc := 24) (v := 1) dX4_packBy_24 (by decide) ?_
      refine x_goto (pc := 25) (tgt := 29) dX4_packBy_25 (by decide) ?_
      exact xX4_packBy_29 m1 (1 : Int32) p1 o _ _ _
    · refine x_iconst (pc := 28) (v := 0) dX4_packBy_28 (by decide) ?_
      exact xX4_packBy_29 m1 (0 : Int32) p1 o _ _ _
theorem mX4_packBy (S : mSh) (μ : mMm) (cx cy : Nat) (o : Nat) (p0 : Int32) (p1 : Nat) : mMet MX4_packBy [.ref o, .int p0, .ref p1] (S, μ, cx, cy) (iMV S cx cy) (fX4_packBy S μ o p0 p1) := mMet.of rfl (by decide) rfl (fun h => by cases h) (Nat.le_of_ble_eq_true rfl) (mX.ck (fun _ => xbX4_packBy o p0 p1))
/-! SlideMills$Packer.lower(II)V -/
def bX4_lower (S : mSh) (μ : mMm) (o : Nat) (p0 : Int32) (p1 : Int32) : Option (mMm) := (fX4_costAt S μ o p0).bind fun v1 => (fX4_setCost S μ o p0 (mMin v1 p1)).bind fun m2 => some m2
def fX4_lower (S : mSh) (μ : mMm) (o : Nat) (p0 : Int32) (p1 : Int32) : Option (mMm) := if mok S o 4 = true then bX4_lower S μ o p0 p1 else none
abbrev MX4_lower : mM := ((yX4_lower, cX4_lower, 3, none), (1, 22), (false, false), RX4, eT)
theorem kX4_lower : mCalV MX4_lower RX4 2 := ⟨q578, q579, q32, q580, by decide +kernel⟩
set_option maxHeartbeats 4000000 in
theorem xbX4_lower {n0 c0 s0 cx cy : Nat} {S : mSh} {μ : mMm} (o : Nat) (p0 : Int32) (p1 : Int32) : mX MX4_lower n0 c0 s0 0 [some (.ref o), some (.int p0), some (.int p1)] [] (S, μ, cx, cy) (iMV S cx cy) (bX4_lower S μ o p0 p1) := by
  unfold bX4_lower
  refine x_aload_n (pc := 0) dX4_lower_0 (i := 0) rfl rfl ?_
  refine x_iload_n (pc := 1) dX4_lower_1 (i := 1) rfl rfl ?_
  refine x_aload_n (pc := 2) dX4_lower_2 (i := 0) rfl rfl ?_
  refine x_iload_n (pc := 3) dX4_lower_3 (i := 1) rfl rfl ?_
  refine x_callVi (pc := 4) (As := [.int p0]) (rest := [.int p0, .ref o]) (vx := fun a => a) (μf := fun _ => μ) fcX4 (mX4_costAt S μ cx cy o p0) (fun _ => rfl) rfl (fun _ h => ifok h) dX4_lower_4 q291 kX4_costAt rfl ⟨by decide, by decide⟩ rfl (Nat.le_of_ble_eq_true rfl) (fun v1 => ?_)
  refine x_iload_n (pc := 7) dX4_lower_7 (i := 2) rfl rfl ?_
  refine x_min (pc := 8) dX4_lower_8 q283 q284 q285 q286 ⟨by decide, by decide⟩ (Nat.le_of_ble_eq_true rfl) ?_
  refine x_callVv (pc := 11) (As := [.int p0, .int (mMin v1 p1)]) (rest := []) (μf := fun a => a) fcX4 (mX4_setCost S μ cx cy o p0 (mMin v1 p1)) (fun _ => rfl) rfl (fun _ h => ifok h) dX4_lower_11 q287 kX4_setCost rfl ⟨by decide, by decide⟩ rfl (Nat.le_of_ble_eq_true rfl) (fun m2 => ?_)
  exact x_ret rfl dX4_lower_14 rfl
theorem mX4_lower (S : mSh) (μ : mMm) (cx cy : Nat) (o : Nat) (p0 : Int32) (p1 : Int32) : mMet MX4_lower [.ref o, .int p0, .int p1] (S, μ, cx, cy) (iMV S cx cy) (fX4_lower S μ o p0 p1) := mMet.of rfl (by decide) rfl (fun h => by cases h) (Nat.le_of_ble_eq_true rfl) (mX.ck (fun _ => xbX4_lower o p0 p1))
/-! SlideMills$Packer.leastFromBeginning()I -/
def lX4_leastFromBeginning_102 (k35 : mMm → Nat → Int32 → Option (Int32 × mMm)) (S : mSh) : Nat → mMm → Nat → Int32 → Int32 → Int32 → Option (Int32 × mMm)
  | 0, _, _, _, _, _ => none
  | n + 1, μ, x0, x1, x2, x3 => if x2 < x3 then (k35 μ x0 (x1 + (1 : Int32))) else ((fX4_costAt S μ x0 x1).bind fun v23 => (gR S x0 4 0).bind fun v24 => (gR S v24 3 1).bind fun v25 => (gI S μ v25 6 4).bind fun v26 => (fX4_lower S μ x0 (x1 + x3) (v23 + v26)).bind fun m27 => lX4_leastFromBeginning_102 k35 S n m27 x0 x1 x2 (x3 + (1 : Int32)))
def lX4_leastFromBeginning_35 (S : mSh) : Nat → mMm → Nat → Int32 → Option (Int32 × mMm)
  | 0, _, _, _ => none
  | n + 1, μ, x0, x1 => (gR S x0 4 0).bind fun v3 => (gR S v3 3 0).bind fun v4 => (gI S μ v4 2 1).bind fun v5 => if v5 ≤ x1 then ((gR S x0 4 0).bind fun v6 => (gR S v6 3 0).bind fun v7 => (gI S μ v7 2 1).bind fun v8 => (fX4_costAt S μ x0 v8).bind fun v9 => some (v9, μ)) else ((fX4_costAt S μ x0 x1).bind fun v10 => (gR S x0 4 0).bind fun v11 => (gR S v11 3 1).bind fun v12 => (gI S μ v12 6 3).bind fun v13 => (fX4_lower S μ x0 (x1 + (1 : Int32)) (v10 + v13)).bind fun m14 => (gR S x0 4 0).bind fun v15 => (gR S x0 4 0).bind fun v16 => (gR S v16 3 1).bind fun v17 => (gI S m14 v17 6 0).bind fun v18 => (fX3_longestAt S m14 v15 x1 v18).bind fun v19 => (gR S x0 4 0).bind fun v20 => (gR S v20 3 1).bind fun v21 => (gI S m14 v21 6 1).bind fun v22 => lX4_leastFromBeginning_102 (lX4_leastFromBeginning_35 S n) S FU m14 x0 x1 v19 v22)
def lX4_leastFromBeginning_26 (k2 : mMm → Nat → Int32 → Option (Int32 × mMm)) (S : mSh) (μ : mMm) (x0 : Nat) (x1 : Int32) (t0 : Int32) (t1 : Int32) (t2 : Nat) : Option (Int32 × mMm) := (stI S μ t2 t1 t0).bind fun m29 => k2 m29 x0 (x1 + (1 : Int32))
def lX4_leastFromBeginning_2 (S : mSh) : Nat → mMm → Nat → Int32 → Option (Int32 × mMm)
  | 0, _, _, _ => none
  | n + 1, μ, x0, x1 => (gR S x0 4 1).bind fun v1 => (aL S v1 12).bind fun v2 => if v2 ≤ x1 then (lX4_leastFromBeginning_35 S FU μ x0 (0 : Int32)) else ((gR S x0 4 1).bind fun v28 => if x1 = 0 then (lX4_leastFromBeginning_26 (lX4_leastFromBeginning_2 S n) S μ x0 x1 (0 : Int32) x1 v28) else (lX4_leastFromBeginning_26 (lX4_leastFromBeginning_2 S n) S μ x0 x1 (1000000 : Int32) x1 v28))
def bX4_leastFromBeginning (S : mSh) (μ : mMm) (o : Nat) : Option (Int32 × mMm) := lX4_leastFromBeginning_2 S FU μ o (0 : Int32)
def fX4_leastFromBeginning (S : mSh) (μ : mMm) (o : Nat) : Option (Int32 × mMm) := if mok S o 4 = true then bX4_leastFromBeginning S μ o else none
abbrev MX4_leastFromBeginning : mM := ((yX4_leastFromBeginning, cX4_leastFromBeginning, 4, (some .int)), (3, 71), (false, false), RX4, eT)
theorem kX4_leastFromBeginning : mCalV MX4_leastFromBeginning RX4 0 := ⟨q573, q574, q32, q575, by decide +kernel⟩
set_option maxHeartbeats 4000000 in
theorem xX4_leastFromBeginning_102 {n0 c0 s0 cx cy : Nat} {S : mSh} {k35 : mMm → Nat → Int32 → Option (Int32 × mMm)} (hk35 : ∀ (μ : mMm) (x0 : Nat) (x1 : Int32) (d2 : Option Value) (d3 : Option Value), mX MX4_leastFromBeginning n0 c0 s0 35 [some (.ref x0), some (.int x1), d2, d3] [] (S, μ, cx, cy) (iMI S cx cy) (k35 μ x0 x1)) : ∀ (n : Nat) (μ : mMm) (x0 : Nat) (x1 : Int32) (x2 : Int32) (x3 : Int32), mX MX4_leastFromBeginning n0 c0 s0 102 [some (.ref x0), some (.int x1), some (.int x2), some (.int x3)] [] (S, μ, cx, cy) (iMI S cx cy) (lX4_leastFromBeginning_102 k35 S n μ x0 x1 x2 x3) := by
  intro n
  induction n with
  | zero => intros; exact x_none
  | succ n ih =>
    intro μ x0 x1 x2 x3
    unfold lX4_leastFromBeginning_102
    refine x_iload_n (pc := 102) dX4_leastFromBeginning_102 (i := 3) rfl rfl ?_
    refine x_iload_n (pc := 103) dX4_leastFromBeginning_103 (i := 2) rfl rfl ?_
    refine x_icmp_gt (pc := 104) (tgt := 136) dX4_leastFromBeginning_104 (by decide) ?_ ?_
    · refine x_iinc (pc := 136) (v := x1 + (1 : Int32)) dX4_leastFromBeginning_136 rfl (by rw [show Int32.ofInt (1) = (1 : Int32) from by decide]) (by decide) (l' := [some (.ref x0), some (.int (x1 + (1 : Int32))), some (.int x2), some (.int x3)]) rfl ?_
      refine x_goto (pc := 139) (tgt := 35) dX4_leastFromBeginning_139 (by decide) ?_
      exact hk35 μ x0 (x1 + (1 : Int32)) _ _
    · refine x_aload_n (pc := 107) dX4_leastFromBeginning_107 (i := 0) rfl rfl ?_
      refine x_iload_n (pc := 108) dX4_leastFromBeginning_108 (i := 1) rfl rfl ?_
      refine x_iload_n (pc := 109) dX4_leastFromBeginning_109 (i := 3) rfl rfl ?_
      refine x_iadd (pc := 110) dX4_leastFromBeginning_110 ?_
      refine x_aload_n (pc := 111) dX4_leastFromBeginning_111 (i := 0) rfl rfl ?_
      refine x_iload_n (pc := 112) dX4_leastFromBeginning_112 (i := 1) rfl rfl ?_
      refine x_callVi (pc := 113) (As := [.int x1]) (rest := [.int (x1 + x3), .ref x0]) (vx := fun a => a) (μf := fun _ => μ) fcX4 (mX4_costAt S μ cx cy x0 x1) (fun _ => rfl) rfl (fun _ h => ifok h) dX4_leastFromBeginning_113 q291 kX4_costAt rfl ⟨by decide, by decide⟩ rfl (Nat.le_of_ble_eq_true rfl) (fun v23 => ?_)
      refine x_aload_n (pc := 116) dX4_leastFromBeginning_116 (i := 0) rfl rfl ?_
      refine x_gR (pc := 117) (k := 0) fcX4 dX4_leastFromBeginning_117 q116 (by decide) rfl (fun v24 => ?_)
      refine x_gR (pc := 120) (k := 1) fcX3 dX4_leastFromBeginning_120 q272 (by decide) rfl (fun v25 => ?_)
      refine x_gI (pc := 123) (k := 4) fcX6 dX4_leastFromBeginning_123 q282 (by decide) rfl (fun v26 => ?_)
      refine x_iadd (pc := 126) dX4_leastFromBeginning_126 ?_
      refine x_callVv (pc := 127) (As := [.int (x1 + x3), .int (v23 + v26)]) (rest := []) (μf := fun a => a) fcX4 (mX4_lower S μ cx cy x0 (x1 + x3) (v23 + v26)) (fun _ => rfl) rfl (fun _ h => ifok h) dX4_leastFromBeginning_127 q577 kX4_lower rfl ⟨by decide, by decide⟩ rfl (Nat.le_of_ble_eq_true rfl) (fun m27 => ?_)
      refine x_iinc (pc := 130) (v := x3 + (1 : Int32)) dX4_leastFromBeginning_130 rfl (by rw [show Int32.ofInt (1) = (1 : Int32) from by decide]) (by decide) (l' := [some (.ref x0), some (.int x1), some (.int x2), some (.int (x3 + (1 : Int32)))]) rfl ?_
      refine x_goto (pc := 133) (tgt := 102) dX4_leastFromBeginning_133 (by decide) ?_
      exact ih m27 x0 x1 x2 (x3 + (1 : Int32)) 
set_option maxHeartbeats 4000000 in
theorem xX4_leastFromBeginning_35 {n0 c0 s0 cx cy : Nat} {S : mSh} : ∀ (n : Nat) (μ : mMm) (x0 : Nat) (x1 : Int32) (d2 : Option Value) (d3 : Option Value), mX MX4_leastFromBeginning n0 c0 s0 35 [some (.ref x0), some (.int x1), d2, d3] [] (S, μ, cx, cy) (iMI S cx cy) (lX4_leastFromBeginning_35 S n μ x0 x1) := by
  intro n
  induction n with
  | zero => intros; exact x_none
  | succ n ih =>
    intro μ x0 x1 d2 d3
    unfold lX4_leastFromBeginning_35
    refine x_iload_n (pc := 35) dX4_leastFromBeginning_35 (i := 1) rfl rfl ?_
    refine x_aload_n (pc := 36) dX4_leastFromBeginning_36 (i := 0) rfl rfl ?_
    refine x_gR (pc := 37) (k := 0) fcX4 dX4_leastFromBeginning_37 q116 (by decide) rfl (fun v3 => ?_)
    refine x_gR (pc := 40) (k := 0) fcX3 dX4_leastFromBeginning_40 q274 (by decide) rfl (fun v4 => ?_)
    refine x_gI (pc := 43) (k := 1) fcX2 dX4_leastFromBeginning_43 q275 (by decide) rfl (fun v5 => ?_)
    refine x_icmp_ge (pc := 46) (tgt := 142) dX4_leastFromBeginning_46 (by decide) ?_ ?_
    · refine x_aload_n (pc := 142) dX4_leastFromBeginning_142 (i := 0) rfl rfl ?_
      refine x_aload_n (pc := 143) dX4_leastFromBeginning_143 (i := 0) rfl rfl ?_
      refine x_gR (pc := 144) (k := 0) fcX4 dX4_leastFromBeginning_144 q116 (by decide) rfl (fun v6 => ?_)
      refine x_gR (pc := 147) (k := 0) fcX3 dX4_leastFromBeginning_147 q274 (by decide) rfl (fun v7 => ?_)
      refine x_gI (pc := 150) (k := 1) fcX2 dX4_leastFromBeginning_150 q275 (by decide) rfl (fun v8 => ?_)
      refine x_callVi (pc := 153) (As := [.int v8]) (rest := []) (vx := fun a => a) (μf := fun _ => μ) fcX4 (mX4_costAt S μ cx cy x0 v8) (fun _ => rfl) rfl (fun _ h => ifok h) dX4_leastFromBeginning_153 q291 kX4_costAt rfl ⟨by decide, by decide⟩ rfl (Nat.le_of_ble_eq_true rfl) (fun v9 => ?_)
      exact x_iret rfl dX4_leastFromBeginning_156 rfl rfl
    · refine x_aload_n (pc := 49) dX4_leastFromBeginning_49 (i := 0) rfl rfl ?_
      refine x_iload_n (pc := 50) dX4_leastFromBeginning_50 (i := 1) rfl rfl ?_
      refine x_iconst (pc := 51) (v := 1) dX4_leastFromBeginning_51 (by decide) ?_
      refine x_iadd (pc := 52) dX4_leastFromBeginning_52 ?_
      refine x_aload_n (pc := 53) dX4_leastFromBeginning_53 (i := 0) rfl rfl ?_
      refine x_iload_n (pc := 54) dX4_leastFromBeginning_54 (i := 1) rfl rfl ?_
      refine x_callVi (pc := 55) (As := [.int x1]) (rest := [.int (x1 + (1 : Int32)), .ref x0]) (vx := fun a => a) (μf := fun _ => μ) fcX4 (mX4_costAt S μ cx cy x0 x1) (fun _ => rfl) rfl (fun _ h => ifok h) dX4_leastFromBeginning_55 q291 kX4_costAt rfl ⟨by decide, by decide⟩ rfl (Nat.le_of_ble_eq_true rfl) (fun v10 => ?_)
      refine x_aload_n (pc := 58) dX4_leastFromBeginning_58 (i := 0) rfl rfl ?_
      refine x_gR (pc := 59) (k := 0) fcX4 dX4_leastFromBeginning_59 q116 (by decide) rfl (fun v11 => ?_)
      refine x_gR (pc := 62) (k := 1) fcX3 dX4_leastFromBeginning_62 q272 (by decide) rfl (fun v12 => ?_)
      refine x_gI (pc := 65) (k := 3) fcX6 dX4_leastFromBeginning_65 q280 (by decide) rfl (fun v13 => ?_)
      refine x_iadd (pc := 68) dX4_leastFromBeginning_68 ?_
      refine x_callVv (pc := 69) (As := [.int (x1 + (1 : Int32)), .int (v10 + v13)]) (rest := []) (μf := fun a => a) fcX4 (mX4_lower S μ cx cy x0 (x1 + (1 : Int32)) (v10 + v13)) (fun _ => rfl) rfl (fun _ h => ifok h) dX4_leastFromBeginning_69 q577 kX4_lower rfl ⟨by decide, by decide⟩ rfl (Nat.le_of_ble_eq_true rfl) (fun m14 => ?_)
      refine x_aload_n (pc := 72) dX4_leastFromBeginning_72 (i := 0) rfl rfl ?_
      refine x_gR (pc := 73) (k := 0) fcX4 dX4_leastFromBeginning_73 q116 (by decide) rfl (fun v15 => ?_)
      refine x_iload_n (pc := 76) dX4_leastFromBeginning_76 (i := 1) rfl rfl ?_
      refine x_aload_n (pc := 77) dX4_leastFromBeginning_77 (i := 0) rfl rfl ?_
      refine x_gR (pc := 78) (k := 0) fcX4 dX4_leastFromBeginning_78 q116 (by decide) rfl (fun v16 => ?_)
      refine x_gR (pc := 81) (k := 1) fcX3 dX4_leastFromBeginning_81 q272 (by decide) rfl (fun v17 => ?_)
      refine x_gI (pc := 84) (k := 0) fcX6 dX4_leastFromBeginning_84 q273 (by decide) rfl (fun v18 => ?_)
      refine x_callVi (pc := 87) (As := [.int x1, .int v18]) (rest := []) (vx := fun a => a) (μf := fun _ => m14) fcX3 (mX3_longestAt S m14 cx cy v15 x1 v18) (fun _ => rfl) rfl (fun _ h => ifok h) dX4_leastFromBeginning_87 q295 kX3_longestAt rfl ⟨by decide, by decide⟩ rfl (Nat.le_of_ble_eq_true rfl) (fun v19 => ?_)
      refine x_istore_n (pc := 90) dX4_leastFromBeginning_90 (i := 2) rfl (by decide) (l' := [some (.ref x0), some (.int x1), some (.int v19), d3]) rfl ?_
      refine x_aload_n (pc := 91) dX4_leastFromBeginning_91 (i := 0) rfl rfl ?_
      refine x_gR (pc := 92) (k := 0) fcX4 dX4_leastFromBeginning_92 q116 (by decide) rfl (fun v20 => ?_)
      refine x_gR (pc := 95) (k := 1) fcX3 dX4_leastFromBeginning_95 q272 (by decide) rfl (fun v21 => ?_)
      refine x_gI (pc := 98) (k := 1) fcX6 dX4_leastFromBeginning_98 q281 (by decide) rfl (fun v22 => ?_)
      refine x_istore_n (pc := 101) dX4_leastFromBeginning_101 (i := 3) rfl (by decide) (l' := [some (.ref x0), some (.int x1), some (.int v19), some (.int v22)]) rfl ?_
      exact xX4_leastFromBeginning_102 (k35 := (lX4_leastFromBeginning_35 S n)) ih FU m14 x0 x1 v19 v22 
set_option maxHeartbeats 4000000 in
theorem xX4_leastFromBeginning_26 {n0 c0 s0 cx cy : Nat} {S : mSh} {k2 : mMm → Nat → Int32 → Option (Int32 × mMm)} (hk2 : ∀ (μ : mMm) (x0 : Nat) (x1 : Int32) (d2 : Option Value) (d3 : Option Value), mX MX4_leastFromBeginning n0 c0 s0 2 [some (.ref x0), some (.int x1), d2, d3] [] (S, μ, cx, cy) (iMI S cx cy) (k2 μ x0 x1)) (μ : mMm) (x0 : Nat) (x1 : Int32) (t0 : Int32) (t1 : Int32) (t2 : Nat) (d2 : Option Value) (d3 : Option Value) : mX MX4_leastFromBeginning n0 c0 s0 26 [some (.ref x0), some (.int x1), d2, d3] [.int t0, .int t1, .ref t2] (S, μ, cx, cy) (iMI S cx cy) (lX4_leastFromBeginning_26 k2 S μ x0 x1 t0 t1 t2) := by
  unfold lX4_leastFromBeginning_26
  refine x_stI (pc := 26) dX4_leastFromBeginning_26 (fun m29 => ?_)
  refine x_iinc (pc := 27) (v := x1 + (1 : Int32)) dX4_leastFromBeginning_27 rfl (by rw [show Int32.ofInt (1) = (1 : Int32) from by decide]) (by decide) (l' := [some (.ref x0), some (.int (x1 + (1 : Int32))), d2, d3]) rfl ?_
  refine x_goto (pc := 30) (tgt := 2) dX4_leastFromBeginning_30 (by decide) ?_
  exact hk2 m29 x0 (x1 + (1 : Int32)) _ _
set_option maxHeartbeats 4000000 in
theorem xX4_leastFromBeginning_2 {n0 c0 s0 cx cy : Nat} {S : mSh} : ∀ (n : Nat) (μ : mMm) (x0 : Nat) (x1 : Int32) (d2 : Option Value) (d3 : Option Value), mX MX4_leastFromBeginning n0 c0 s0 2 [some (.ref x0), some (.int x1), d2, d3] [] (S, μ, cx, cy) (iMI S cx cy) (lX4_leastFromBeginning_2 S n μ x0 x1) := by
  intro n
  induction n with
  | zero => intros; exact x_none
  | succ n ih =>
    intro μ x0 x1 d2 d3
    unfold lX4_leastFromBeginning_2
    refine x_iload_n (pc := 2) dX4_leastFromBeginning_2 (i := 1) rfl rfl ?_
    refine x_aload_n (pc := 3) dX4_leastFromBeginning_3 (i := 0) rfl rfl ?_
    refine x_gR (pc := 4) (k := 1) fcX4 dX4_leastFromBeginning_4 q117 (by decide) rfl (fun v1 => ?_)
    refine x_aL (pc := 7) dX4_leastFromBeginning_7 (fun v2 => ?_)
    refine x_icmp_ge (pc := 8) (tgt := 33) dX4_leastFromBeginning_8 (by decide) ?_ ?_
    · refine x_iconst (pc := 33) (v := 0) dX4_leastFromBeginning_33 (by decide) ?_
      refine x_istore_n (pc := 34) dX4_leastFromBeginning_34 (i := 1) rfl (by decide) (l' := [some (.ref x0), some (.int (0 : Int32)), d2, d3]) rfl ?_
      exact xX4_leastFromBeginning_35 FU μ x0 (0 : Int32) _ _
    · refine x_aload_n (pc := 11) dX4_leastFromBeginning_11 (i := 0) rfl rfl ?_
      refine x_gR (pc := 12) (k := 1) fcX4 dX4_leastFromBeginning_12 q117 (by decide) rfl (fun v28 => ?_)
      refine x_iload_n (pc := 15) dX4_leastFromBeginning_15 (i := 1) rfl rfl ?_
      refine x_iload_n (pc := 16) dX4_leastFromBeginning_16 (i := 1) rfl rfl ?_
      refine x_if_ne (pc := 17) (tgt := 24) dX4_leastFromBeginning_17 (by decide) ?_ ?_
      · refine x_iconst (pc := 20) (v := 0) dX4_leastFromBeginning_20 (by decide) ?_
        refine x_goto (pc := 21) (tgt := 26) dX4_leastFromBeginning_21 (by decide) ?_
        exact xX4_leastFromBeginning_26 (k2 := (lX4_leastFromBeginning_2 S n)) ih μ x0 x1 (0 : Int32) x1 v28 _ _
      · refine x_ldc (pc := 24) (v := 1000000) dX4_leastFromBeginning_24 q576 ?_
        exact xX4_leastFromBeginning_26 (k2 := (lX4_leastFromBeginning_2 S n)) ih μ x0 x1 (1000000 : Int32) x1 v28 _ _
set_option maxHeartbeats 4000000 in
theorem xbX4_leastFromBeginning {n0 c0 s0 cx cy : Nat} {S : mSh} {μ : mMm} (o : Nat) : mX MX4_leastFromBeginning n0 c0 s0 0 [some (.ref o), none, none, none] [] (S, μ, cx, cy) (iMI S cx cy) (bX4_leastFromBeginning S μ o) := by
  unfold bX4_leastFromBeginning
  refine x_iconst (pc := 0) (v := 0) dX4_leastFromBeginning_0 (by decide) ?_
  refine x_istore_n (pc := 1) dX4_leastFromBeginning_1 (i := 1) rfl (by decide) (l' := [some (.ref o), some (.int (0 : Int32)), none, none]) rfl ?_
  exact xX4_leastFromBeginning_2 FU μ o (0 : Int32) _ _
theorem mX4_leastFromBeginning (S : mSh) (μ : mMm) (cx cy : Nat) (o : Nat) : mMet MX4_leastFromBeginning [.ref o] (S, μ, cx, cy) (iMI S cx cy) (fX4_leastFromBeginning S μ o) := mMet.of rfl (by decide) rfl (fun h => by cases h) (Nat.le_of_ble_eq_true rfl) (mX.ck (fun _ => xbX4_leastFromBeginning o))
/-! SlideMills$Unpacking.whyWrong(II)I -/
def bX8_whyWrong (S : mSh) (μ : mMm) (o : Nat) (p0 : Int32) (p1 : Int32) : Option (Int32) := (gR S o 8 0).bind fun v1 => (gI S μ v1 2 1).bind fun v2 => if p0 ≤ v2 then ((gR S o 8 0).bind fun v3 => (gI S μ v3 2 1).bind fun v4 => if p1 ≤ ((40 : Int32) - v4) then (some (0 : Int32)) else (some (2 : Int32))) else (some (1 : Int32))
def fX8_whyWrong (S : mSh) (μ : mMm) (o : Nat) (p0 : Int32) (p1 : Int32) : Option (Int32) := if mok S o 8 = true then bX8_whyWrong S μ o p0 p1 else none
abbrev MX8_whyWrong : mM := ((yX8_whyWrong, cX8_whyWrong, 3, (some .int)), (0, 0), (false, false), RX8, eT)
theorem kX8_whyWrong : mCalV MX8_whyWrong RX8 2 := ⟨q357, q358, q40, q359, by decide +kernel⟩
set_option maxHeartbeats 4000000 in
theorem xbX8_whyWrong {n0 c0 s0 cx cy : Nat} {S : mSh} {μ : mMm} (o : Nat) (p0 : Int32) (p1 : Int32) : mX MX8_whyWrong n0 c0 s0 0 [some (.ref o), some (.int p0), some (.int p1)] [] (S, μ, cx, cy) (iPI S μ cx cy) (bX8_whyWrong S μ o p0 p1) := by
  unfold bX8_whyWrong
  refine x_iload_n (pc := 0) dX8_whyWrong_0 (i := 1) rfl rfl ?_
  refine x_aload_n (pc := 1) dX8_whyWrong_1 (i := 0) rfl rfl ?_
  refine x_gR (pc := 2) (k := 0) fcX8 dX8_whyWrong_2 q124 (by decide) rfl (fun v1 => ?_)
  refine x_gI (pc := 5) (k := 1) fcX2 dX8_whyWrong_5 q360 (by decide) rfl (fun v2 => ?_)
  refine x_icmp_le (pc := 8) (tgt := 13) dX8_whyWrong_8 (by decide) ?_ ?_
  · refine x_iload_n (pc := 13) dX8_whyWrong_13 (i := 2) rfl rfl ?_
    refine x_bipush (pc := 14) (v := 40) dX8_whyWrong_14 (by decide) ?_
    refine x_aload_n (pc := 16) dX8_whyWrong_16 (i := 0) rfl rfl ?_
    refine x_gR (pc := 17) (k := 0) fcX8 dX8_whyWrong_17 q124 (by decide) rfl (fun v3 => ?_)
    refine x_gI (pc := 20) (k := 1) fcX2 dX8_whyWrong_20 q360 (by decide) rfl (fun v4 => ?_)
    refine x_isub (pc := 23) dX8_whyWrong_23 ?_
    refine x_icmp_le (pc := 24) (tgt := 31) dX8_whyWrong_24 (by decide) ?_ ?_
    · refine x_iconst (pc := 31) (v := 0) dX8_whyWrong_31 (by decide) ?_
      exact x_iret rfl dX8_whyWrong_32 rfl rfl
    · refine x_iconst (pc := 27) (v := 2) dX8_whyWrong_27 (by decide) ?_
      refine x_goto (pc := 28) (tgt := 32) dX8_whyWrong_28 (by decide) ?_
      exact x_iret rfl dX8_whyWrong_32 rfl rfl
  · refine x_iconst (pc := 11) (v := 1) dX8_whyWrong_11 (by decide) ?_
    exact x_iret rfl dX8_whyWrong_12 rfl rfl
theorem mX8_whyWrong (S : mSh) (μ : mMm) (cx cy : Nat) (o : Nat) (p0 : Int32) (p1 : Int32) : mMet MX8_whyWrong [.ref o, .int p0, .int p1] (S, μ, cx, cy) (iPI S μ cx cy) (fX8_whyWrong S μ o p0 p1) := mMet.of rfl (by decide) rfl (fun h => by cases h) (Nat.le_of_ble_eq_true rfl) (mX.ck (fun _ => xbX8_whyWrong o p0 p1))
/-! SlideMills$Unpacking.unpackToken(LSlideMills$Sack;I)V -/
def lX8_unpackToken_33 (S : mSh) : Nat → mMm → Nat → Int32 → Int32 → Int32 → Option (mMm)
  | 0, _, _, _, _, _ => none
  | n + 1, μ, x0, x3, x4, x5 => if x4 ≤ x5 then (some μ) else ((gR S x0 8 0).bind fun v3 => (gR S x0 8 0).bind fun v4 => (gR S x0 8 0).bind fun v5 => (gI S μ v5 2 1).bind fun v6 => (fX2_get S μ v4 (v6 - x3)).bind fun v7 => (fX2_put S μ v3 v7).bind fun m8 => lX8_unpackToken_33 S n m8 x0 x3 x4 (x5 + (1 : Int32)))
def bX8_unpackToken (S : mSh) (μ : mMm) (o : Nat) (p0 : Nat) (p1 : Int32) : Option (mMm) := (fX5_distance S μ p0 p1).bind fun v1 => if v1 = 0 then ((gR S o 8 0).bind fun v9 => (fX5_value S μ p0 p1).bind fun v10 => (fX2_put S μ v9 v10).bind fun m11 => some m11) else ((fX5_length S μ p0 p1).bind fun v2 => lX8_unpackToken_33 S FU μ o v1 v2 (0 : Int32))
def fX8_unpackToken (S : mSh) (μ : mMm) (o : Nat) (p0 : Nat) (p1 : Int32) : Option (mMm) := if mok S o 8 = true then bX8_unpackToken S μ o p0 p1 else none
abbrev MX8_unpackToken : mM := ((yX8_unpackToken, cX8_unpackToken, 6, none), (2, 42), (false, false), RX8, eT)
theorem kX8_unpackToken : mCalV MX8_unpackToken RX8 2 := ⟨q362, q363, q40, q364, by decide +kernel⟩
set_option maxHeartbeats 4000000 in
theorem xX8_unpackToken_33 {n0 c0 s0 cx cy : Nat} {S : mSh} : ∀ (n : Nat) (μ : mMm) (x0 : Nat) (x3 : Int32) (x4 : Int32) (x5 : Int32) (d1 : Option Value) (d2 : Option Value), mX MX8_unpackToken n0 c0 s0 33 [some (.ref x0), d1, d2, some (.int x3), some (.int x4), some (.int x5)] [] (S, μ, cx, cy) (iMV S cx cy) (lX8_unpackToken_33 S n μ x0 x3 x4 x5) := by
  intro n
  induction n with
  | zero => intros; exact x_none
  | succ n ih =>
    intro μ x0 x3 x4 x5 d1 d2
    unfold lX8_unpackToken_33
    refine x_iload (pc := 33) dX8_unpackToken_33 rfl ?_
    refine x_iload (pc := 35) dX8_unpackToken_35 rfl ?_
    refine x_icmp_ge (pc := 37) (tgt := 69) dX8_unpackToken_37 (by decide) ?_ ?_
    · exact x_ret rfl dX8_unpackToken_69 rfl
    · refine x_aload_n (pc := 40) dX8_unpackToken_40 (i := 0) rfl rfl ?_
      refine x_gR (pc := 41) (k := 0) fcX8 dX8_unpackToken_41 q124 (by decide) rfl (fun v3 => ?_)
      refine x_aload_n (pc := 44) dX8_unpackToken_44 (i := 0) rfl rfl ?_
      refine x_gR (pc := 45) (k := 0) fcX8 dX8_unpackToken_45 q124 (by decide) rfl (fun v4 => ?_)
      refine x_aload_n (pc := 48) dX8_unpackToken_48 (i := 0) rfl rfl ?_
      refine x_gR (pc := 49) (k := 0) fcX8 dX8_unpackToken_49 q124 (by decide) rfl (fun v5 => ?_)
      refine x_gI (pc := 52) (k := 1) fcX2 dX8_unpackToken_52 q360 (by decide) rfl (fun v6 => ?_)
      refine x_iload_n (pc := 55) dX8_unpackToken_55 (i := 3) rfl rfl ?_
      refine x_isub (pc := 56) dX8_unpackToken_56 ?_
      refine x_callVi (pc := 57) (As := [.int (v6 - x3)]) (rest := [.ref v3]) (vx := fun a => a) (μf := fun _ => μ) fcX2 (mX2_get S μ cx cy v4 (v6 - x3)) (fun _ => rfl) rfl (fun _ h => ifok h) dX8_unpackToken_57 q367 kX2_get rfl ⟨by decide, by decide⟩ rfl (Nat.le_of_ble_eq_true rfl) (fun v7 => ?_)
      refine x_callVv (pc := 60) (As := [.int v7]) (rest := []) (μf := fun a => a) fcX2 (mX2_put S μ cx cy v3 v7) (fun _ => rfl) rfl (fun _ h => ifok h) dX8_unpackToken_60 q366 kX2_put rfl ⟨by decide, by decide⟩ rfl (Nat.le_of_ble_eq_true rfl) (fun m8 => ?_)
      refine x_iinc (pc := 63) (v := x5 + (1 : Int32)) dX8_unpackToken_63 rfl (by rw [show Int32.ofInt (1) = (1 : Int32) from by decide]) (by decide) (l' := [some (.ref x0), d1, d2, some (.int x3), some (.int x4), some (.int (x5 + (1 : Int32)))]) rfl ?_
      refine x_goto (pc := 66) (tgt := 33) dX8_unpackToken_66 (by decide) ?_
      exact ih m8 x0 x3 x4 (x5 + (1 : Int32)) _ _
set_option maxHeartbeats 4000000 in
theorem xbX8_unpackToken {n0 c0 s0 cx cy : Nat} {S : mSh} {μ : mMm} (o : Nat) (p0 : Nat) (p1 : Int32) : mX MX8_unpackToken n0 c0 s0 0 [some (.ref o), some (.ref p0), some (.int p1), none, none, none] [] (S, μ, cx, cy) (iMV S cx cy) (bX8_unpackToken S μ o p0 p1) := by
  unfold bX8_unpackToken
  refine x_aload_n (pc := 0) dX8_unpackToken_0 (i := 1) rfl rfl ?_
  refine x_iload_n (pc := 1) dX8_unpackToken_1 (i := 2) rfl rfl ?_
  refine x_callVi (pc := 2) (As := [.int p1]) (rest := []) (vx := fun a => a) (μf := fun _ => μ) fcX5 (mX5_distance S μ cx cy p0 p1) (fun _ => rfl) rfl (fun _ h => ifok h) dX8_unpackToken_2 q351 kX5_distance rfl ⟨by decide, by decide⟩ rfl (Nat.le_of_ble_eq_true rfl) (fun v1 => ?_)
  refine x_istore_n (pc := 5) dX8_unpackToken_5 (i := 3) rfl (by decide) (l' := [some (.ref o), some (.ref p0), some (.int p1), some (.int v1), none, none]) rfl ?_
  refine x_iload_n (pc := 6) dX8_unpackToken_6 (i := 3) rfl rfl ?_
  refine x_if_ne (pc := 7) (tgt := 23) dX8_unpackToken_7 (by decide) ?_ ?_
  · refine x_aload_n (pc := 10) dX8_unpackToken_10 (i := 0) rfl rfl ?_
    refine x_gR (pc := 11) (k := 0) fcX8 dX8_unpackToken_11 q124 (by decide) rfl (fun v9 => ?_)
    refine x_aload_n (pc := 14) dX8_unpackToken_14 (i := 1) rfl rfl ?_
    refine x_iload_n (pc := 15) dX8_unpackToken_15 (i := 2) rfl rfl ?_
    refine x_callVi (pc := 16) (As := [.int p1]) (rest := [.ref v9]) (vx := fun a => a) (μf := fun _ => μ) fcX5 (mX5_value S μ cx cy p0 p1) (fun _ => rfl) rfl (fun _ h => ifok h) dX8_unpackToken_16 q365 kX5_value rfl ⟨by decide, by decide⟩ rfl (Nat.le_of_ble_eq_true rfl) (fun v10 => ?_)
    refine x_callVv (pc := 19) (As := [.int v10]) (rest := []) (μf := fun a => a) fcX2 (mX2_put S μ cx cy v9 v10) (fun _ => rfl) rfl (fun _ h => ifok h) dX8_unpackToken_19 q366 kX2_put rfl ⟨by decide, by decide⟩ rfl (Nat.le_of_ble_eq_true rfl) (fun m11 => ?_)
    exact x_ret rfl dX8_unpackToken_22 rfl
  · refine x_aload_n (pc := 23) dX8_unpackToken_23 (i := 1) rfl rfl ?_
    refine x_iload_n (pc := 24) dX8_unpackToken_24 (i := 2) rfl rfl ?_
    refine x_callVi (pc := 25) (As := [.int p1]) (rest := []) (vx := fun a => a) (μf := fun _ => μ) fcX5 (mX5_length S μ cx cy p0 p1) (fun _ => rfl) rfl (fun _ h => ifok h) dX8_unpackToken_25 q352 kX5_length rfl ⟨by decide, by decide⟩ rfl (Nat.le_of_ble_eq_true rfl) (fun v2 => ?_)
    refine x_istore (pc := 28) dX8_unpackToken_28 (by decide) (l' := [some (.ref o), some (.ref p0), some (.int p1), some (.int v1), some (.int v2), none]) rfl ?_
    refine x_iconst (pc := 30) (v := 0) dX8_unpackToken_30 (by decide) ?_
    refine x_istore (pc := 31) dX8_unpackToken_31 (by decide) (l' := [some (.ref o), some (.ref p0), some (.int p1), some (.int v1), some (.int v2), some (.int (0 : Int32))]) rfl ?_
    exact xX8_unpackToken_33 FU μ o v1 v2 (0 : Int32) _ _
theorem mX8_unpackToken (S : mSh) (μ : mMm) (cx cy : Nat) (o : Nat) (p0 : Nat) (p1 : Int32) : mMet MX8_unpackToken [.ref o, .ref p0, .int p1] (S, μ, cx, cy) (iMV S cx cy) (fX8_unpackToken S μ o p0 p1) := mMet.of rfl (by decide) rfl (fun h => by cases h) (Nat.le_of_ble_eq_true rfl) (mX.ck (fun _ => xbX8_unpackToken o p0 p1))
/-! SlideMills$Unpacking.run(LSlideMills$Sack;)V -/
def lX8_run_73 (k19 : mMm → Nat → Nat → Int32 → Option (mMm)) (S : mSh) (μ : mMm) (x0 : Nat) (x1 : Nat) (x2 : Int32) : Option (mMm) := k19 μ x0 x1 (x2 + (1 : Int32))
def lX8_run_19 (S : mSh) : Nat → mMm → Nat → Nat → Int32 → Option (mMm)
  | 0, _, _, _, _ => none
  | n + 1, μ, x0, x1, x2 => (gI S μ x1 5 2).bind fun v5 => if v5 ≤ x2 then (some μ) else ((gI S μ x0 8 2).bind fun v6 => if v6 = 0 then ((fX5_distance S μ x1 x2).bind fun v7 => (fX5_length S μ x1 x2).bind fun v8 => (fX8_whyWrong S μ x0 v7 v8).bind fun v9 => (pI S μ x0 8 2 v9).bind fun m10 => (gI S m10 x0 8 2).bind fun v11 => if v11 = 0 then ((fX8_unpackToken S m10 x0 x1 x2).bind fun m13 => lX8_run_73 (lX8_run_19 S n) S m13 x0 x1 x2) else ((pI S m10 x0 8 1 x2).bind fun m12 => lX8_run_73 (lX8_run_19 S n) S m12 x0 x1 x2)) else (some μ))
def bX8_run (S : mSh) (μ : mMm) (o : Nat) (p0 : Nat) : Option (mMm) := (gR S o 8 0).bind fun v1 => (fX2_clear S μ v1).bind fun m2 => (pI S m2 o 8 1 (-1 : Int32)).bind fun m3 => (pI S m3 o 8 2 (0 : Int32)).bind fun m4 => lX8_run_19 S FU m4 o p0 (0 : Int32)
def fX8_run (S : mSh) (μ : mMm) (o : Nat) (p0 : Nat) : Option (mMm) := if mok S o 8 = true then bX8_run S μ o p0 else none
abbrev MX8_run : mM := ((yX8_run, cX8_run, 3, none), (3, 67), (false, false), RX8, eT)
theorem kX8_run : mCalV MX8_run RX8 1 := ⟨q343, q344, q40, q345, by decide +kernel⟩
set_option maxHeartbeats 4000000 in
theorem xX8_run_73 {n0 c0 s0 cx cy : Nat} {S : mSh} {k19 : mMm → Nat → Nat → Int32 → Option (mMm)} (hk19 : ∀ (μ : mMm) (x0 : Nat) (x1 : Nat) (x2 : Int32), mX MX8_run n0 c0 s0 19 [some (.ref x0), some (.ref x1), some (.int x2)] [] (S, μ, cx, cy) (iMV S cx cy) (k19 μ x0 x1 x2)) (μ : mMm) (x0 : Nat) (x1 : Nat) (x2 : Int32) : mX MX8_run n0 c0 s0 73 [some (.ref x0), some (.ref x1), some (.int x2)] [] (S, μ, cx, cy) (iMV S cx cy) (lX8_run_73 k19 S μ x0 x1 x2) := by
  unfold lX8_run_73
  refine x_iinc (pc := 73) (v := x2 + (1 : Int32)) dX8_run_73 rfl (by rw [show Int32.ofInt (1) = (1 : Int32) from by decide]) (by decide) (l' := [some (.ref x0), some (.ref x1), some (.int (x2 + (1 : Int32)))]) rfl ?_
  refine x_goto (pc := 76) (tgt := 19) dX8_run_76 (by decide) ?_
  exact hk19 μ x0 x1 (x2 + (1 : Int32)) 
set_option maxHeartbeats 4000000 in
theorem xX8_run_19 {n0 c0 s0 cx cy : Nat} {S : mSh} : ∀ (n : Nat) (μ : mMm) (x0 : Nat) (x1 : Nat) (x2 : Int32), mX MX8_run n0 c0 s0 19 [some (.ref x0), some (.ref x1), some (.int x2)] [] (S, μ, cx, cy) (iMV S cx cy) (lX8_run_19 S n μ x0 x1 x2) := by
  intro n
  induction n with
  | zero => intros; exact x_none
  | succ n ih =>
    intro μ x0 x1 x2
    unfold lX8_run_19
    refine x_iload_n (pc := 19) dX8_run_19 (i := 2) rfl rfl ?_
    refine x_aload_n (pc := 20) dX8_run_20 (i := 1) rfl rfl ?_
    refine x_gI (pc := 21) (k := 2) fcX5 dX8_run_21 q346 (by decide) rfl (fun v5 => ?_)
    refine x_icmp_ge (pc := 24) (tgt := 79) dX8_run_24 (by decide) ?_ ?_
    · exact x_ret rfl dX8_run_79 rfl
    · refine x_aload_n (pc := 27) dX8_run_27 (i := 0) rfl rfl ?_
      refine x_gI (pc := 28) (k := 2) fcX8 dX8_run_28 q126 (by decide) rfl (fun v6 => ?_)
      refine x_if_ne (pc := 31) (tgt := 79) dX8_run_31 (by decide) ?_ ?_
      · refine x_aload_n (pc := 34) dX8_run_34 (i := 0) rfl rfl ?_
        refine x_aload_n (pc := 35) dX8_run_35 (i := 0) rfl rfl ?_
        refine x_aload_n (pc := 36) dX8_run_36 (i := 1) rfl rfl ?_
        refine x_iload_n (pc := 37) dX8_run_37 (i := 2) rfl rfl ?_
        refine x_callVi (pc := 38) (As := [.int x2]) (rest := [.ref x0, .ref x0]) (vx := fun a => a) (μf := fun _ => μ) fcX5 (mX5_distance S μ cx cy x1 x2) (fun _ => rfl) rfl (fun _ h => ifok h) dX8_run_38 q351 kX5_distance rfl ⟨by decide, by decide⟩ rfl (Nat.le_of_ble_eq_true rfl) (fun v7 => ?_)
        refine x_aload_n (pc := 41) dX8_run_41 (i := 1) rfl rfl ?_
        refine x_iload_n (pc := 42) dX8_run_42 (i := 2) rfl rfl ?_
        refine x_callVi (pc := 43) (As := [.int x2]) (rest := [.int v7, .ref x0, .ref x0]) (vx := fun a => a) (μf := fun _ => μ) fcX5 (mX5_length S μ cx cy x1 x2) (fun _ => rfl) rfl (fun _ h => ifok h) dX8_run_43 q352 kX5_length rfl ⟨by decide, by decide⟩ rfl (Nat.le_of_ble_eq_true rfl) (fun v8 => ?_)
        refine x_callVi (pc := 46) (As := [.int v7, .int v8]) (rest := [.ref x0]) (vx := fun a => a) (μf := fun _ => μ) fcX8 (mX8_whyWrong S μ cx cy x0 v7 v8) (fun _ => rfl) rfl (fun _ h => ifok h) dX8_run_46 q356 kX8_whyWrong rfl ⟨by decide, by decide⟩ rfl (Nat.le_of_ble_eq_true rfl) (fun v9 => ?_)
        refine x_pI (pc := 49) (k := 2) fcX8 dX8_run_49 q126 (by decide) rfl rfl rfl rfl (fun m10 => ?_)
        refine x_aload_n (pc := 52) dX8_run_52 (i := 0) rfl rfl ?_
        refine x_gI (pc := 53) (k := 2) fcX8 dX8_run_53 q126 (by decide) rfl (fun v11 => ?_)
        refine x_if_ne (pc := 56) (tgt := 68) dX8_run_56 (by decide) ?_ ?_
        · refine x_aload_n (pc := 59) dX8_run_59 (i := 0) rfl rfl ?_
          refine x_aload_n (pc := 60) dX8_run_60 (i := 1) rfl rfl ?_
          refine x_iload_n (pc := 61) dX8_run_61 (i := 2) rfl rfl ?_
          refine x_callVv (pc := 62) (As := [.ref x1, .int x2]) (rest := []) (μf := fun a => a) fcX8 (mX8_unpackToken S m10 cx cy x0 x1 x2) (fun _ => rfl) rfl (fun _ h => ifok h) dX8_run_62 q361 kX8_unpackToken rfl ⟨by decide, by decide⟩ rfl (Nat.le_of_ble_eq_true rfl) (fun m13 => ?_)
          refine x_goto (pc := 65) (tgt := 73) dX8_run_65 (by decide) ?_
          exact xX8_run_73 (k19 := (lX8_run_19 S n)) ih m13 x0 x1 x2 
        · refine x_aload_n (pc := 68) dX8_run_68 (i := 0) rfl rfl ?_
          refine x_iload_n (pc := 69) dX8_run_69 (i := 2) rfl rfl ?_
          refine x_pI (pc := 70) (k := 1) fcX8 dX8_run_70 q125 (by decide) rfl rfl rfl rfl (fun m12 => ?_)
          exact xX8_run_73 (k19 := (lX8_run_19 S n)) ih m12 x0 x1 x2 
      · exact x_ret rfl dX8_run_79 rfl
set_option maxHeartbeats 4000000 in
theorem xbX8_run {n0 c0 s0 cx cy : Nat} {S : mSh} {μ : mMm} (o : Nat) (p0 : Nat) : mX MX8_run n0 c0 s0 0 [some (.ref o), some (.ref p0), none] [] (S, μ, cx, cy) (iMV S cx cy) (bX8_run S μ o p0) := by
  unfold bX8_run
  refine x_aload_n (pc := 0) dX8_run_0 (i := 0) rfl rfl ?_
  refine x_gR (pc := 1) (k := 0) fcX8 dX8_run_1 q124 (by decide) rfl (fun v1 => ?_)
  refine x_callVv (pc := 4) (As := []) (rest := []) (μf := fun a => a) fcX2 (mX2_clear S μ cx cy v1) (fun _ => rfl) rfl (fun _ h => ifok h) dX8_run_4 q347 kX2_clear rfl ⟨by decide, by decide⟩ rfl (Nat.le_of_ble_eq_true rfl) (fun m2 => ?_)
  refine x_aload_n (pc := 7) dX8_run_7 (i := 0) rfl rfl ?_
  refine x_iconst (pc := 8) (v := -1) dX8_run_8 (by decide) ?_
  refine x_pI (pc := 9) (k := 1) fcX8 dX8_run_9 q125 (by decide) rfl rfl rfl rfl (fun m3 => ?_)
  refine x_aload_n (pc := 12) dX8_run_12 (i := 0) rfl rfl ?_
  refine x_iconst (pc := 13) (v := 0) dX8_run_13 (by decide) ?_
  refine x_pI (pc := 14) (k := 2) fcX8 dX8_run_14 q126 (by decide) rfl rfl rfl rfl (fun m4 => ?_)
  refine x_iconst (pc := 17) (v := 0) dX8_run_17 (by decide) ?_
  refine x_istore_n (pc := 18) dX8_run_18 (i := 2) rfl (by decide) (l' := [some (.ref o), some (.ref p0), some (.int (0 : Int32))]) rfl ?_
  exact xX8_run_19 FU m4 o p0 (0 : Int32) 
theorem mX8_run (S : mSh) (μ : mMm) (cx cy : Nat) (o : Nat) (p0 : Nat) : mMet MX8_run [.ref o, .ref p0] (S, μ, cx, cy) (iMV S cx cy) (fX8_run S μ o p0) := mMet.of rfl (by decide) rfl (fun h => by cases h) (Nat.le_of_ble_eq_true rfl) (mX.ck (fun _ => xbX8_run o p0))
