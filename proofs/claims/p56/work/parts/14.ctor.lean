/-! printed by gen.py: each method as a function of numbers, and that the machine does what it says -/
/-! SlideMills$Dictionary.<init>()V -/
def bX0_init (S : mSh) (μ : mMm) (o : Nat) : Option (mSh × mMm) := (aN S μ [some (.ref o)] [.ref o] 12 16 16).bind fun r1 => (aR r1.1 o 0 0 (mN S)).bind fun S3 => (aN S3 r1.2 [some (.ref o)] [.ref o] 12 16 16).bind fun r4 => (aR r4.1 o 0 1 (mN S3)).bind fun S6 => (aN S6 r4.2 [none] [.ref o] 12 40 40).bind fun r7 => (aR r7.1 o 0 2 (mN S6)).bind fun S9 => some (S9, r7.2)
def fX0_init (S : mSh) (μ : mMm) (o : Nat) : Option (mSh × mMm) := if mok S o 0 = true then bX0_init S μ o else none
abbrev MX0_init : mM := ((yX0_init, cX0_init, 1, none), (1, 20), (true, true), RX0, eT)
theorem kX0_init : mCalI MX0_init 0 := ⟨q106, q103, q107, by decide +kernel⟩
set_option maxHeartbeats 4000000 in
theorem xbX0_init {n0 c0 s0 cx cy : Nat} {S : mSh} {μ : mMm} (o : Nat) : mX MX0_init n0 c0 s0 0 [some (.ref o)] [] (S, μ, cx, cy) (iAV cx cy) (bX0_init S μ o) := by
  unfold bX0_init
  refine x_aload_n (pc := 0) dX0_init_0 (i := 0) rfl rfl ?_
  refine x_oI (pc := 1) dX0_init_1 q108 q8 q9 ⟨by decide, by decide⟩ (Nat.le_of_ble_eq_true rfl) ?_
  refine x_aload_n (pc := 4) dX0_init_4 (i := 0) rfl rfl ?_
  refine x_bipush (pc := 5) (v := 16) dX0_init_5 (by decide) ?_
  refine x_aI (pc := 7) rfl dX0_init_7 q3 (by decide) (by decide) (by decide) (fun r1 => ?_)
  refine x_aR (pc := 9) (k := 0) fcX0 dX0_init_9 q109 (by decide) rfl rfl rfl rfl (fun _ => rfl) (fun _ => rfl) (fun S3 => ?_)
  refine x_aload_n (pc := 12) dX0_init_12 (i := 0) rfl rfl ?_
  refine x_bipush (pc := 13) (v := 16) dX0_init_13 (by decide) ?_
  refine x_aI (pc := 15) rfl dX0_init_15 q3 (by decide) (by decide) (by decide) (fun r4 => ?_)
  refine x_aR (pc := 17) (k := 1) fcX0 dX0_init_17 q110 (by decide) rfl rfl rfl rfl (fun _ => rfl) (fun _ => rfl) (fun S6 => ?_)
  refine x_aload_n (pc := 20) dX0_init_20 (i := 0) rfl rfl ?_
  refine x_bipush (pc := 21) (v := 40) dX0_init_21 (by decide) ?_
  refine x_wk (l' := [none]) ⟨Or.inl rfl, trivial⟩ ?_
  refine x_aI (pc := 23) rfl dX0_init_23 q3 (by decide) (by decide) (by decide) (fun r7 => ?_)
  refine x_aR (pc := 25) (k := 2) fcX0 dX0_init_25 q111 (by decide) rfl rfl rfl rfl (fun _ => rfl) (fun _ => rfl) (fun S9 => ?_)
  exact x_ret rfl dX0_init_28 rfl
theorem mX0_init (S : mSh) (μ : mMm) (cx cy : Nat) (o : Nat) : mMet MX0_init [.ref o] (S, μ, cx, cy) (iAV cx cy) (fX0_init S μ o) := mMet.of rfl (by decide) rfl (fun _ => rfl) (Nat.le_of_ble_eq_true rfl) (mX.ck (fun _ => xbX0_init o))
/-! SlideMills$Letters.<init>()V -/
def bX2_init (S : mSh) (μ : mMm) (o : Nat) : Option (mSh × mMm) := (aN S μ [some (.ref o)] [.ref o] 12 40 40).bind fun r1 => (aR r1.1 o 2 0 (mN S)).bind fun S3 => (pI S3 r1.2 o 2 1 (0 : Int32)).bind fun m4 => some (S3, m4)
def fX2_init (S : mSh) (μ : mMm) (o : Nat) : Option (mSh × mMm) := if mok S o 2 = true then bX2_init S μ o else none
abbrev MX2_init : mM := ((yX2_init, cX2_init, 1, none), (1, 20), (true, true), RX2, eT)
theorem kX2_init : mCalI MX2_init 0 := ⟨q59, q48, q60, by decide +kernel⟩
set_option maxHeartbeats 4000000 in
theorem xbX2_init {n0 c0 s0 cx cy : Nat} {S : mSh} {μ : mMm} (o : Nat) : mX MX2_init n0 c0 s0 0 [some (.ref o)] [] (S, μ, cx, cy) (iAV cx cy) (bX2_init S μ o) := by
  unfold bX2_init
  refine x_aload_n (pc := 0) dX2_init_0 (i := 0) rfl rfl ?_
  refine x_oI (pc := 1) dX2_init_1 q61 q8 q9 ⟨by decide, by decide⟩ (Nat.le_of_ble_eq_true rfl) ?_
  refine x_aload_n (pc := 4) dX2_init_4 (i := 0) rfl rfl ?_
  refine x_bipush (pc := 5) (v := 40) dX2_init_5 (by decide) ?_
  refine x_aI (pc := 7) rfl dX2_init_7 q3 (by decide) (by decide) (by decide) (fun r1 => ?_)
  refine x_aR (pc := 9) (k := 0) fcX2 dX2_init_9 q62 (by decide) rfl rfl rfl rfl (fun _ => rfl) (fun _ => rfl) (fun S3 => ?_)
  refine x_aload_n (pc := 12) dX2_init_12 (i := 0) rfl rfl ?_
  refine x_iconst (pc := 13) (v := 0) dX2_init_13 (by decide) ?_
  refine x_pI (pc := 14) (k := 1) fcX2 dX2_init_14 q63 (by decide) rfl rfl rfl rfl (fun m4 => ?_)
  exact x_ret rfl dX2_init_17 rfl
theorem mX2_init (S : mSh) (μ : mMm) (cx cy : Nat) (o : Nat) : mMet MX2_init [.ref o] (S, μ, cx, cy) (iAV cx cy) (fX2_init S μ o) := mMet.of rfl (by decide) rfl (fun _ => rfl) (Nat.le_of_ble_eq_true rfl) (mX.ck (fun _ => xbX2_init o))
/-! SlideMills$Sack.<init>()V -/
def bX5_init (S : mSh) (μ : mMm) (o : Nat) : Option (mSh × mMm) := (aN S μ [some (.ref o)] [.ref o] 12 40 40).bind fun r1 => (aR r1.1 o 5 0 (mN S)).bind fun S3 => (aN S3 r1.2 [some (.ref o)] [.ref o] 12 40 40).bind fun r4 => (aR r4.1 o 5 1 (mN S3)).bind fun S6 => (pI S6 r4.2 o 5 2 (0 : Int32)).bind fun m7 => some (S6, m7)
def fX5_init (S : mSh) (μ : mMm) (o : Nat) : Option (mSh × mMm) := if mok S o 5 = true then bX5_init S μ o else none
abbrev MX5_init : mM := ((yX5_init, cX5_init, 1, none), (1, 20), (true, true), RX5, eT)
theorem kX5_init : mCalI MX5_init 0 := ⟨q65, q36, q66, by decide +kernel⟩
set_option maxHeartbeats 4000000 in
theorem xbX5_init {n0 c0 s0 cx cy : Nat} {S : mSh} {μ : mMm} (o : Nat) : mX MX5_init n0 c0 s0 0 [some (.ref o)] [] (S, μ, cx, cy) (iAV cx cy) (bX5_init S μ o) := by
  unfold bX5_init
  refine x_aload_n (pc := 0) dX5_init_0 (i := 0) rfl rfl ?_
  refine x_oI (pc := 1) dX5_init_1 q67 q8 q9 ⟨by decide, by decide⟩ (Nat.le_of_ble_eq_true rfl) ?_
  refine x_aload_n (pc := 4) dX5_init_4 (i := 0) rfl rfl ?_
  refine x_bipush (pc := 5) (v := 40) dX5_init_5 (by decide) ?_
  refine x_aI (pc := 7) rfl dX5_init_7 q3 (by decide) (by decide) (by decide) (fun r1 => ?_)
  refine x_aR (pc := 9) (k := 0) fcX5 dX5_init_9 q68 (by decide) rfl rfl rfl rfl (fun _ => rfl) (fun _ => rfl) (fun S3 => ?_)
  refine x_aload_n (pc := 12) dX5_init_12 (i := 0) rfl rfl ?_
  refine x_bipush (pc := 13) (v := 40) dX5_init_13 (by decide) ?_
  refine x_aI (pc := 15) rfl dX5_init_15 q3 (by decide) (by decide) (by decide) (fun r4 => ?_)
  refine x_aR (pc := 17) (k := 1) fcX5 dX5_init_17 q69 (by decide) rfl rfl rfl rfl (fun _ => rfl) (fun _ => rfl) (fun S6 => ?_)
  refine x_aload_n (pc := 20) dX5_init_20 (i := 0) rfl rfl ?_
  refine x_iconst (pc := 21) (v := 0) dX5_init_21 (by decide) ?_
  refine x_pI (pc := 22) (k := 2) fcX5 dX5_init_22 q70 (by decide) rfl rfl rfl rfl (fun m7 => ?_)
  exact x_ret rfl dX5_init_25 rfl
theorem mX5_init (S : mSh) (μ : mMm) (cx cy : Nat) (o : Nat) : mMet MX5_init [.ref o] (S, μ, cx, cy) (iAV cx cy) (fX5_init S μ o) := mMet.of rfl (by decide) rfl (fun _ => rfl) (Nat.le_of_ble_eq_true rfl) (mX.ck (fun _ => xbX5_init o))
/-! SlideMills$Settings.<init>()V -/
def bX6_init (S : mSh) (μ : mMm) (o : Nat) : Option (mMm) := (pI S μ o 6 0 (16 : Int32)).bind fun m1 => (pI S m1 o 6 1 (3 : Int32)).bind fun m2 => (pI S m2 o 6 2 (8 : Int32)).bind fun m3 => (pI S m3 o 6 3 (3 : Int32)).bind fun m4 => (pI S m4 o 6 4 (5 : Int32)).bind fun m5 => some m5
def fX6_init (S : mSh) (μ : mMm) (o : Nat) : Option (mMm) := if mok S o 6 = true then bX6_init S μ o else none
abbrev MX6_init : mM := ((yX6_init, cX6_init, 1, none), (1, 20), (false, true), RX6, eT)
theorem kX6_init : mCalI MX6_init 0 := ⟨q72, q54, q73, by decide +kernel⟩
set_option maxHeartbeats 4000000 in
theorem xbX6_init {n0 c0 s0 cx cy : Nat} {S : mSh} {μ : mMm} (o : Nat) : mX MX6_init n0 c0 s0 0 [some (.ref o)] [] (S, μ, cx, cy) (iMV S cx cy) (bX6_init S μ o) := by
  unfold bX6_init
  refine x_aload_n (pc := 0) dX6_init_0 (i := 0) rfl rfl ?_
  refine x_oI (pc := 1) dX6_init_1 q74 q8 q9 ⟨by decide, by decide⟩ (Nat.le_of_ble_eq_true rfl) ?_
  refine x_aload_n (pc := 4) dX6_init_4 (i := 0) rfl rfl ?_
  refine x_bipush (pc := 5) (v := 16) dX6_init_5 (by decide) ?_
  refine x_pI (pc := 7) (k := 0) fcX6 dX6_init_7 q75 (by decide) rfl rfl rfl rfl (fun m1 => ?_)
  refine x_aload_n (pc := 10) dX6_init_10 (i := 0) rfl rfl ?_
  refine x_iconst (pc := 11) (v := 3) dX6_init_11 (by decide) ?_
  refine x_pI (pc := 12) (k := 1) fcX6 dX6_init_12 q76 (by decide) rfl rfl rfl rfl (fun m2 => ?_)
  refine x_aload_n (pc := 15) dX6_init_15 (i := 0) rfl rfl ?_
  refine x_bipush (pc := 16) (v := 8) dX6_init_16 (by decide) ?_
  refine x_pI (pc := 18) (k := 2) fcX6 dX6_init_18 q77 (by decide) rfl rfl rfl rfl (fun m3 => ?_)
  refine x_aload_n (pc := 21) dX6_init_21 (i := 0) rfl rfl ?_
  refine x_iconst (pc := 22) (v := 3) dX6_init_22 (by decide) ?_
  refine x_pI (pc := 23) (k := 3) fcX6 dX6_init_23 q78 (by decide) rfl rfl rfl rfl (fun m4 => ?_)
  refine x_aload_n (pc := 26) dX6_init_26 (i := 0) rfl rfl ?_
  refine x_iconst (pc := 27) (v := 5) dX6_init_27 (by decide) ?_
  refine x_pI (pc := 28) (k := 4) fcX6 dX6_init_28 q79 (by decide) rfl rfl rfl rfl (fun m5 => ?_)
  exact x_ret rfl dX6_init_31 rfl
theorem mX6_init (S : mSh) (μ : mMm) (cx cy : Nat) (o : Nat) : mMet MX6_init [.ref o] (S, μ, cx, cy) (iMV S cx cy) (fX6_init S μ o) := mMet.of rfl (by decide) rfl (fun _ => rfl) (Nat.le_of_ble_eq_true rfl) (mX.ck (fun _ => xbX6_init o))
/-! SlideMills$State.<init>()V -/
def bX7_init (S : mSh) (μ : mMm) (o : Nat) : Option (mSh × mMm) := (aN S μ [some (.ref o)] [.ref o] 2 0 2).bind fun r1 => if mvk r1.1 [some (.ref o)] [.ref (mN S), .ref o] = true then ((fX2_init r1.1 r1.2 (mN S)).bind fun r2 => (aR r2.1 o 7 0 (mN S)).bind fun S4 => (aN S4 r2.2 [some (.ref o)] [.ref o] 5 0 3).bind fun r5 => if mvk r5.1 [some (.ref o)] [.ref (mN S4), .ref o] = true then ((fX5_init r5.1 r5.2 (mN S4)).bind fun r6 => (aR r6.1 o 7 1 (mN S4)).bind fun S8 => (aN S8 r6.2 [some (.ref o)] [.ref o] 6 0 5).bind fun r9 => if mvk r9.1 [some (.ref o)] [.ref (mN S8), .ref o] = true then ((fX6_init r9.1 r9.2 (mN S8)).bind fun r10 => (aR r9.1 o 7 2 (mN S8)).bind fun S12 => (pI S12 r10 o 7 3 (0 : Int32)).bind fun m13 => (pI S12 m13 o 7 4 (0 : Int32)).bind fun m14 => some (S12, m14)) else none) else none) else none
def fX7_init (S : mSh) (μ : mMm) (o : Nat) : Option (mSh × mMm) := if mok S o 7 = true then bX7_init S μ o else none
abbrev MX7_init : mM := ((yX7_init, cX7_init, 1, none), (2, 40), (true, true), RX7, eT)
theorem kX7_init : mCalI MX7_init 0 := ⟨q43, q12, q44, by decide +kernel⟩
set_option maxHeartbeats 4000000 in
theorem xbX7_init {n0 c0 s0 cx cy : Nat} {S : mSh} {μ : mMm} (o : Nat) : mX MX7_init n0 c0 s0 0 [some (.ref o)] [] (S, μ, cx, cy) (iAV cx cy) (bX7_init S μ o) := by
  unfold bX7_init
  refine x_aload_n (pc := 0) dX7_init_0 (i := 0) rfl rfl ?_
  refine x_oI (pc := 1) dX7_init_1 q45 q8 q9 ⟨by decide, by decide⟩ (Nat.le_of_ble_eq_true rfl) ?_
  refine x_aload_n (pc := 4) dX7_init_4 (i := 0) rfl rfl ?_
  refine x_aN (pc := 5) fcX2 rfl dX7_init_5 q46 q47 q48 ndX2 (fun r1 => ?_)
  refine x_dup (pc := 8) dX7_init_8 rfl ?_
  refine x_callI (pc := 9) (As := []) (rest := [.ref (mN S), .ref o]) (Sf := fun a => a.1) (μf := fun a => a.2) (mX2_init r1.1 r1.2 cx cy (mN S)) (fun _ => rfl) (Or.inl rfl) rfl dX7_init_9 q58 kX2_init rfl ⟨by decide, by decide⟩ rfl (Nat.le_of_ble_eq_true rfl) (fun r2 => ?_)
  refine x_aR (pc := 12) (k := 0) fcX7 dX7_init_12 q49 (by decide) rfl rfl rfl rfl (fun _ => rfl) (fun _ => rfl) (fun S4 => ?_)
  refine x_aload_n (pc := 15) dX7_init_15 (i := 0) rfl rfl ?_
  refine x_aN (pc := 16) fcX5 rfl dX7_init_16 q50 q35 q36 ndX5 (fun r5 => ?_)
  refine x_dup (pc := 19) dX7_init_19 rfl ?_
  refine x_callI (pc := 20) (As := []) (rest := [.ref (mN S4), .ref o]) (Sf := fun a => a.1) (μf := fun a => a.2) (mX5_init r5.1 r5.2 cx cy (mN S4)) (fun _ => rfl) (Or.inl rfl) rfl dX7_init_20 q64 kX5_init rfl ⟨by decide, by decide⟩ rfl (Nat.le_of_ble_eq_true rfl) (fun r6 => ?_)
  refine x_aR (pc := 23) (k := 1) fcX7 dX7_init_23 q51 (by decide) rfl rfl rfl rfl (fun _ => rfl) (fun _ => rfl) (fun S8 => ?_)
  refine x_aload_n (pc := 26) dX7_init_26 (i := 0) rfl rfl ?_
  refine x_aN (pc := 27) fcX6 rfl dX7_init_27 q52 q53 q54 ndX6 (fun r9 => ?_)
  refine x_dup (pc := 30) dX7_init_30 rfl ?_
  refine x_callI (pc := 31) (As := []) (rest := [.ref (mN S8), .ref o]) (Sf := fun _ => r9.1) (μf := fun a => a) (mX6_init r9.1 r9.2 cx cy (mN S8)) (fun _ => rfl) (Or.inr (fun _ => rfl)) rfl dX7_init_31 q71 kX6_init rfl ⟨by decide, by decide⟩ rfl (Nat.le_of_ble_eq_true rfl) (fun r10 => ?_)
  refine x_aR (pc := 34) (k := 2) fcX7 dX7_init_34 q55 (by decide) rfl rfl rfl rfl (fun _ => rfl) (fun _ => rfl) (fun S12 => ?_)
  refine x_aload_n (pc := 37) dX7_init_37 (i := 0) rfl rfl ?_
  refine x_iconst (pc := 38) (v := 0) dX7_init_38 (by decide) ?_
  refine x_pI (pc := 39) (k := 3) fcX7 dX7_init_39 q56 (by decide) rfl rfl rfl rfl (fun m13 => ?_)
  refine x_aload_n (pc := 42) dX7_init_42 (i := 0) rfl rfl ?_
  refine x_iconst (pc := 43) (v := 0) dX7_init_43 (by decide) ?_
  refine x_pI (pc := 44) (k := 4) fcX7 dX7_init_44 q57 (by decide) rfl rfl rfl rfl (fun m14 => ?_)
  exact x_ret rfl dX7_init_47 rfl
theorem mX7_init (S : mSh) (μ : mMm) (cx cy : Nat) (o : Nat) : mMet MX7_init [.ref o] (S, μ, cx, cy) (iAV cx cy) (fX7_init S μ o) := mMet.of rfl (by decide) rfl (fun _ => rfl) (Nat.le_of_ble_eq_true rfl) (mX.ck (fun _ => xbX7_init o))
/-! SlideMills$History.<init>()V -/
def lX1_init_15 : Nat → mSh → mMm → Nat → Int32 → Option (mSh × mMm)
  | 0, _, _, _, _ => none
  | n + 1, S, μ, x0, x1 => (gR S x0 1 0).bind fun v4 => (aL S v4 15).bind fun v5 => if v5 ≤ x1 then ((pI S μ x0 1 1 (0 : Int32)).bind fun m6 => (pI S m6 x0 1 2 (0 : Int32)).bind fun m7 => some (S, m7)) else ((gR S x0 1 0).bind fun v8 => (aN S μ [some (.ref x0), some (.int x1)] [.int x1, .ref v8] 7 0 5).bind fun r9 => if mvk r9.1 [some (.ref x0), some (.int x1)] [.ref (mN S), .int x1, .ref v8] = true then ((fX7_init r9.1 r9.2 (mN S)).bind fun r10 => (aS r10.1 v8 x1 (mN S)).bind fun S11 => lX1_init_15 n S11 r10.2 x0 (x1 + (1 : Int32))) else none)
def bX1_init (S : mSh) (μ : mMm) (o : Nat) : Option (mSh × mMm) := (aN S μ [some (.ref o), none] [.ref o] 15 6 6).bind fun r1 => (aR r1.1 o 1 0 (mN S)).bind fun S3 => lX1_init_15 FU S3 r1.2 o (0 : Int32)
def fX1_init (S : mSh) (μ : mMm) (o : Nat) : Option (mSh × mMm) := if mok S o 1 = true then bX1_init S μ o else none
abbrev MX1_init : mM := ((yX1_init, cX1_init, 2, none), (3, 60), (true, true), RX1, eT)
theorem kX1_init : mCalI MX1_init 0 := ⟨q81, q18, q82, by decide +kernel⟩
set_option maxHeartbeats 4000000 in
theorem xX1_init_15 {n0 c0 s0 cx cy : Nat} : ∀ (n : Nat) (S : mSh) (μ : mMm) (x0 : Nat) (x1 : Int32), mX MX1_init n0 c0 s0 15 [some (.ref x0), some (.int x1)] [] (S, μ, cx, cy) (iAV cx cy) (lX1_init_15 n S μ x0 x1) := by
  intro n
  induction n with
  | zero => intros; exact x_none
  | succ n ih =>
    intro S μ x0 x1
    unfold lX1_init_15
    refine x_iload_n (pc := 15) dX1_init_15 (i := 1) rfl rfl ?_
    refine x_aload_n (pc := 16) dX1_init_16 (i := 0) rfl rfl ?_
    refine x_gR (pc := 17) (k := 0) fcX1 dX1_init_17 q85 (by decide) rfl (fun v4 => ?_)
    refine x_aLR (pc := 20) dX1_init_20 (fun v5 => ?_)
    refine x_icmp_ge (pc := 21) (tgt := 43) dX1_init_21 (by decide) ?_ ?_
    · refine x_aload_n (pc := 43) dX1_init_43 (i := 0) rfl rfl ?_
      refine x_iconst (pc := 44) (v := 0) dX1_init_44 (by decide) ?_
      refine x_pI (pc := 45) (k := 1) fcX1 dX1_init_45 q86 (by decide) rfl rfl rfl rfl (fun m6 => ?_)
      refine x_aload_n (pc := 48) dX1_init_48 (i := 0) rfl rfl ?_
      refine x_iconst (pc := 49) (v := 0) dX1_init_49 (by decide) ?_
      refine x_pI (pc := 50) (k := 2) fcX1 dX1_init_50 q87 (by decide) rfl rfl rfl rfl (fun m7 => ?_)
      exact x_ret rfl dX1_init_53 rfl
    · refine x_aload_n (pc := 24) dX1_init_24 (i := 0) rfl rfl ?_
      refine x_gR (pc := 25) (k := 0) fcX1 dX1_init_25 q85 (by decide) rfl (fun v8 => ?_)
      refine x_iload_n (pc := 28) dX1_init_28 (i := 1) rfl rfl ?_
      refine x_aN (pc := 29) fcX7 rfl dX1_init_29 q84 q11 q12 ndX7 (fun r9 => ?_)
      refine x_dup (pc := 32) dX1_init_32 rfl ?_
      refine x_callI (pc := 33) (As := []) (rest := [.ref (mN S), .int x1, .ref v8]) (Sf := fun a => a.1) (μf := fun a => a.2) (mX7_init r9.1 r9.2 cx cy (mN S)) (fun _ => rfl) (Or.inl rfl) rfl dX1_init_33 q88 kX7_init rfl ⟨by decide, by decide⟩ rfl (Nat.le_of_ble_eq_true rfl) (fun r10 => ?_)
      refine x_aS (pc := 36) dX1_init_36 (fun S11 => ?_)
      refine x_iinc (pc := 37) (v := x1 + (1 : Int32)) dX1_init_37 rfl (by rw [show Int32.ofInt (1) = (1 : Int32) from by decide]) (by decide) (l' := [some (.ref x0), some (.int (x1 + (1 : Int32)))]) rfl ?_
      refine x_goto (pc := 40) (tgt := 15) dX1_init_40 (by decide) ?_
      exact ih S11 r10.2 x0 (x1 + (1 : Int32)) 
set_option maxHeartbeats 4000000 in
theorem xbX1_init {n0 c0 s0 cx cy : Nat} {S : mSh} {μ : mMm} (o : Nat) : mX MX1_init n0 c0 s0 0 [some (.ref o), none] [] (S, μ, cx, cy) (iAV cx cy) (bX1_init S μ o) := by
  unfold bX1_init
  refine x_aload_n (pc := 0) dX1_init_0 (i := 0) rfl rfl ?_
  refine x_oI (pc := 1) dX1_init_1 q83 q8 q9 ⟨by decide, by decide⟩ (Nat.le_of_ble_eq_true rfl) ?_
  refine x_aload_n (pc := 4) dX1_init_4 (i := 0) rfl rfl ?_
  refine x_bipush (pc := 5) (v := 6) dX1_init_5 (by decide) ?_
  refine x_aA (pc := 7) rfl dX1_init_7 q84 (by decide) (by decide) (by decide) (fun r1 => ?_)
  refine x_aR (pc := 10) (k := 0) fcX1 dX1_init_10 q85 (by decide) rfl rfl rfl rfl (fun _ => rfl) (fun _ => rfl) (fun S3 => ?_)
  refine x_iconst (pc := 13) (v := 0) dX1_init_13 (by decide) ?_
  refine x_istore_n (pc := 14) dX1_init_14 (i := 1) rfl (by decide) (l' := [some (.ref o), some (.int (0 : Int32))]) rfl ?_
  exact xX1_init_15 FU S3 r1.2 o (0 : Int32) 
theorem mX1_init (S : mSh) (μ : mMm) (cx cy : Nat) (o : Nat) : mMet MX1_init [.ref o] (S, μ, cx, cy) (iAV cx cy) (fX1_init S μ o) := mMet.of rfl (by decide) rfl (fun _ => rfl) (Nat.le_of_ble_eq_true rfl) (mX.ck (fun _ => xbX1_init o))
/-! SlideMills$Mill.<init>(LSlideMills$Letters;LSlideMills$Settings;)V -/
def bX3_init (S : mSh) (μ : mMm) (o : Nat) (p0 : Nat) (p1 : Nat) : Option (mSh × mMm) := (aR S o 3 0 p0).bind fun S2 => (aR S2 o 3 1 p1).bind fun S4 => (aN S4 μ [none, none, none] [.ref o] 0 0 3).bind fun r5 => if mvk r5.1 [none, none, none] [.ref (mN S4), .ref o] = true then ((fX0_init r5.1 r5.2 (mN S4)).bind fun r6 => (aR r6.1 o 3 2 (mN S4)).bind fun S8 => some (S8, r6.2)) else none
def fX3_init (S : mSh) (μ : mMm) (o : Nat) (p0 : Nat) (p1 : Nat) : Option (mSh × mMm) := if mok S o 3 = true then bX3_init S μ o p0 p1 else none
abbrev MX3_init : mM := ((yX3_init, cX3_init, 3, none), (2, 40), (true, true), RX3, eT)
theorem kX3_init : mCalI MX3_init 2 := ⟨q96, q26, q97, by decide +kernel⟩
set_option maxHeartbeats 4000000 in
theorem xbX3_init {n0 c0 s0 cx cy : Nat} {S : mSh} {μ : mMm} (o : Nat) (p0 : Nat) (p1 : Nat) : mX MX3_init n0 c0 s0 0 [some (.ref o), some (.ref p0), some (.ref p1)] [] (S, μ, cx, cy) (iAV cx cy) (bX3_init S μ o p0 p1) := by
  unfold bX3_init
  refine x_aload_n (pc := 0) dX3_init_0 (i := 0) rfl rfl ?_
  refine x_oI (pc := 1) dX3_init_1 q98 q8 q9 ⟨by decide, by decide⟩ (Nat.le_of_ble_eq_true rfl) ?_
  refine x_aload_n (pc := 4) dX3_init_4 (i := 0) rfl rfl ?_
  refine x_aload_n (pc := 5) dX3_init_5 (i := 1) rfl rfl ?_
  refine x_aR (pc := 6) (k := 0) fcX3 dX3_init_6 q99 (by decide) rfl rfl rfl rfl (fun _ => rfl) (fun _ => rfl) (fun S2 => ?_)
  refine x_aload_n (pc := 9) dX3_init_9 (i := 0) rfl rfl ?_
  refine x_aload_n (pc := 10) dX3_init_10 (i := 2) rfl rfl ?_
  refine x_aR (pc := 11) (k := 1) fcX3 dX3_init_11 q100 (by decide) rfl rfl rfl rfl (fun _ => rfl) (fun _ => rfl) (fun S4 => ?_)
  refine x_aload_n (pc := 14) dX3_init_14 (i := 0) rfl rfl ?_
  refine x_wk (l' := [none, none, none]) ⟨Or.inl rfl, Or.inl rfl, Or.inl rfl, trivial⟩ ?_
  refine x_aN (pc := 15) fcX0 rfl dX3_init_15 q101 q102 q103 ndX0 (fun r5 => ?_)
  refine x_dup (pc := 18) dX3_init_18 rfl ?_
  refine x_callI (pc := 19) (As := []) (rest := [.ref (mN S4), .ref o]) (Sf := fun a => a.1) (μf := fun a => a.2) (mX0_init r5.1 r5.2 cx cy (mN S4)) (fun _ => rfl) (Or.inl rfl) rfl dX3_init_19 q105 kX0_init rfl ⟨by decide, by decide⟩ rfl (Nat.le_of_ble_eq_true rfl) (fun r6 => ?_)
  refine x_aR (pc := 22) (k := 2) fcX3 dX3_init_22 q104 (by decide) rfl rfl rfl rfl (fun _ => rfl) (fun _ => rfl) (fun S8 => ?_)
  exact x_ret rfl dX3_init_25 rfl
theorem mX3_init (S : mSh) (μ : mMm) (cx cy : Nat) (o : Nat) (p0 : Nat) (p1 : Nat) : mMet MX3_init [.ref o, .ref p0, .ref p1] (S, μ, cx, cy) (iAV cx cy) (fX3_init S μ o p0 p1) := mMet.of rfl (by decide) rfl (fun _ => rfl) (Nat.le_of_ble_eq_true rfl) (mX.ck (fun _ => xbX3_init o p0 p1))
/-! SlideMills$Packer.<init>(LSlideMills$Mill;)V -/
def bX4_init (S : mSh) (μ : mMm) (o : Nat) (p0 : Nat) : Option (mSh × mMm) := (aR S o 4 0 p0).bind fun S2 => (aN S2 μ [none, none] [.ref o] 12 41 41).bind fun r3 => (aR r3.1 o 4 1 (mN S2)).bind fun S5 => some (S5, r3.2)
def fX4_init (S : mSh) (μ : mMm) (o : Nat) (p0 : Nat) : Option (mSh × mMm) := if mok S o 4 = true then bX4_init S μ o p0 else none
abbrev MX4_init : mM := ((yX4_init, cX4_init, 2, none), (1, 20), (true, true), RX4, eT)
theorem kX4_init : mCalI MX4_init 1 := ⟨q113, q32, q114, by decide +kernel⟩
set_option maxHeartbeats 4000000 in
theorem xbX4_init {n0 c0 s0 cx cy : Nat} {S : mSh} {μ : mMm} (o : Nat) (p0 : Nat) : mX MX4_init n0 c0 s0 0 [some (.ref o), some (.ref p0)] [] (S, μ, cx, cy) (iAV cx cy) (bX4_init S μ o p0) := by
  unfold bX4_init
  refine x_aload_n (pc := 0) dX4_init_0 (i := 0) rfl rfl ?_
  refine x_oI (pc := 1) dX4_init_1 q115 q8 q9 ⟨by decide, by decide⟩ (Nat.le_of_ble_eq_true rfl) ?_
  refine x_aload_n (pc := 4) dX4_init_4 (i := 0) rfl rfl ?_
  refine x_aload_n (pc := 5) dX4_init_5 (i := 1) rfl rfl ?_
  refine x_aR (pc := 6) (k := 0) fcX4 dX4_init_6 q116 (by decide) rfl rfl rfl rfl (fun _ => rfl) (fun _ => rfl) (fun S2 => ?_)
  refine x_aload_n (pc := 9) dX4_init_9 (i := 0) rfl rfl ?_
  refine x_bipush (pc := 10) (v := 41) dX4_init_10 (by decide) ?_
  refine x_wk (l' := [none, none]) ⟨Or.inl rfl, Or.inl rfl, trivial⟩ ?_
  refine x_aI (pc := 12) rfl dX4_init_12 q3 (by decide) (by decide) (by decide) (fun r3 => ?_)
  refine x_aR (pc := 14) (k := 1) fcX4 dX4_init_14 q117 (by decide) rfl rfl rfl rfl (fun _ => rfl) (fun _ => rfl) (fun S5 => ?_)
  exact x_ret rfl dX4_init_17 rfl
theorem mX4_init (S : mSh) (μ : mMm) (cx cy : Nat) (o : Nat) (p0 : Nat) : mMet MX4_init [.ref o, .ref p0] (S, μ, cx, cy) (iAV cx cy) (fX4_init S μ o p0) := mMet.of rfl (by decide) rfl (fun _ => rfl) (Nat.le_of_ble_eq_true rfl) (mX.ck (fun _ => xbX4_init o p0))
/-! SlideMills$Unpacking.<init>()V -/
def bX8_init (S : mSh) (μ : mMm) (o : Nat) : Option (mSh × mMm) := (aN S μ [some (.ref o)] [.ref o] 2 0 2).bind fun r1 => if mvk r1.1 [some (.ref o)] [.ref (mN S), .ref o] = true then ((fX2_init r1.1 r1.2 (mN S)).bind fun r2 => (aR r2.1 o 8 0 (mN S)).bind fun S4 => (pI S4 r2.2 o 8 1 (-1 : Int32)).bind fun m5 => (pI S4 m5 o 8 2 (0 : Int32)).bind fun m6 => some (S4, m6)) else none
def fX8_init (S : mSh) (μ : mMm) (o : Nat) : Option (mSh × mMm) := if mok S o 8 = true then bX8_init S μ o else none
abbrev MX8_init : mM := ((yX8_init, cX8_init, 1, none), (2, 40), (true, true), RX8, eT)
theorem kX8_init : mCalI MX8_init 0 := ⟨q120, q40, q121, by decide +kernel⟩
set_option maxHeartbeats 4000000 in
theorem xbX8_init {n0 c0 s0 cx cy : Nat} {S : mSh} {μ : mMm} (o : Nat) : mX MX8_init n0 c0 s0 0 [some (.ref o)] [] (S, μ, cx, cy) (iAV cx cy) (bX8_init S μ o) := by
  unfold bX8_init
  refine x_aload_n (pc := 0) dX8_init_0 (i := 0) rfl rfl ?_
  refine x_oI (pc := 1) dX8_init_1 q122 q8 q9 ⟨by decide, by decide⟩ (Nat.le_of_ble_eq_true rfl) ?_
  refine x_aload_n (pc := 4) dX8_init_4 (i := 0) rfl rfl ?_
  refine x_aN (pc := 5) fcX2 rfl dX8_init_5 q123 q47 q48 ndX2 (fun r1 => ?_)
  refine x_dup (pc := 8) dX8_init_8 rfl ?_
  refine x_callI (pc := 9) (As := []) (rest := [.ref (mN S), .ref o]) (Sf := fun a => a.1) (μf := fun a => a.2) (mX2_init r1.1 r1.2 cx cy (mN S)) (fun _ => rfl) (Or.inl rfl) rfl dX8_init_9 q127 kX2_init rfl ⟨by decide, by decide⟩ rfl (Nat.le_of_ble_eq_true rfl) (fun r2 => ?_)
  refine x_aR (pc := 12) (k := 0) fcX8 dX8_init_12 q124 (by decide) rfl rfl rfl rfl (fun _ => rfl) (fun _ => rfl) (fun S4 => ?_)
  refine x_aload_n (pc := 15) dX8_init_15 (i := 0) rfl rfl ?_
  refine x_iconst (pc := 16) (v := -1) dX8_init_16 (by decide) ?_
  refine x_pI (pc := 17) (k := 1) fcX8 dX8_init_17 q125 (by decide) rfl rfl rfl rfl (fun m5 => ?_)
  refine x_aload_n (pc := 20) dX8_init_20 (i := 0) rfl rfl ?_
  refine x_iconst (pc := 21) (v := 0) dX8_init_21 (by decide) ?_
  refine x_pI (pc := 22) (k := 2) fcX8 dX8_init_22 q126 (by decide) rfl rfl rfl rfl (fun m6 => ?_)
  exact x_ret rfl dX8_init_25 rfl
theorem mX8_init (S : mSh) (μ : mMm) (cx cy : Nat) (o : Nat) : mMet MX8_init [.ref o] (S, μ, cx, cy) (iAV cx cy) (fX8_init S μ o) := mMet.of rfl (by decide) rfl (fun _ => rfl) (Nat.le_of_ble_eq_true rfl) (mX.ck (fun _ => xbX8_init o))
/-! SlideMills$Works.<init>()V -/
def bX9_init (S : mSh) (μ : mMm) (o : Nat) : Option (mSh × mMm) := (aN S μ [some (.ref o)] [.ref o] 12 60 60).bind fun r1 => (aR r1.1 o 9 0 (mN S)).bind fun S3 => (pI S3 r1.2 o 9 1 (0 : Int32)).bind fun m4 => some (S3, m4)
def fX9_init (S : mSh) (μ : mMm) (o : Nat) : Option (mSh × mMm) := if mok S o 9 = true then bX9_init S μ o else none
abbrev MX9_init : mM := ((yX9_init, cX9_init, 1, none), (1, 20), (true, true), RX9, eT)
theorem kX9_init : mCalI MX9_init 0 := ⟨q90, q22, q91, by decide +kernel⟩
set_option maxHeartbeats 4000000 in
theorem xbX9_init {n0 c0 s0 cx cy : Nat} {S : mSh} {μ : mMm} (o : Nat) : mX MX9_init n0 c0 s0 0 [some (.ref o)] [] (S, μ, cx, cy) (iAV cx cy) (bX9_init S μ o) := by
  unfold bX9_init
  refine x_aload_n (pc := 0) dX9_init_0 (i := 0) rfl rfl ?_
  refine x_oI (pc := 1) dX9_init_1 q92 q8 q9 ⟨by decide, by decide⟩ (Nat.le_of_ble_eq_true rfl) ?_
  refine x_aload_n (pc := 4) dX9_init_4 (i := 0) rfl rfl ?_
  refine x_bipush (pc := 5) (v := 60) dX9_init_5 (by decide) ?_
  refine x_aI (pc := 7) rfl dX9_init_7 q3 (by decide) (by decide) (by decide) (fun r1 => ?_)
  refine x_aR (pc := 9) (k := 0) fcX9 dX9_init_9 q93 (by decide) rfl rfl rfl rfl (fun _ => rfl) (fun _ => rfl) (fun S3 => ?_)
  refine x_aload_n (pc := 12) dX9_init_12 (i := 0) rfl rfl ?_
  refine x_iconst (pc := 13) (v := 0) dX9_init_13 (by decide) ?_
  refine x_pI (pc := 14) (k := 1) fcX9 dX9_init_14 q94 (by decide) rfl rfl rfl rfl (fun m4 => ?_)
  exact x_ret rfl dX9_init_17 rfl
theorem mX9_init (S : mSh) (μ : mMm) (cx cy : Nat) (o : Nat) : mMet MX9_init [.ref o] (S, μ, cx, cy) (iAV cx cy) (fX9_init S μ o) := mMet.of rfl (by decide) rfl (fun _ => rfl) (Nat.le_of_ble_eq_true rfl) (mX.ck (fun _ => xbX9_init o))
/-! SlideMills.<init>()V -/
def bX10_init (S : mSh) (μ : mMm) (o : Nat) : Option (mSh × mMm) := (aN S μ [some (.ref o)] [.ref o] 7 0 5).bind fun r1 => if mvk r1.1 [some (.ref o)] [.ref (mN S), .ref o] = true then ((fX7_init r1.1 r1.2 (mN S)).bind fun r2 => (aR r2.1 o 10 0 (mN S)).bind fun S4 => (aN S4 r2.2 [some (.ref o)] [.ref o] 7 0 5).bind fun r5 => if mvk r5.1 [some (.ref o)] [.ref (mN S4), .ref o] = true then ((fX7_init r5.1 r5.2 (mN S4)).bind fun r6 => (aR r6.1 o 10 1 (mN S4)).bind fun S8 => (pI S8 r6.2 o 10 2 (0 : Int32)).bind fun m9 => (aN S8 m9 [some (.ref o)] [.ref o] 1 0 3).bind fun r10 => if mvk r10.1 [some (.ref o)] [.ref (mN S8), .ref o] = true then ((fX1_init r10.1 r10.2 (mN S8)).bind fun r11 => (aR r11.1 o 10 3 (mN S8)).bind fun S13 => (aN S13 r11.2 [some (.ref o)] [.ref o] 9 0 2).bind fun r14 => if mvk r14.1 [some (.ref o)] [.ref (mN S13), .ref o] = true then ((fX9_init r14.1 r14.2 (mN S13)).bind fun r15 => (aR r15.1 o 10 4 (mN S13)).bind fun S17 => (aN S17 r15.2 [some (.ref o)] [.ref o] 3 0 3).bind fun r18 => (gR r18.1 o 10 0).bind fun v19 => (gR r18.1 v19 7 0).bind fun v20 => (gR r18.1 o 10 0).bind fun v21 => (gR r18.1 v21 7 2).bind fun v22 => if mvk r18.1 [some (.ref o)] [.ref (mN S17), .ref o] = true then ((fX3_init r18.1 r18.2 (mN S17) v20 v22).bind fun r23 => (aR r23.1 o 10 5 (mN S17)).bind fun S25 => (aN S25 r23.2 [some (.ref o)] [.ref o] 4 0 2).bind fun r26 => (gR r26.1 o 10 5).bind fun v27 => if mvk r26.1 [some (.ref o)] [.ref (mN S25), .ref o] = true then ((fX4_init r26.1 r26.2 (mN S25) v27).bind fun r28 => (aR r28.1 o 10 6 (mN S25)).bind fun S30 => (aN S30 r28.2 [some (.ref o)] [.ref o] 5 0 3).bind fun r31 => if mvk r31.1 [some (.ref o)] [.ref (mN S30), .ref o] = true then ((fX5_init r31.1 r31.2 (mN S30)).bind fun r32 => (aR r32.1 o 10 7 (mN S30)).bind fun S34 => (aN S34 r32.2 [none] [.ref o] 8 0 3).bind fun r35 => if mvk r35.1 [none] [.ref (mN S34), .ref o] = true then ((fX8_init r35.1 r35.2 (mN S34)).bind fun r36 => (aR r36.1 o 10 8 (mN S34)).bind fun S38 => some (S38, r36.2)) else none) else none) else none) else none) else none) else none) else none) else none
def fX10_init (S : mSh) (μ : mMm) (o : Nat) : Option (mSh × mMm) := if mok S o 10 = true then bX10_init S μ o else none
abbrev MX10_init : mM := ((yX10_init, cX10_init, 1, none), (4, 81), (true, true), RX10, eT)
theorem kX10_init : mCalI MX10_init 0 := ⟨q5, q2, q6, by decide +kernel⟩
set_option maxHeartbeats 4000000 in
theorem xbX10_init {n0 c0 s0 cx cy : Nat} {S : mSh} {μ : mMm} (o : Nat) : mX MX10_init n0 c0 s0 0 [some (.ref o)] [] (S, μ, cx, cy) (iAV cx cy) (bX10_init S μ o) := by
  unfold bX10_init
  refine x_aload_n (pc := 0) dX10_init_0 (i := 0) rfl rfl ?_
  refine x_oI (pc := 1) dX10_init_1 q7 q8 q9 ⟨by decide, by decide⟩ (Nat.le_of_ble_eq_true rfl) ?_
  refine x_aload_n (pc := 4) dX10_init_4 (i := 0) rfl rfl ?_
  refine x_aN (pc := 5) fcX7 rfl dX10_init_5 q10 q11 q12 ndX7 (fun r1 => ?_)
  refine x_dup (pc := 8) dX10_init_8 rfl ?_
  refine x_callI (pc := 9) (As := []) (rest := [.ref (mN S), .ref o]) (Sf := fun a => a.1) (μf := fun a => a.2) (mX7_init r1.1 r1.2 cx cy (mN S)) (fun _ => rfl) (Or.inl rfl) rfl dX10_init_9 q42 kX7_init rfl ⟨by decide, by decide⟩ rfl (Nat.le_of_ble_eq_true rfl) (fun r2 => ?_)
  refine x_aR (pc := 12) (k := 0) fcX10 dX10_init_12 q13 (by decide) rfl rfl rfl rfl (fun _ => rfl) (fun _ => rfl) (fun S4 => ?_)
  refine x_aload_n (pc := 15) dX10_init_15 (i := 0) rfl rfl ?_
  refine x_aN (pc := 16) fcX7 rfl dX10_init_16 q10 q11 q12 ndX7 (fun r5 => ?_)
  refine x_dup (pc := 19) dX10_init_19 rfl ?_
  refine x_callI (pc := 20) (As := []) (rest := [.ref (mN S4), .ref o]) (Sf := fun a => a.1) (μf := fun a => a.2) (mX7_init r5.1 r5.2 cx cy (mN S4)) (fun _ => rfl) (Or.inl rfl) rfl dX10_init_20 q42 kX7_init rfl ⟨by decide, by decide⟩ rfl (Nat.le_of_ble_eq_true rfl) (fun r6 => ?_)
  refine x_aR (pc := 23) (k := 1) fcX10 dX10_init_23 q14 (by decide) rfl rfl rfl rfl (fun _ => rfl) (fun _ => rfl) (fun S8 => ?_)
  refine x_aload_n (pc := 26) dX10_init_26 (i := 0) rfl rfl ?_
  refine x_iconst (pc := 27) (v := 0) dX10_init_27 (by decide) ?_
  refine x_pI (pc := 28) (k := 2) fcX10 dX10_init_28 q15 (by decide) rfl rfl rfl rfl (fun m9 => ?_)
  refine x_aload_n (pc := 31) dX10_init_31 (i := 0) rfl rfl ?_
  refine x_aN (pc := 32) fcX1 rfl dX10_init_32 q16 q17 q18 ndX1 (fun r10 => ?_)
  refine x_dup (pc := 35) dX10_init_35 rfl ?_
  refine x_callI (pc := 36) (As := []) (rest := [.ref (mN S8), .ref o]) (Sf := fun a => a.1) (μf := fun a => a.2) (mX1_init r10.1 r10.2 cx cy (mN S8)) (fun _ => rfl) (Or.inl rfl) rfl dX10_init_36 q80 kX1_init rfl ⟨by decide, by decide⟩ rfl (Nat.le_of_ble_eq_true rfl) (fun r11 => ?_)
  refine x_aR (pc := 39) (k := 3) fcX10 dX10_init_39 q19 (by decide) rfl rfl rfl rfl (fun _ => rfl) (fun _ => rfl) (fun S13 => ?_)
  refine x_aload_n (pc := 42) dX10_init_42 (i := 0) rfl rfl ?_
  refine x_aN (pc := 43) fcX9 rfl dX10_init_43 q20 q21 q22 ndX9 (fun r14 => ?_)
  refine x_dup (pc := 46) dX10_init_46 rfl ?_
  refine x_callI (pc := 47) (As := []) (rest := [.ref (mN S13), .ref o]) (Sf := fun a => a.1) (μf := fun a => a.2) (mX9_init r14.1 r14.2 cx cy (mN S13)) (fun _ => rfl) (Or.inl rfl) rfl dX10_init_47 q89 kX9_init rfl ⟨by decide, by decide⟩ rfl (Nat.le_of_ble_eq_true rfl) (fun r15 => ?_)
  refine x_aR (pc := 50) (k := 4) fcX10 dX10_init_50 q23 (by decide) rfl rfl rfl rfl (fun _ => rfl) (fun _ => rfl) (fun S17 => ?_)
  refine x_aload_n (pc := 53) dX10_init_53 (i := 0) rfl rfl ?_
  refine x_aN (pc := 54) fcX3 rfl dX10_init_54 q24 q25 q26 ndX3 (fun r18 => ?_)
  refine x_dup (pc := 57) dX10_init_57 rfl ?_
  refine x_aload_n (pc := 58) dX10_init_58 (i := 0) rfl rfl ?_
  refine x_gR (pc := 59) (k := 0) fcX10 dX10_init_59 q13 (by decide) rfl (fun v19 => ?_)
  refine x_gR (pc := 62) (k := 0) fcX7 dX10_init_62 q27 (by decide) rfl (fun v20 => ?_)
  refine x_aload_n (pc := 65) dX10_init_65 (i := 0) rfl rfl ?_
  refine x_gR (pc := 66) (k := 0) fcX10 dX10_init_66 q13 (by decide) rfl (fun v21 => ?_)
  refine x_gR (pc := 69) (k := 2) fcX7 dX10_init_69 q28 (by decide) rfl (fun v22 => ?_)
  refine x_callI (pc := 72) (As := [.ref v20, .ref v22]) (rest := [.ref (mN S17), .ref o]) (Sf := fun a => a.1) (μf := fun a => a.2) (mX3_init r18.1 r18.2 cx cy (mN S17) v20 v22) (fun _ => rfl) (Or.inl rfl) rfl dX10_init_72 q95 kX3_init rfl ⟨by decide, by decide⟩ rfl (Nat.le_of_ble_eq_true rfl) (fun r23 => ?_)
  refine x_aR (pc := 75) (k := 5) fcX10 dX10_init_75 q29 (by decide) rfl rfl rfl rfl (fun _ => rfl) (fun _ => rfl) (fun S25 => ?_)
  refine x_aload_n (pc := 78) dX10_init_78 (i := 0) rfl rfl ?_
  refine x_aN (pc := 79) fcX4 rfl dX10_init_79 q30 q31 q32 ndX4 (fun r26 => ?_)
  refine x_dup (pc := 82) dX10_init_82 rfl ?_
  refine x_aload_n (pc := 83) dX10_init_83 (i := 0) rfl rfl ?_
  refine x_gR (pc := 84) (k := 5) fcX10 dX10_init_84 q29 (by decide) rfl (fun v27 => ?_)
  refine x_callI (pc := 87) (As := [.ref v27]) (rest := [.ref (mN S25), .ref o]) (Sf := fun a => a.1) (μf := fun a => a.2) (mX4_init r26.1 r26.2 cx cy (mN S25) v27) (fun _ => rfl) (Or.inl rfl) rfl dX10_init_87 q112 kX4_init rfl ⟨by decide, by decide⟩ rfl (Nat.le_of_ble_eq_true rfl) (fun r28 => ?_)
  refine x_aR (pc := 90) (k := 6) fcX10 dX10_init_90 q33 (by decide) rfl rfl rfl rfl (fun _ => rfl) (fun _ => rfl) (fun S30 => ?_)
  refine x_aload_n (pc := 93) dX10_init_93 (i := 0) rfl rfl ?_
  refine x_aN (pc := 94) fcX5 rfl dX10_init_94 q34 q35 q36 ndX5 (fun r31 => ?_)
  refine x_dup (pc := 97) dX10_init_97 rfl ?_
  refine x_callI (pc := 98) (As := []) (rest := [.ref (mN S30), .ref o]) (Sf := fun a => a.1) (μf := fun a => a.2) (mX5_init r31.1 r31.2 cx cy (mN S30)) (fun _ => rfl) (Or.inl rfl) rfl dX10_init_98 q118 kX5_init rfl ⟨by decide, by decide⟩ rfl (Nat.le_of_ble_eq_true rfl) (fun r32 => ?_)
  refine x_aR (pc := 101) (k := 7) fcX10 dX10_init_101 q37 (by decide) rfl rfl rfl rfl (fun _ => rfl) (fun _ => rfl) (fun S34 => ?_)
  refine x_aload_n (pc := 104) dX10_init_104 (i := 0) rfl rfl ?_
  refine x_wk (l' := [none]) ⟨Or.inl rfl, trivial⟩ ?_
  refine x_aN (pc := 105) fcX8 rfl dX10_init_105 q38 q39 q40 ndX8 (fun r35 => ?_)
  refine x_dup (pc := 108) dX10_init_108 rfl ?_
  refine x_callI (pc := 109) (As := []) (rest := [.ref (mN S34), .ref o]) (Sf := fun a => a.1) (μf := fun a => a.2) (mX8_init r35.1 r35.2 cx cy (mN S34)) (fun _ => rfl) (Or.inl rfl) rfl dX10_init_109 q119 kX8_init rfl ⟨by decide, by decide⟩ rfl (Nat.le_of_ble_eq_true rfl) (fun r36 => ?_)
  refine x_aR (pc := 112) (k := 8) fcX10 dX10_init_112 q41 (by decide) rfl rfl rfl rfl (fun _ => rfl) (fun _ => rfl) (fun S38 => ?_)
  exact x_ret rfl dX10_init_115 rfl
theorem mX10_init (S : mSh) (μ : mMm) (cx cy : Nat) (o : Nat) : mMet MX10_init [.ref o] (S, μ, cx, cy) (iAV cx cy) (fX10_init S μ o) := mMet.of rfl (by decide) rfl (fun _ => rfl) (Nat.le_of_ble_eq_true rfl) (mX.ck (fun _ => xbX10_init o))
