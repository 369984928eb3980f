/-! printed by gen.py: each method as a function of numbers, and that the machine does what it says -/
/-! SlideMillsModel.thrown()I -/
def bX11_thrown (S : mSh) (μ : mMm) (o : Nat) : Option (Int32) := (gI S μ o 11 11).bind fun v1 => some v1
def fX11_thrown (S : mSh) (μ : mMm) (o : Nat) : Option (Int32) := if mok S o 11 = true then bX11_thrown S μ o else none
abbrev MX11_thrown : mM := ((yX11_thrown, cX11_thrown, 1, (some .int)), (0, 0), (false, false), RX11, eT)
theorem kX11_thrown : mCalV MX11_thrown RX11 0 := ⟨q217, q218, q5, q219, by decide +kernel⟩
set_option maxHeartbeats 4000000 in
theorem xbX11_thrown {n0 c0 s0 cx cy : Nat} {S : mSh} {μ : mMm} (o : Nat) : mX MX11_thrown n0 c0 s0 0 [some (.ref o)] [] (S, μ, cx, cy) (iPI S μ cx cy) (bX11_thrown S μ o) := by
  unfold bX11_thrown
  refine x_aload_n (pc := 0) dX11_thrown_0 (i := 0) rfl rfl ?_
  refine x_gI (pc := 1) (k := 11) fcX11 dX11_thrown_1 q206 (by decide) rfl (fun v1 => ?_)
  exact x_iret rfl dX11_thrown_4 rfl rfl
theorem mX11_thrown (S : mSh) (μ : mMm) (cx cy : Nat) (o : Nat) : mMet MX11_thrown [.ref o] (S, μ, cx, cy) (iPI S μ cx cy) (fX11_thrown S μ o) := mMet.of rfl (by decide) rfl (fun h => by cases h) (Nat.le_of_ble_eq_true rfl) (mX.ck (fun _ => xbX11_thrown o))
/-! SlideMillsModel.in(III)Z -/
def fX11_in (p0 : Int32) (p1 : Int32) (p2 : Int32) : Option (Int32) := if p0 < p1 then (some (0 : Int32)) else (if p2 < p0 then (some (0 : Int32)) else (some (1 : Int32)))
abbrev MX11_in : mM := ((yX11_in, cX11_in, 3, (some .boolean)), (0, 0), (false, false), RX11, eT)
theorem kX11_in : mCalS MX11_in 3 := ⟨q200, q5, q201, by decide +kernel⟩
set_option maxHeartbeats 4000000 in
theorem xbX11_in {n0 c0 s0 cx cy : Nat} {S : mSh} {μ : mMm} (p0 : Int32) (p1 : Int32) (p2 : Int32) : mX MX11_in n0 c0 s0 0 [some (.int p0), some (.int p1), some (.int p2)] [] (S, μ, cx, cy) (iPI S μ cx cy) (fX11_in p0 p1 p2) := by
  unfold fX11_in
  refine x_iload_n (pc := 0) dX11_in_0 (i := 0) rfl rfl ?_
  refine x_iload_n (pc := 1) dX11_in_1 (i := 1) rfl rfl ?_
  refine x_icmp_lt (pc := 2) (tgt := 14) dX11_in_2 (by decide) ?_ ?_
  · refine x_iconst (pc := 14) (v := 0) dX11_in_14 (by decide) ?_
    exact x_iret rfl dX11_in_15 rfl rfl
  · refine x_iload_n (pc := 5) dX11_in_5 (i := 0) rfl rfl ?_
    refine x_iload_n (pc := 6) dX11_in_6 (i := 2) rfl rfl ?_
    refine x_icmp_gt (pc := 7) (tgt := 14) dX11_in_7 (by decide) ?_ ?_
    · refine x_iconst (pc := 14) (v := 0) dX11_in_14 (by decide) ?_
      exact x_iret rfl dX11_in_15 rfl rfl
    · refine x_iconst (pc := 10) (v := 1) dX11_in_10 (by decide) ?_
      refine x_goto (pc := 11) (tgt := 15) dX11_in_11 (by decide) ?_
      exact x_iret rfl dX11_in_15 rfl rfl
theorem mX11_in (S : mSh) (μ : mMm) (cx cy : Nat) (p0 : Int32) (p1 : Int32) (p2 : Int32) : mMet MX11_in [.int p0, .int p1, .int p2] (S, μ, cx, cy) (iPI S μ cx cy) (fX11_in p0 p1 p2) := mMet.of rfl (by decide) rfl (fun h => by cases h) (Nat.le_of_ble_eq_true rfl) (xbX11_in p0 p1 p2)
/-! SlideMillsModel.asks(Z)Z -/
def bX11_asks (S : mSh) (μ : mMm) (o : Nat) (p0 : Int32) : Option (Int32 × mMm) := if p0 = 0 then ((pI S μ o 11 11 (1 : Int32)).bind fun m1 => if (p0 = 0 ∨ p0 = 1) then some (p0, m1) else none) else ((pI S μ o 11 11 (0 : Int32)).bind fun m2 => if (p0 = 0 ∨ p0 = 1) then some (p0, m2) else none)
def fX11_asks (S : mSh) (μ : mMm) (o : Nat) (p0 : Int32) : Option (Int32 × mMm) := if mok S o 11 = true then bX11_asks S μ o p0 else none
abbrev MX11_asks : mM := ((yX11_asks, cX11_asks, 2, (some .boolean)), (0, 0), (false, false), RX11, eT)
theorem kX11_asks : mCalV MX11_asks RX11 1 := ⟨q203, q204, q5, q205, by decide +kernel⟩
set_option maxHeartbeats 4000000 in
theorem xbX11_asks {n0 c0 s0 cx cy : Nat} {S : mSh} {μ : mMm} (o : Nat) (p0 : Int32) : mX MX11_asks n0 c0 s0 0 [some (.ref o), some (.int p0)] [] (S, μ, cx, cy) (iMI S cx cy) (bX11_asks S μ o p0) := by
  unfold bX11_asks
  refine x_aload_n (pc := 0) dX11_asks_0 (i := 0) rfl rfl ?_
  refine x_iload_n (pc := 1) dX11_asks_1 (i := 1) rfl rfl ?_
  refine x_if_eq (pc := 2) (tgt := 9) dX11_asks_2 (by decide) ?_ ?_
  · refine x_iconst (pc := 9) (v := 1) dX11_asks_9 (by decide) ?_
    refine x_pI (pc := 10) (k := 11) fcX11 dX11_asks_10 q206 (by decide) rfl rfl rfl rfl (fun m1 => ?_)
    refine x_iload_n (pc := 13) dX11_asks_13 (i := 1) rfl rfl ?_
    exact mX.ck (fun hp => x_iret rfl dX11_asks_14 rfl (mNarZ hp))
  · refine x_iconst (pc := 5) (v := 0) dX11_asks_5 (by decide) ?_
    refine x_goto (pc := 6) (tgt := 10) dX11_asks_6 (by decide) ?_
    refine x_pI (pc := 10) (k := 11) fcX11 dX11_asks_10 q206 (by decide) rfl rfl rfl rfl (fun m2 => ?_)
    refine x_iload_n (pc := 13) dX11_asks_13 (i := 1) rfl rfl ?_
    exact mX.ck (fun hp => x_iret rfl dX11_asks_14 rfl (mNarZ hp))
theorem mX11_asks (S : mSh) (μ : mMm) (cx cy : Nat) (o : Nat) (p0 : Int32) : mMet MX11_asks [.ref o, .int p0] (S, μ, cx, cy) (iMI S cx cy) (fX11_asks S μ o p0) := mMet.of rfl (by decide) rfl (fun h => by cases h) (Nat.le_of_ble_eq_true rfl) (mX.ck (fun _ => xbX11_asks o p0))
/-! SlideMillsModel.asksThen(ZI)Z -/
def lX11_asksThen_24 (S : mSh) (μ : mMm) (x0 : Nat) (t0 : Int32) (t1 : Nat) : Option (Int32 × mMm) := (pI S μ t1 11 11 t0).bind fun m2 => (gI S m2 x0 11 11).bind fun v3 => if v3 = 0 then (some ((1 : Int32), m2)) else (some ((0 : Int32), m2))
def bX11_asksThen (S : mSh) (μ : mMm) (o : Nat) (p0 : Int32) (p1 : Int32) : Option (Int32 × mMm) := (gI S μ o 11 11).bind fun v1 => if v1 ≤ 0 then (if p0 = 0 then (lX11_asksThen_24 S μ o p1 o) else (lX11_asksThen_24 S μ o (0 : Int32) o)) else ((gI S μ o 11 11).bind fun v4 => lX11_asksThen_24 S μ o v4 o)
def fX11_asksThen (S : mSh) (μ : mMm) (o : Nat) (p0 : Int32) (p1 : Int32) : Option (Int32 × mMm) := if mok S o 11 = true then bX11_asksThen S μ o p0 p1 else none
abbrev MX11_asksThen : mM := ((yX11_asksThen, cX11_asksThen, 3, (some .boolean)), (0, 0), (false, false), RX11, eT)
theorem kX11_asksThen : mCalV MX11_asksThen RX11 2 := ⟨q208, q209, q5, q210, by decide +kernel⟩
set_option maxHeartbeats 4000000 in
theorem xX11_asksThen_24 {n0 c0 s0 cx cy : Nat} {S : mSh} (μ : mMm) (x0 : Nat) (t0 : Int32) (t1 : Nat) (d1 : Option Value) (d2 : Option Value) : mX MX11_asksThen n0 c0 s0 24 [some (.ref x0), d1, d2] [.int t0, .ref t1] (S, μ, cx, cy) (iMI S cx cy) (lX11_asksThen_24 S μ x0 t0 t1) := by
  unfold lX11_asksThen_24
  refine x_pI (pc := 24) (k := 11) fcX11 dX11_asksThen_24 q206 (by decide) rfl rfl rfl rfl (fun m2 => ?_)
  refine x_aload_n (pc := 27) dX11_asksThen_27 (i := 0) rfl rfl ?_
  refine x_gI (pc := 28) (k := 11) fcX11 dX11_asksThen_28 q206 (by decide) rfl (fun v3 => ?_)
  refine x_if_ne (pc := 31) (tgt := 38) dX11_asksThen_31 (by decide) ?_ ?_
  · refine x_iconst (pc := 34) (v := 1) dX11_asksThen_34 (by decide) ?_
    refine x_goto (pc := 35) (tgt := 39) dX11_asksThen_35 (by decide) ?_
    exact x_iret rfl dX11_asksThen_39 rfl rfl
  · refine x_iconst (pc := 38) (v := 0) dX11_asksThen_38 (by decide) ?_
    exact x_iret rfl dX11_asksThen_39 rfl rfl
set_option maxHeartbeats 4000000 in
theorem xbX11_asksThen {n0 c0 s0 cx cy : Nat} {S : mSh} {μ : mMm} (o : Nat) (p0 : Int32) (p1 : Int32) : mX MX11_asksThen n0 c0 s0 0 [some (.ref o), some (.int p0), some (.int p1)] [] (S, μ, cx, cy) (iMI S cx cy) (bX11_asksThen S μ o p0 p1) := by
  unfold bX11_asksThen
  refine x_aload_n (pc := 0) dX11_asksThen_0 (i := 0) rfl rfl ?_
  refine x_aload_n (pc := 1) dX11_asksThen_1 (i := 0) rfl rfl ?_
  refine x_gI (pc := 2) (k := 11) fcX11 dX11_asksThen_2 q206 (by decide) rfl (fun v1 => ?_)
  refine x_if_le (pc := 5) (tgt := 15) dX11_asksThen_5 (by decide) ?_ ?_
  · refine x_iload_n (pc := 15) dX11_asksThen_15 (i := 1) rfl rfl ?_
    refine x_if_eq (pc := 16) (tgt := 23) dX11_asksThen_16 (by decide) ?_ ?_
    · refine x_iload_n (pc := 23) dX11_asksThen_23 (i := 2) rfl rfl ?_
      exact xX11_asksThen_24 μ o p1 o _ _
    · refine x_iconst (pc := 19) (v := 0) dX11_asksThen_19 (by decide) ?_
      refine x_goto (pc := 20) (tgt := 24) dX11_asksThen_20 (by decide) ?_
      exact xX11_asksThen_24 μ o (0 : Int32) o _ _
  · refine x_aload_n (pc := 8) dX11_asksThen_8 (i := 0) rfl rfl ?_
    refine x_gI (pc := 9) (k := 11) fcX11 dX11_asksThen_9 q206 (by decide) rfl (fun v4 => ?_)
    refine x_goto (pc := 12) (tgt := 24) dX11_asksThen_12 (by decide) ?_
    exact xX11_asksThen_24 μ o v4 o _ _
theorem mX11_asksThen (S : mSh) (μ : mMm) (cx cy : Nat) (o : Nat) (p0 : Int32) (p1 : Int32) : mMet MX11_asksThen [.ref o, .int p0, .int p1] (S, μ, cx, cy) (iMI S cx cy) (fX11_asksThen S μ o p0 p1) := mMet.of rfl (by decide) rfl (fun h => by cases h) (Nat.le_of_ble_eq_true rfl) (mX.ck (fun _ => xbX11_asksThen o p0 p1))
/-! SlideMillsModel.says(I)I -/
def bX11_says (S : mSh) (μ : mMm) (o : Nat) (p0 : Int32) : Option (Int32 × mMm) := (pI S μ o 11 11 (0 : Int32)).bind fun m1 => some (p0, m1)
def fX11_says (S : mSh) (μ : mMm) (o : Nat) (p0 : Int32) : Option (Int32 × mMm) := if mok S o 11 = true then bX11_says S μ o p0 else none
abbrev MX11_says : mM := ((yX11_says, cX11_says, 2, (some .int)), (0, 0), (false, false), RX11, eT)
theorem kX11_says : mCalV MX11_says RX11 1 := ⟨q267, q268, q5, q269, by decide +kernel⟩
set_option maxHeartbeats 4000000 in
theorem xbX11_says {n0 c0 s0 cx cy : Nat} {S : mSh} {μ : mMm} (o : Nat) (p0 : Int32) : mX MX11_says n0 c0 s0 0 [some (.ref o), some (.int p0)] [] (S, μ, cx, cy) (iMI S cx cy) (bX11_says S μ o p0) := by
  unfold bX11_says
  refine x_aload_n (pc := 0) dX11_says_0 (i := 0) rfl rfl ?_
  refine x_iconst (pc := 1) (v := 0) dX11_says_1 (by decide) ?_
  refine x_pI (pc := 2) (k := 11) fcX11 dX11_says_2 q206 (by decide) rfl rfl rfl rfl (fun m1 => ?_)
  refine x_iload_n (pc := 5) dX11_says_5 (i := 1) rfl rfl ?_
  exact x_iret rfl dX11_says_6 rfl rfl
theorem mX11_says (S : mSh) (μ : mMm) (cx cy : Nat) (o : Nat) (p0 : Int32) : mMet MX11_says [.ref o, .int p0] (S, μ, cx, cy) (iMI S cx cy) (fX11_says S μ o p0) := mMet.of rfl (by decide) rfl (fun h => by cases h) (Nat.le_of_ble_eq_true rfl) (mX.ck (fun _ => xbX11_says o p0))
/-! SlideMillsModel.record()V -/
def lX11_record_52 (S : mSh) : Nat → mMm → Nat → Int32 → Option (mMm)
  | 0, _, _, _ => none
  | n + 1, μ, x0, x1 => if (130 : Int32) ≤ x1 then ((gI S μ x0 11 2).bind fun v2 => (pI S μ x0 11 2 (v2 + (1 : Int32))).bind fun m3 => some m3) else ((gR S x0 11 1).bind fun v4 => (gI S μ x0 11 2).bind fun v5 => (gR S x0 11 0).bind fun v6 => (ldI S μ v6 x1).bind fun v7 => (stI S μ v4 ((v5 * (130 : Int32)) + x1) v7).bind fun m8 => lX11_record_52 S n m8 x0 (x1 + (1 : Int32)))
def lX11_record_50 (S : mSh) (μ : mMm) (x0 : Nat) : Option (mMm) := lX11_record_52 S FU μ x0 (0 : Int32)
def lX11_record_11 (S : mSh) : Nat → mMm → Nat → Int32 → Option (mMm)
  | 0, _, _, _ => none
  | n + 1, μ, x0, x1 => if (650 : Int32) ≤ x1 then ((gI S μ x0 11 2).bind fun v9 => (pI S μ x0 11 2 (v9 - (1 : Int32))).bind fun m10 => lX11_record_50 S m10 x0) else ((gR S x0 11 1).bind fun v11 => (gR S x0 11 1).bind fun v12 => (ldI S μ v12 (x1 + (130 : Int32))).bind fun v13 => (stI S μ v11 x1 v13).bind fun m14 => lX11_record_11 S n m14 x0 (x1 + (1 : Int32)))
def bX11_record (S : mSh) (μ : mMm) (o : Nat) : Option (mMm) := (gI S μ o 11 2).bind fun v1 => if v1 = (6 : Int32) then (lX11_record_11 S FU μ o (0 : Int32)) else (lX11_record_50 S μ o)
def fX11_record (S : mSh) (μ : mMm) (o : Nat) : Option (mMm) := if mok S o 11 = true then bX11_record S μ o else none
abbrev MX11_record : mM := ((yX11_record, cX11_record, 2, none), (0, 0), (false, false), RX11, eT)
theorem kX11_record : mCalV MX11_record RX11 0 := ⟨q212, q213, q5, q214, by decide +kernel⟩
set_option maxHeartbeats 4000000 in
theorem xX11_record_52 {n0 c0 s0 cx cy : Nat} {S : mSh} : ∀ (n : Nat) (μ : mMm) (x0 : Nat) (x1 : Int32), mX MX11_record n0 c0 s0 52 [some (.ref x0), some (.int x1)] [] (S, μ, cx, cy) (iMV S cx cy) (lX11_record_52 S n μ x0 x1) := by
  intro n
  induction n with
  | zero => intros; exact x_none
  | succ n ih =>
    intro μ x0 x1
    unfold lX11_record_52
    refine x_iload_n (pc := 52) dX11_record_52 (i := 1) rfl rfl ?_
    refine x_sipush (pc := 53) (v := 130) dX11_record_53 (by decide) ?_
    refine x_icmp_ge (pc := 56) (tgt := 86) dX11_record_56 (by decide) ?_ ?_
    · refine x_aload_n (pc := 86) dX11_record_86 (i := 0) rfl rfl ?_
      refine x_dup (pc := 87) dX11_record_87 rfl ?_
      refine x_gI (pc := 88) (k := 2) fcX11 dX11_record_88 q215 (by decide) rfl (fun v2 => ?_)
      refine x_iconst (pc := 91) (v := 1) dX11_record_91 (by decide) ?_
      refine x_iadd (pc := 92) dX11_record_92 ?_
      refine x_pI (pc := 93) (k := 2) fcX11 dX11_record_93 q215 (by decide) rfl rfl rfl rfl (fun m3 => ?_)
      exact x_ret rfl dX11_record_96 rfl
    · refine x_aload_n (pc := 59) dX11_record_59 (i := 0) rfl rfl ?_
      refine x_gR (pc := 60) (k := 1) fcX11 dX11_record_60 q137 (by decide) rfl (fun v4 => ?_)
      refine x_aload_n (pc := 63) dX11_record_63 (i := 0) rfl rfl ?_
      refine x_gI (pc := 64) (k := 2) fcX11 dX11_record_64 q215 (by decide) rfl (fun v5 => ?_)
      refine x_sipush (pc := 67) (v := 130) dX11_record_67 (by decide) ?_
      refine x_imul (pc := 70) dX11_record_70 ?_
      refine x_iload_n (pc := 71) dX11_record_71 (i := 1) rfl rfl ?_
      refine x_iadd (pc := 72) dX11_record_72 ?_
      refine x_aload_n (pc := 73) dX11_record_73 (i := 0) rfl rfl ?_
      refine x_gR (pc := 74) (k := 0) fcX11 dX11_record_74 q136 (by decide) rfl (fun v6 => ?_)
      refine x_iload_n (pc := 77) dX11_record_77 (i := 1) rfl rfl ?_
      refine x_ldI (pc := 78) dX11_record_78 (fun v7 => ?_)
      refine x_stI (pc := 79) dX11_record_79 (fun m8 => ?_)
      refine x_iinc (pc := 80) (v := x1 + (1 : Int32)) dX11_record_80 rfl (by rw [show Int32.ofInt (1) = (1 : Int32) from by decide]) (by decide) (l' := [some (.ref x0), some (.int (x1 + (1 : Int32)))]) rfl ?_
      refine x_goto (pc := 83) (tgt := 52) dX11_record_83 (by decide) ?_
      exact ih m8 x0 (x1 + (1 : Int32)) 
set_option maxHeartbeats 4000000 in
theorem xX11_record_50 {n0 c0 s0 cx cy : Nat} {S : mSh} (μ : mMm) (x0 : Nat) (d1 : Option Value) : mX MX11_record n0 c0 s0 50 [some (.ref x0), d1] [] (S, μ, cx, cy) (iMV S cx cy) (lX11_record_50 S μ x0) := by
  unfold lX11_record_50
  refine x_iconst (pc := 50) (v := 0) dX11_record_50 (by decide) ?_
  refine x_istore_n (pc := 51) dX11_record_51 (i := 1) rfl (by decide) (l' := [some (.ref x0), some (.int (0 : Int32))]) rfl ?_
  exact xX11_record_52 FU μ x0 (0 : Int32) 
set_option maxHeartbeats 4000000 in
theorem xX11_record_11 {n0 c0 s0 cx cy : Nat} {S : mSh} : ∀ (n : Nat) (μ : mMm) (x0 : Nat) (x1 : Int32), mX MX11_record n0 c0 s0 11 [some (.ref x0), some (.int x1)] [] (S, μ, cx, cy) (iMV S cx cy) (lX11_record_11 S n μ x0 x1) := by
  intro n
  induction n with
  | zero => intros; exact x_none
  | succ n ih =>
    intro μ x0 x1
    unfold lX11_record_11
    refine x_iload_n (pc := 11) dX11_record_11 (i := 1) rfl rfl ?_
    refine x_sipush (pc := 12) (v := 650) dX11_record_12 (by decide) ?_
    refine x_icmp_ge (pc := 15) (tgt := 40) dX11_record_15 (by decide) ?_ ?_
    · refine x_aload_n (pc := 40) dX11_record_40 (i := 0) rfl rfl ?_
      refine x_dup (pc := 41) dX11_record_41 rfl ?_
      refine x_gI (pc := 42) (k := 2) fcX11 dX11_record_42 q215 (by decide) rfl (fun v9 => ?_)
      refine x_iconst (pc := 45) (v := 1) dX11_record_45 (by decide) ?_
      refine x_isub (pc := 46) dX11_record_46 ?_
      refine x_pI (pc := 47) (k := 2) fcX11 dX11_record_47 q215 (by decide) rfl rfl rfl rfl (fun m10 => ?_)
      exact xX11_record_50 m10 x0 _
    · refine x_aload_n (pc := 18) dX11_record_18 (i := 0) rfl rfl ?_
      refine x_gR (pc := 19) (k := 1) fcX11 dX11_record_19 q137 (by decide) rfl (fun v11 => ?_)
      refine x_iload_n (pc := 22) dX11_record_22 (i := 1) rfl rfl ?_
      refine x_aload_n (pc := 23) dX11_record_23 (i := 0) rfl rfl ?_
      refine x_gR (pc := 24) (k := 1) fcX11 dX11_record_24 q137 (by decide) rfl (fun v12 => ?_)
      refine x_iload_n (pc := 27) dX11_record_27 (i := 1) rfl rfl ?_
      refine x_sipush (pc := 28) (v := 130) dX11_record_28 (by decide) ?_
      refine x_iadd (pc := 31) dX11_record_31 ?_
      refine x_ldI (pc := 32) dX11_record_32 (fun v13 => ?_)
      refine x_stI (pc := 33) dX11_record_33 (fun m14 => ?_)
      refine x_iinc (pc := 34) (v := x1 + (1 : Int32)) dX11_record_34 rfl (by rw [show Int32.ofInt (1) = (1 : Int32) from by decide]) (by decide) (l' := [some (.ref x0), some (.int (x1 + (1 : Int32)))]) rfl ?_
      refine x_goto (pc := 37) (tgt := 11) dX11_record_37 (by decide) ?_
      exact ih m14 x0 (x1 + (1 : Int32)) 
set_option maxHeartbeats 4000000 in
theorem xbX11_record {n0 c0 s0 cx cy : Nat} {S : mSh} {μ : mMm} (o : Nat) : mX MX11_record n0 c0 s0 0 [some (.ref o), none] [] (S, μ, cx, cy) (iMV S cx cy) (bX11_record S μ o) := by
  unfold bX11_record
  refine x_aload_n (pc := 0) dX11_record_0 (i := 0) rfl rfl ?_
  refine x_gI (pc := 1) (k := 2) fcX11 dX11_record_1 q215 (by decide) rfl (fun v1 => ?_)
  refine x_bipush (pc := 4) (v := 6) dX11_record_4 (by decide) ?_
  refine x_icmp_ne (pc := 6) (tgt := 50) dX11_record_6 (by decide) ?_ ?_
  · refine x_iconst (pc := 9) (v := 0) dX11_record_9 (by decide) ?_
    refine x_istore_n (pc := 10) dX11_record_10 (i := 1) rfl (by decide) (l' := [some (.ref o), some (.int (0 : Int32))]) rfl ?_
    exact xX11_record_11 FU μ o (0 : Int32) 
  · exact xX11_record_50 μ o _
theorem mX11_record (S : mSh) (μ : mMm) (cx cy : Nat) (o : Nat) : mMet MX11_record [.ref o] (S, μ, cx, cy) (iMV S cx cy) (fX11_record S μ o) := mMet.of rfl (by decide) rfl (fun h => by cases h) (Nat.le_of_ble_eq_true rfl) (mX.ck (fun _ => xbX11_record o))
/-! SlideMillsModel.undo()I -/
def lX11_undo_33 (S : mSh) : Nat → mMm → Nat → Int32 → Option (Int32 × mMm)
  | 0, _, _, _ => none
  | n + 1, μ, x0, x1 => if (130 : Int32) ≤ x1 then ((gI S μ x0 11 2).bind fun v5 => some (v5, μ)) else ((gR S x0 11 0).bind fun v6 => (gR S x0 11 1).bind fun v7 => (gI S μ x0 11 2).bind fun v8 => (ldI S μ v7 ((v8 * (130 : Int32)) + x1)).bind fun v9 => (stI S μ v6 x1 v9).bind fun m10 => lX11_undo_33 S n m10 x0 (x1 + (1 : Int32)))
def lX11_undo_13 (S : mSh) (μ : mMm) (x0 : Nat) (t0 : Int32) (t1 : Nat) : Option (Int32 × mMm) := (fX11_asks S μ t1 t0).bind fun r2 => if r2.1 = 0 then (some ((0 : Int32), r2.2)) else ((gI S r2.2 x0 11 2).bind fun v3 => (pI S r2.2 x0 11 2 (v3 - (1 : Int32))).bind fun m4 => lX11_undo_33 S FU m4 x0 (0 : Int32))
def bX11_undo (S : mSh) (μ : mMm) (o : Nat) : Option (Int32 × mMm) := (gI S μ o 11 2).bind fun v1 => if v1 ≤ 0 then (lX11_undo_13 S μ o (0 : Int32) o) else (lX11_undo_13 S μ o (1 : Int32) o)
def fX11_undo (S : mSh) (μ : mMm) (o : Nat) : Option (Int32 × mMm) := if mok S o 11 = true then bX11_undo S μ o else none
abbrev MX11_undo : mM := ((yX11_undo, cX11_undo, 2, (some .int)), (1, 21), (false, false), RX11, eT)
theorem kX11_undo : mCalV MX11_undo RX11 0 := ⟨q749, q750, q5, q751, by decide +kernel⟩
set_option maxHeartbeats 4000000 in
theorem xX11_undo_33 {n0 c0 s0 cx cy : Nat} {S : mSh} : ∀ (n : Nat) (μ : mMm) (x0 : Nat) (x1 : Int32), mX MX11_undo n0 c0 s0 33 [some (.ref x0), some (.int x1)] [] (S, μ, cx, cy) (iMI S cx cy) (lX11_undo_33 S n μ x0 x1) := by
  intro n
  induction n with
  | zero => intros; exact x_none
  | succ n ih =>
    intro μ x0 x1
    unfold lX11_undo_33
    refine x_iload_n (pc := 33) dX11_undo_33 (i := 1) rfl rfl ?_
    refine x_sipush (pc := 34) (v := 130) dX11_undo_34 (by decide) ?_
    refine x_icmp_ge (pc := 37) (tgt := 67) dX11_undo_37 (by decide) ?_ ?_
    · refine x_aload_n (pc := 67) dX11_undo_67 (i := 0) rfl rfl ?_
      refine x_gI (pc := 68) (k := 2) fcX11 dX11_undo_68 q215 (by decide) rfl (fun v5 => ?_)
      exact x_iret rfl dX11_undo_71 rfl rfl
    · refine x_aload_n (pc := 40) dX11_undo_40 (i := 0) rfl rfl ?_
      refine x_gR (pc := 41) (k := 0) fcX11 dX11_undo_41 q136 (by decide) rfl (fun v6 => ?_)
      refine x_iload_n (pc := 44) dX11_undo_44 (i := 1) rfl rfl ?_
      refine x_aload_n (pc := 45) dX11_undo_45 (i := 0) rfl rfl ?_
      refine x_gR (pc := 46) (k := 1) fcX11 dX11_undo_46 q137 (by decide) rfl (fun v7 => ?_)
      refine x_aload_n (pc := 49) dX11_undo_49 (i := 0) rfl rfl ?_
      refine x_gI (pc := 50) (k := 2) fcX11 dX11_undo_50 q215 (by decide) rfl (fun v8 => ?_)
      refine x_sipush (pc := 53) (v := 130) dX11_undo_53 (by decide) ?_
      refine x_imul (pc := 56) dX11_undo_56 ?_
      refine x_iload_n (pc := 57) dX11_undo_57 (i := 1) rfl rfl ?_
      refine x_iadd (pc := 58) dX11_undo_58 ?_
      refine x_ldI (pc := 59) dX11_undo_59 (fun v9 => ?_)
      refine x_stI (pc := 60) dX11_undo_60 (fun m10 => ?_)
      refine x_iinc (pc := 61) (v := x1 + (1 : Int32)) dX11_undo_61 rfl (by rw [show Int32.ofInt (1) = (1 : Int32) from by decide]) (by decide) (l' := [some (.ref x0), some (.int (x1 + (1 : Int32)))]) rfl ?_
      refine x_goto (pc := 64) (tgt := 33) dX11_undo_64 (by decide) ?_
      exact ih m10 x0 (x1 + (1 : Int32)) 
set_option maxHeartbeats 4000000 in
theorem xX11_undo_13 {n0 c0 s0 cx cy : Nat} {S : mSh} (μ : mMm) (x0 : Nat) (t0 : Int32) (t1 : Nat) (d1 : Option Value) : mX MX11_undo n0 c0 s0 13 [some (.ref x0), d1] [.int t0, .ref t1] (S, μ, cx, cy) (iMI S cx cy) (lX11_undo_13 S μ x0 t0 t1) := by
  unfold lX11_undo_13
  refine x_callVi (pc := 13) (As := [.int t0]) (rest := []) (vx := fun a => a.1) (μf := fun a => a.2) fcX11 (mX11_asks S μ cx cy t1 t0) (fun _ => rfl) rfl (fun _ h => ifok h) dX11_undo_13 q202 kX11_asks rfl ⟨by decide, by decide⟩ rfl (Nat.le_of_ble_eq_true rfl) (fun r2 => ?_)
  refine x_if_ne (pc := 16) (tgt := 21) dX11_undo_16 (by decide) ?_ ?_
  · refine x_iconst (pc := 19) (v := 0) dX11_undo_19 (by decide) ?_
    exact x_iret rfl dX11_undo_20 rfl rfl
  · refine x_aload_n (pc := 21) dX11_undo_21 (i := 0) rfl rfl ?_
    refine x_dup (pc := 22) dX11_undo_22 rfl ?_
    refine x_gI (pc := 23) (k := 2) fcX11 dX11_undo_23 q215 (by decide) rfl (fun v3 => ?_)
    refine x_iconst (pc := 26) (v := 1) dX11_undo_26 (by decide) ?_
    refine x_isub (pc := 27) dX11_undo_27 ?_
    refine x_pI (pc := 28) (k := 2) fcX11 dX11_undo_28 q215 (by decide) rfl rfl rfl rfl (fun m4 => ?_)
    refine x_iconst (pc := 31) (v := 0) dX11_undo_31 (by decide) ?_
    refine x_istore_n (pc := 32) dX11_undo_32 (i := 1) rfl (by decide) (l' := [some (.ref x0), some (.int (0 : Int32))]) rfl ?_
    exact xX11_undo_33 FU m4 x0 (0 : Int32) 
set_option maxHeartbeats 4000000 in
theorem xbX11_undo {n0 c0 s0 cx cy : Nat} {S : mSh} {μ : mMm} (o : Nat) : mX MX11_undo n0 c0 s0 0 [some (.ref o), none] [] (S, μ, cx, cy) (iMI S cx cy) (bX11_undo S μ o) := by
  unfold bX11_undo
  refine x_aload_n (pc := 0) dX11_undo_0 (i := 0) rfl rfl ?_
  refine x_aload_n (pc := 1) dX11_undo_1 (i := 0) rfl rfl ?_
  refine x_gI (pc := 2) (k := 2) fcX11 dX11_undo_2 q215 (by decide) rfl (fun v1 => ?_)
  refine x_if_le (pc := 5) (tgt := 12) dX11_undo_5 (by decide) ?_ ?_
  · refine x_iconst (pc := 12) (v := 0) dX11_undo_12 (by decide) ?_
    exact xX11_undo_13 μ o (0 : Int32) o _
  · refine x_iconst (pc := 8) (v := 1) dX11_undo_8 (by decide) ?_
    refine x_goto (pc := 9) (tgt := 13) dX11_undo_9 (by decide) ?_
    exact xX11_undo_13 μ o (1 : Int32) o _
theorem mX11_undo (S : mSh) (μ : mMm) (cx cy : Nat) (o : Nat) : mMet MX11_undo [.ref o] (S, μ, cx, cy) (iMI S cx cy) (fX11_undo S μ o) := mMet.of rfl (by decide) rfl (fun h => by cases h) (Nat.le_of_ble_eq_true rfl) (mX.ck (fun _ => xbX11_undo o))
/-! SlideMillsModel.keep()I -/
def lX11_keep_7 (S : mSh) : Nat → mMm → Nat → Int32 → Option (Int32 × mMm)
  | 0, _, _, _ => none
  | n + 1, μ, x0, x1 => if (130 : Int32) ≤ x1 then ((gR S x0 11 0).bind fun v2 => (ldI S μ v2 (0 : Int32)).bind fun v3 => (fX11_says S μ x0 v3).bind fun r4 => some (r4.1, r4.2)) else ((gR S x0 11 3).bind fun v5 => (gR S x0 11 0).bind fun v6 => (ldI S μ v6 x1).bind fun v7 => (stI S μ v5 x1 v7).bind fun m8 => lX11_keep_7 S n m8 x0 (x1 + (1 : Int32)))
def bX11_keep (S : mSh) (μ : mMm) (o : Nat) : Option (Int32 × mMm) := (pI S μ o 11 4 (1 : Int32)).bind fun m1 => lX11_keep_7 S FU m1 o (0 : Int32)
def fX11_keep (S : mSh) (μ : mMm) (o : Nat) : Option (Int32 × mMm) := if mok S o 11 = true then bX11_keep S μ o else none
abbrev MX11_keep : mM := ((yX11_keep, cX11_keep, 2, (some .int)), (1, 21), (false, false), RX11, eT)
theorem kX11_keep : mCalV MX11_keep RX11 0 := ⟨q758, q759, q5, q760, by decide +kernel⟩
set_option maxHeartbeats 4000000 in
theorem xX11_keep_7 {n0 c0 s0 cx cy : Nat} {S : mSh} : ∀ (n : Nat) (μ : mMm) (x0 : Nat) (x1 : Int32), mX MX11_keep n0 c0 s0 7 [some (.ref x0), some (.int x1)] [] (S, μ, cx, cy) (iMI S cx cy) (lX11_keep_7 S n μ x0 x1) := by
  intro n
  induction n with
  | zero => intros; exact x_none
  | succ n ih =>
    intro μ x0 x1
    unfold lX11_keep_7
    refine x_iload_n (pc := 7) dX11_keep_7 (i := 1) rfl rfl ?_
    refine x_sipush (pc := 8) (v := 130) dX11_keep_8 (by decide) ?_
    refine x_icmp_ge (pc := 11) (tgt := 32) dX11_keep_11 (by decide) ?_ ?_
    · refine x_aload_n (pc := 32) dX11_keep_32 (i := 0) rfl rfl ?_
      refine x_aload_n (pc := 33) dX11_keep_33 (i := 0) rfl rfl ?_
      refine x_gR (pc := 34) (k := 0) fcX11 dX11_keep_34 q136 (by decide) rfl (fun v2 => ?_)
      refine x_iconst (pc := 37) (v := 0) dX11_keep_37 (by decide) ?_
      refine x_ldI (pc := 38) dX11_keep_38 (fun v3 => ?_)
      refine x_callVi (pc := 39) (As := [.int v3]) (rest := []) (vx := fun a => a.1) (μf := fun a => a.2) fcX11 (mX11_says S μ cx cy x0 v3) (fun _ => rfl) rfl (fun _ h => ifok h) dX11_keep_39 q266 kX11_says rfl ⟨by decide, by decide⟩ rfl (Nat.le_of_ble_eq_true rfl) (fun r4 => ?_)
      exact x_iret rfl dX11_keep_42 rfl rfl
    · refine x_aload_n (pc := 14) dX11_keep_14 (i := 0) rfl rfl ?_
      refine x_gR (pc := 15) (k := 3) fcX11 dX11_keep_15 q138 (by decide) rfl (fun v5 => ?_)
      refine x_iload_n (pc := 18) dX11_keep_18 (i := 1) rfl rfl ?_
      refine x_aload_n (pc := 19) dX11_keep_19 (i := 0) rfl rfl ?_
      refine x_gR (pc := 20) (k := 0) fcX11 dX11_keep_20 q136 (by decide) rfl (fun v6 => ?_)
      refine x_iload_n (pc := 23) dX11_keep_23 (i := 1) rfl rfl ?_
      refine x_ldI (pc := 24) dX11_keep_24 (fun v7 => ?_)
      refine x_stI (pc := 25) dX11_keep_25 (fun m8 => ?_)
      refine x_iinc (pc := 26) (v := x1 + (1 : Int32)) dX11_keep_26 rfl (by rw [show Int32.ofInt (1) = (1 : Int32) from by decide]) (by decide) (l' := [some (.ref x0), some (.int (x1 + (1 : Int32)))]) rfl ?_
      refine x_goto (pc := 29) (tgt := 7) dX11_keep_29 (by decide) ?_
      exact ih m8 x0 (x1 + (1 : Int32)) 
set_option maxHeartbeats 4000000 in
theorem xbX11_keep {n0 c0 s0 cx cy : Nat} {S : mSh} {μ : mMm} (o : Nat) : mX MX11_keep n0 c0 s0 0 [some (.ref o), none] [] (S, μ, cx, cy) (iMI S cx cy) (bX11_keep S μ o) := by
  unfold bX11_keep
  refine x_aload_n (pc := 0) dX11_keep_0 (i := 0) rfl rfl ?_
  refine x_iconst (pc := 1) (v := 1) dX11_keep_1 (by decide) ?_
  refine x_pI (pc := 2) (k := 4) fcX11 dX11_keep_2 q761 (by decide) rfl rfl rfl rfl (fun m1 => ?_)
  refine x_iconst (pc := 5) (v := 0) dX11_keep_5 (by decide) ?_
  refine x_istore_n (pc := 6) dX11_keep_6 (i := 1) rfl (by decide) (l' := [some (.ref o), some (.int (0 : Int32))]) rfl ?_
  exact xX11_keep_7 FU m1 o (0 : Int32) 
theorem mX11_keep (S : mSh) (μ : mMm) (cx cy : Nat) (o : Nat) : mMet MX11_keep [.ref o] (S, μ, cx, cy) (iMI S cx cy) (fX11_keep S μ o) := mMet.of rfl (by decide) rfl (fun h => by cases h) (Nat.le_of_ble_eq_true rfl) (mX.ck (fun _ => xbX11_keep o))
/-! SlideMillsModel.restore()I -/
def lX11_restore_19 (S : mSh) : Nat → mMm → Nat → Int32 → Option (Int32 × mMm)
  | 0, _, _, _ => none
  | n + 1, μ, x0, x1 => if (130 : Int32) ≤ x1 then ((gR S x0 11 0).bind fun v4 => (ldI S μ v4 (0 : Int32)).bind fun v5 => some (v5, μ)) else ((gR S x0 11 0).bind fun v6 => (gR S x0 11 3).bind fun v7 => (ldI S μ v7 x1).bind fun v8 => (stI S μ v6 x1 v8).bind fun m9 => lX11_restore_19 S n m9 x0 (x1 + (1 : Int32)))
def bX11_restore (S : mSh) (μ : mMm) (o : Nat) : Option (Int32 × mMm) := (gI S μ o 11 4).bind fun v1 => (fX11_asks S μ o v1).bind fun r2 => if r2.1 = 0 then (some ((0 : Int32), r2.2)) else ((fX11_record S r2.2 o).bind fun m3 => lX11_restore_19 S FU m3 o (0 : Int32))
def fX11_restore (S : mSh) (μ : mMm) (o : Nat) : Option (Int32 × mMm) := if mok S o 11 = true then bX11_restore S μ o else none
abbrev MX11_restore : mM := ((yX11_restore, cX11_restore, 2, (some .int)), (1, 21), (false, false), RX11, eT)
theorem kX11_restore : mCalV MX11_restore RX11 0 := ⟨q770, q771, q5, q772, by decide +kernel⟩
set_option maxHeartbeats 4000000 in
theorem xX11_restore_19 {n0 c0 s0 cx cy : Nat} {S : mSh} : ∀ (n : Nat) (μ : mMm) (x0 : Nat) (x1 : Int32), mX MX11_restore n0 c0 s0 19 [some (.ref x0), some (.int x1)] [] (S, μ, cx, cy) (iMI S cx cy) (lX11_restore_19 S n μ x0 x1) := by
  intro n
  induction n with
  | zero => intros; exact x_none
  | succ n ih =>
    intro μ x0 x1
    unfold lX11_restore_19
    refine x_iload_n (pc := 19) dX11_restore_19 (i := 1) rfl rfl ?_
    refine x_sipush (pc := 20) (v := 130) dX11_restore_20 (by decide) ?_
    refine x_icmp_ge (pc := 23) (tgt := 44) dX11_restore_23 (by decide) ?_ ?_
    · refine x_aload_n (pc := 44) dX11_restore_44 (i := 0) rfl rfl ?_
      refine x_gR (pc := 45) (k := 0) fcX11 dX11_restore_45 q136 (by decide) rfl (fun v4 => ?_)
      refine x_iconst (pc := 48) (v := 0) dX11_restore_48 (by decide) ?_
      refine x_ldI (pc := 49) dX11_restore_49 (fun v5 => ?_)
      exact x_iret rfl dX11_restore_50 rfl rfl
    · refine x_aload_n (pc := 26) dX11_restore_26 (i := 0) rfl rfl ?_
      refine x_gR (pc := 27) (k := 0) fcX11 dX11_restore_27 q136 (by decide) rfl (fun v6 => ?_)
      refine x_iload_n (pc := 30) dX11_restore_30 (i := 1) rfl rfl ?_
      refine x_aload_n (pc := 31) dX11_restore_31 (i := 0) rfl rfl ?_
      refine x_gR (pc := 32) (k := 3) fcX11 dX11_restore_32 q138 (by decide) rfl (fun v7 => ?_)
      refine x_iload_n (pc := 35) dX11_restore_35 (i := 1) rfl rfl ?_
      refine x_ldI (pc := 36) dX11_restore_36 (fun v8 => ?_)
      refine x_stI (pc := 37) dX11_restore_37 (fun m9 => ?_)
      refine x_iinc (pc := 38) (v := x1 + (1 : Int32)) dX11_restore_38 rfl (by rw [show Int32.ofInt (1) = (1 : Int32) from by decide]) (by decide) (l' := [some (.ref x0), some (.int (x1 + (1 : Int32)))]) rfl ?_
      refine x_goto (pc := 41) (tgt := 19) dX11_restore_41 (by decide) ?_
      exact ih m9 x0 (x1 + (1 : Int32)) 
set_option maxHeartbeats 4000000 in
theorem xbX11_restore {n0 c0 s0 cx cy : Nat} {S : mSh} {μ : mMm} (o : Nat) : mX MX11_restore n0 c0 s0 0 [some (.ref o), none] [] (S, μ, cx, cy) (iMI S cx cy) (bX11_restore S μ o) := by
  unfold bX11_restore
  refine x_aload_n (pc := 0) dX11_restore_0 (i := 0) rfl rfl ?_
  refine x_aload_n (pc := 1) dX11_restore_1 (i := 0) rfl rfl ?_
  refine x_gI (pc := 2) (k := 4) fcX11 dX11_restore_2 q761 (by decide) rfl (fun v1 => ?_)
  refine x_callVi (pc := 5) (As := [.int v1]) (rest := []) (vx := fun a => a.1) (μf := fun a => a.2) fcX11 (mX11_asks S μ cx cy o v1) (fun _ => rfl) rfl (fun _ h => ifok h) dX11_restore_5 q202 kX11_asks rfl ⟨by decide, by decide⟩ rfl (Nat.le_of_ble_eq_true rfl) (fun r2 => ?_)
  refine x_if_ne (pc := 8) (tgt := 13) dX11_restore_8 (by decide) ?_ ?_
  · refine x_iconst (pc := 11) (v := 0) dX11_restore_11 (by decide) ?_
    exact x_iret rfl dX11_restore_12 rfl rfl
  · refine x_aload_n (pc := 13) dX11_restore_13 (i := 0) rfl rfl ?_
    refine x_callVv (pc := 14) (As := []) (rest := []) (μf := fun a => a) fcX11 (mX11_record S r2.2 cx cy o) (fun _ => rfl) rfl (fun _ h => ifok h) dX11_restore_14 q211 kX11_record rfl ⟨by decide, by decide⟩ rfl (Nat.le_of_ble_eq_true rfl) (fun m3 => ?_)
    refine x_iconst (pc := 17) (v := 0) dX11_restore_17 (by decide) ?_
    refine x_istore_n (pc := 18) dX11_restore_18 (i := 1) rfl (by decide) (l' := [some (.ref o), some (.int (0 : Int32))]) rfl ?_
    exact xX11_restore_19 FU m3 o (0 : Int32) 
theorem mX11_restore (S : mSh) (μ : mMm) (cx cy : Nat) (o : Nat) : mMet MX11_restore [.ref o] (S, μ, cx, cy) (iMI S cx cy) (fX11_restore S μ o) := mMet.of rfl (by decide) rfl (fun h => by cases h) (Nat.le_of_ble_eq_true rfl) (mX.ck (fun _ => xbX11_restore o))
/-! SlideMillsModel.savedStates()I -/
def bX11_savedStates (S : mSh) (μ : mMm) (o : Nat) : Option (Int32 × mMm) := (gI S μ o 11 2).bind fun v1 => (fX11_says S μ o v1).bind fun r2 => some (r2.1, r2.2)
def fX11_savedStates (S : mSh) (μ : mMm) (o : Nat) : Option (Int32 × mMm) := if mok S o 11 = true then bX11_savedStates S μ o else none
abbrev MX11_savedStates : mM := ((yX11_savedStates, cX11_savedStates, 1, (some .int)), (1, 21), (false, false), RX11, eT)
theorem kX11_savedStates : mCalV MX11_savedStates RX11 0 := ⟨q778, q779, q5, q780, by decide +kernel⟩
set_option maxHeartbeats 4000000 in
theorem xbX11_savedStates {n0 c0 s0 cx cy : Nat} {S : mSh} {μ : mMm} (o : Nat) : mX MX11_savedStates n0 c0 s0 0 [some (.ref o)] [] (S, μ, cx, cy) (iMI S cx cy) (bX11_savedStates S μ o) := by
  unfold bX11_savedStates
  refine x_aload_n (pc := 0) dX11_savedStates_0 (i := 0) rfl rfl ?_
  refine x_aload_n (pc := 1) dX11_savedStates_1 (i := 0) rfl rfl ?_
  refine x_gI (pc := 2) (k := 2) fcX11 dX11_savedStates_2 q215 (by decide) rfl (fun v1 => ?_)
  refine x_callVi (pc := 5) (As := [.int v1]) (rest := []) (vx := fun a => a.1) (μf := fun a => a.2) fcX11 (mX11_says S μ cx cy o v1) (fun _ => rfl) rfl (fun _ h => ifok h) dX11_savedStates_5 q266 kX11_says rfl ⟨by decide, by decide⟩ rfl (Nat.le_of_ble_eq_true rfl) (fun r2 => ?_)
  exact x_iret rfl dX11_savedStates_8 rfl rfl
theorem mX11_savedStates (S : mSh) (μ : mMm) (cx cy : Nat) (o : Nat) : mMet MX11_savedStates [.ref o] (S, μ, cx, cy) (iMI S cx cy) (fX11_savedStates S μ o) := mMet.of rfl (by decide) rfl (fun h => by cases h) (Nat.le_of_ble_eq_true rfl) (mX.ck (fun _ => xbX11_savedStates o))
/-! SlideMillsModel.isPlace(I)Z -/
def bX11_isPlace (S : mSh) (μ : mMm) (o : Nat) (p0 : Int32) : Option (Int32) := (gR S o 11 0).bind fun v1 => (ldI S μ v1 (0 : Int32)).bind fun v2 => (fX11_in p0 (0 : Int32) (v2 - (1 : Int32))).bind fun v3 => if (v3 = 0 ∨ v3 = 1) then some v3 else none
def fX11_isPlace (S : mSh) (μ : mMm) (o : Nat) (p0 : Int32) : Option (Int32) := if mok S o 11 = true then bX11_isPlace S μ o p0 else none
abbrev MX11_isPlace : mM := ((yX11_isPlace, cX11_isPlace, 2, (some .boolean)), (1, 22), (false, false), RX11, eT)
theorem kX11_isPlace : mCalV MX11_isPlace RX11 1 := ⟨q247, q248, q5, q249, by decide +kernel⟩
set_option maxHeartbeats 4000000 in
theorem xbX11_isPlace {n0 c0 s0 cx cy : Nat} {S : mSh} {μ : mMm} (o : Nat) (p0 : Int32) : mX MX11_isPlace n0 c0 s0 0 [some (.ref o), some (.int p0)] [] (S, μ, cx, cy) (iPI S μ cx cy) (bX11_isPlace S μ o p0) := by
  unfold bX11_isPlace
  refine x_iload_n (pc := 0) dX11_isPlace_0 (i := 1) rfl rfl ?_
  refine x_iconst (pc := 1) (v := 0) dX11_isPlace_1 (by decide) ?_
  refine x_aload_n (pc := 2) dX11_isPlace_2 (i := 0) rfl rfl ?_
  refine x_gR (pc := 3) (k := 0) fcX11 dX11_isPlace_3 q136 (by decide) rfl (fun v1 => ?_)
  refine x_iconst (pc := 6) (v := 0) dX11_isPlace_6 (by decide) ?_
  refine x_ldI (pc := 7) dX11_isPlace_7 (fun v2 => ?_)
  refine x_iconst (pc := 8) (v := 1) dX11_isPlace_8 (by decide) ?_
  refine x_isub (pc := 9) dX11_isPlace_9 ?_
  refine x_callSi (pc := 10) (As := [.int p0, .int (0 : Int32), .int (v2 - (1 : Int32))]) (rest := []) (vx := fun a => a) (μf := fun _ => μ) (mX11_in S μ cx cy p0 (0 : Int32) (v2 - (1 : Int32))) (fun _ => rfl) rfl dX11_isPlace_10 q199 kX11_in rfl ⟨by decide, by decide⟩ rfl (Nat.le_of_ble_eq_true rfl) (fun v3 => ?_)
  exact mX.ck (fun hp => x_iret rfl dX11_isPlace_13 rfl (mNarZ hp))
theorem mX11_isPlace (S : mSh) (μ : mMm) (cx cy : Nat) (o : Nat) (p0 : Int32) : mMet MX11_isPlace [.ref o, .int p0] (S, μ, cx, cy) (iPI S μ cx cy) (fX11_isPlace S μ o p0) := mMet.of rfl (by decide) rfl (fun h => by cases h) (Nat.le_of_ble_eq_true rfl) (mX.ck (fun _ => xbX11_isPlace o p0))
/-! SlideMillsModel.addLetter(I)I -/
def lX11_addLetter_28 (S : mSh) (μ : mMm) (x0 : Nat) (x1 : Int32) (t0 : Int32) (t1 : Nat) : Option (Int32 × mMm) := (fX11_asksThen S μ t1 t0 (2 : Int32)).bind fun r5 => if r5.1 = 0 then (some ((0 : Int32), r5.2)) else ((fX11_record S r5.2 x0).bind fun m6 => (gR S x0 11 0).bind fun v7 => (gR S x0 11 0).bind fun v8 => (ldI S m6 v8 (0 : Int32)).bind fun v9 => (stI S m6 v7 ((10 : Int32) + v9) x1).bind fun m10 => (gR S x0 11 0).bind fun v11 => (ldI S m10 v11 (0 : Int32)).bind fun v12 => (stI S m10 v11 (0 : Int32) (v12 + (1 : Int32))).bind fun m13 => (gR S x0 11 0).bind fun v14 => (ldI S m13 v14 (0 : Int32)).bind fun v15 => some (v15, m13))
def bX11_addLetter (S : mSh) (μ : mMm) (o : Nat) (p0 : Int32) : Option (Int32 × mMm) := (fX11_in p0 (0 : Int32) (3 : Int32)).bind fun v1 => (fX11_asks S μ o v1).bind fun r2 => (gR S o 11 0).bind fun v3 => (ldI S r2.2 v3 (0 : Int32)).bind fun v4 => if (40 : Int32) ≤ v4 then (lX11_addLetter_28 S r2.2 o p0 (0 : Int32) o) else (lX11_addLetter_28 S r2.2 o p0 (1 : Int32) o)
def fX11_addLetter (S : mSh) (μ : mMm) (o : Nat) (p0 : Int32) : Option (Int32 × mMm) := if mok S o 11 = true then bX11_addLetter S μ o p0 else none
abbrev MX11_addLetter : mM := ((yX11_addLetter, cX11_addLetter, 2, (some .int)), (1, 22), (false, false), RX11, eT)
theorem kX11_addLetter : mCalV MX11_addLetter RX11 1 := ⟨q196, q197, q5, q198, by decide +kernel⟩
set_option maxHeartbeats 4000000 in
theorem xX11_addLetter_28 {n0 c0 s0 cx cy : Nat} {S : mSh} (μ : mMm) (x0 : Nat) (x1 : Int32) (t0 : Int32) (t1 : Nat) : mX MX11_addLetter n0 c0 s0 28 [some (.ref x0), some (.int x1)] [.int t0, .ref t1] (S, μ, cx, cy) (iMI S cx cy) (lX11_addLetter_28 S μ x0 x1 t0 t1) := by
  unfold lX11_addLetter_28
  refine x_iconst (pc := 28) (v := 2) dX11_addLetter_28 (by decide) ?_
  refine x_callVi (pc := 29) (As := [.int t0, .int (2 : Int32)]) (rest := []) (vx := fun a => a.1) (μf := fun a => a.2) fcX11 (mX11_asksThen S μ cx cy t1 t0 (2 : Int32)) (fun _ => rfl) rfl (fun _ h => ifok h) dX11_addLetter_29 q207 kX11_asksThen rfl ⟨by decide, by decide⟩ rfl (Nat.le_of_ble_eq_true rfl) (fun r5 => ?_)
  refine x_if_ne (pc := 32) (tgt := 37) dX11_addLetter_32 (by decide) ?_ ?_
  · refine x_iconst (pc := 35) (v := 0) dX11_addLetter_35 (by decide) ?_
    exact x_iret rfl dX11_addLetter_36 rfl rfl
  · refine x_aload_n (pc := 37) dX11_addLetter_37 (i := 0) rfl rfl ?_
    refine x_callVv (pc := 38) (As := []) (rest := []) (μf := fun a => a) fcX11 (mX11_record S r5.2 cx cy x0) (fun _ => rfl) rfl (fun _ h => ifok h) dX11_addLetter_38 q211 kX11_record rfl ⟨by decide, by decide⟩ rfl (Nat.le_of_ble_eq_true rfl) (fun m6 => ?_)
    refine x_aload_n (pc := 41) dX11_addLetter_41 (i := 0) rfl rfl ?_
    refine x_gR (pc := 42) (k := 0) fcX11 dX11_addLetter_42 q136 (by decide) rfl (fun v7 => ?_)
    refine x_bipush (pc := 45) (v := 10) dX11_addLetter_45 (by decide) ?_
    refine x_aload_n (pc := 47) dX11_addLetter_47 (i := 0) rfl rfl ?_
    refine x_gR (pc := 48) (k := 0) fcX11 dX11_addLetter_48 q136 (by decide) rfl (fun v8 => ?_)
    refine x_iconst (pc := 51) (v := 0) dX11_addLetter_51 (by decide) ?_
    refine x_ldI (pc := 52) dX11_addLetter_52 (fun v9 => ?_)
    refine x_iadd (pc := 53) dX11_addLetter_53 ?_
    refine x_iload_n (pc := 54) dX11_addLetter_54 (i := 1) rfl rfl ?_
    refine x_stI (pc := 55) dX11_addLetter_55 (fun m10 => ?_)
    refine x_aload_n (pc := 56) dX11_addLetter_56 (i := 0) rfl rfl ?_
    refine x_gR (pc := 57) (k := 0) fcX11 dX11_addLetter_57 q136 (by decide) rfl (fun v11 => ?_)
    refine x_iconst (pc := 60) (v := 0) dX11_addLetter_60 (by decide) ?_
    refine x_dup2 (pc := 61) dX11_addLetter_61 rfl rfl ?_
    refine x_ldI (pc := 62) dX11_addLetter_62 (fun v12 => ?_)
    refine x_iconst (pc := 63) (v := 1) dX11_addLetter_63 (by decide) ?_
    refine x_iadd (pc := 64) dX11_addLetter_64 ?_
    refine x_stI (pc := 65) dX11_addLetter_65 (fun m13 => ?_)
    refine x_aload_n (pc := 66) dX11_addLetter_66 (i := 0) rfl rfl ?_
    refine x_gR (pc := 67) (k := 0) fcX11 dX11_addLetter_67 q136 (by decide) rfl (fun v14 => ?_)
    refine x_iconst (pc := 70) (v := 0) dX11_addLetter_70 (by decide) ?_
    refine x_ldI (pc := 71) dX11_addLetter_71 (fun v15 => ?_)
    exact x_iret rfl dX11_addLetter_72 rfl rfl
set_option maxHeartbeats 4000000 in
theorem xbX11_addLetter {n0 c0 s0 cx cy : Nat} {S : mSh} {μ : mMm} (o : Nat) (p0 : Int32) : mX MX11_addLetter n0 c0 s0 0 [some (.ref o), some (.int p0)] [] (S, μ, cx, cy) (iMI S cx cy) (bX11_addLetter S μ o p0) := by
  unfold bX11_addLetter
  refine x_aload_n (pc := 0) dX11_addLetter_0 (i := 0) rfl rfl ?_
  refine x_iload_n (pc := 1) dX11_addLetter_1 (i := 1) rfl rfl ?_
  refine x_iconst (pc := 2) (v := 0) dX11_addLetter_2 (by decide) ?_
  refine x_iconst (pc := 3) (v := 3) dX11_addLetter_3 (by decide) ?_
  refine x_callSi (pc := 4) (As := [.int p0, .int (0 : Int32), .int (3 : Int32)]) (rest := [.ref o]) (vx := fun a => a) (μf := fun _ => μ) (mX11_in S μ cx cy p0 (0 : Int32) (3 : Int32)) (fun _ => rfl) rfl dX11_addLetter_4 q199 kX11_in rfl ⟨by decide, by decide⟩ rfl (Nat.le_of_ble_eq_true rfl) (fun v1 => ?_)
  refine x_callVi (pc := 7) (As := [.int v1]) (rest := []) (vx := fun a => a.1) (μf := fun a => a.2) fcX11 (mX11_asks S μ cx cy o v1) (fun _ => rfl) rfl (fun _ h => ifok h) dX11_addLetter_7 q202 kX11_asks rfl ⟨by decide, by decide⟩ rfl (Nat.le_of_ble_eq_true rfl) (fun r2 => ?_)
  refine x_pop (pc := 10) dX11_addLetter_10 rfl ?_
  refine x_aload_n (pc := 11) dX11_addLetter_11 (i := 0) rfl rfl ?_
  refine x_aload_n (pc := 12) dX11_addLetter_12 (i := 0) rfl rfl ?_
  refine x_gR (pc := 13) (k := 0) fcX11 dX11_addLetter_13 q136 (by decide) rfl (fun v3 => ?_)
  refine x_iconst (pc := 16) (v := 0) dX11_addLetter_16 (by decide) ?_
  refine x_ldI (pc := 17) dX11_addLetter_17 (fun v4 => ?_)
  refine x_bipush (pc := 18) (v := 40) dX11_addLetter_18 (by decide) ?_
  refine x_icmp_ge (pc := 20) (tgt := 27) dX11_addLetter_20 (by decide) ?_ ?_
  · refine x_iconst (pc := 27) (v := 0) dX11_addLetter_27 (by decide) ?_
    exact xX11_addLetter_28 r2.2 o p0 (0 : Int32) o 
  · refine x_iconst (pc := 23) (v := 1) dX11_addLetter_23 (by decide) ?_
    refine x_goto (pc := 24) (tgt := 28) dX11_addLetter_24 (by decide) ?_
    exact xX11_addLetter_28 r2.2 o p0 (1 : Int32) o 
theorem mX11_addLetter (S : mSh) (μ : mMm) (cx cy : Nat) (o : Nat) (p0 : Int32) : mMet MX11_addLetter [.ref o, .int p0] (S, μ, cx, cy) (iMI S cx cy) (fX11_addLetter S μ o p0) := mMet.of rfl (by decide) rfl (fun h => by cases h) (Nat.le_of_ble_eq_true rfl) (mX.ck (fun _ => xbX11_addLetter o p0))
/-! SlideMillsModel.setLetter(II)I -/
def bX11_setLetter (S : mSh) (μ : mMm) (o : Nat) (p0 : Int32) (p1 : Int32) : Option (Int32 × mMm) := (fX11_isPlace S μ o p0).bind fun v1 => (fX11_asks S μ o v1).bind fun r2 => (fX11_in p1 (0 : Int32) (3 : Int32)).bind fun v3 => (fX11_asksThen S r2.2 o v3 (2 : Int32)).bind fun r4 => if r4.1 = 0 then (some ((0 : Int32), r4.2)) else ((fX11_record S r4.2 o).bind fun m5 => (gR S o 11 0).bind fun v6 => (ldI S m5 v6 ((10 : Int32) + p0)).bind fun v7 => (gR S o 11 0).bind fun v8 => (stI S m5 v8 ((10 : Int32) + p0) p1).bind fun m9 => some (v7, m9))
def fX11_setLetter (S : mSh) (μ : mMm) (o : Nat) (p0 : Int32) (p1 : Int32) : Option (Int32 × mMm) := if mok S o 11 = true then bX11_setLetter S μ o p0 p1 else none
abbrev MX11_setLetter : mM := ((yX11_setLetter, cX11_setLetter, 4, (some .int)), (2, 43), (false, false), RX11, eT)
theorem kX11_setLetter : mCalV MX11_setLetter RX11 2 := ⟨q243, q244, q5, q245, by decide +kernel⟩
set_option maxHeartbeats 4000000 in
theorem xbX11_setLetter {n0 c0 s0 cx cy : Nat} {S : mSh} {μ : mMm} (o : Nat) (p0 : Int32) (p1 : Int32) : mX MX11_setLetter n0 c0 s0 0 [some (.ref o), some (.int p0), some (.int p1), none] [] (S, μ, cx, cy) (iMI S cx cy) (bX11_setLetter S μ o p0 p1) := by
  unfold bX11_setLetter
  refine x_aload_n (pc := 0) dX11_setLetter_0 (i := 0) rfl rfl ?_
  refine x_aload_n (pc := 1) dX11_setLetter_1 (i := 0) rfl rfl ?_
  refine x_iload_n (pc := 2) dX11_setLetter_2 (i := 1) rfl rfl ?_
  refine x_callVi (pc := 3) (As := [.int p0]) (rest := [.ref o]) (vx := fun a => a) (μf := fun _ => μ) fcX11 (mX11_isPlace S μ cx cy o p0) (fun _ => rfl) rfl (fun _ h => ifok h) dX11_setLetter_3 q246 kX11_isPlace rfl ⟨by decide, by decide⟩ rfl (Nat.le_of_ble_eq_true rfl) (fun v1 => ?_)
  refine x_callVi (pc := 6) (As := [.int v1]) (rest := []) (vx := fun a => a.1) (μf := fun a => a.2) fcX11 (mX11_asks S μ cx cy o v1) (fun _ => rfl) rfl (fun _ h => ifok h) dX11_setLetter_6 q202 kX11_asks rfl ⟨by decide, by decide⟩ rfl (Nat.le_of_ble_eq_true rfl) (fun r2 => ?_)
  refine x_pop (pc := 9) dX11_setLetter_9 rfl ?_
  refine x_aload_n (pc := 10) dX11_setLetter_10 (i := 0) rfl rfl ?_
  refine x_iload_n (pc := 11) dX11_setLetter_11 (i := 2) rfl rfl ?_
  refine x_iconst (pc := 12) (v := 0) dX11_setLetter_12 (by decide) ?_
  refine x_iconst (pc := 13) (v := 3) dX11_setLetter_13 (by decide) ?_
  refine x_callSi (pc := 14) (As := [.int p1, .int (0 : Int32), .int (3 : Int32)]) (rest := [.ref o]) (vx := fun a => a) (μf := fun _ => r2.2) (mX11_in S r2.2 cx cy p1 (0 : Int32) (3 : Int32)) (fun _ => rfl) rfl dX11_setLetter_14 q199 kX11_in rfl ⟨by decide, by decide⟩ rfl (Nat.le_of_ble_eq_true rfl) (fun v3 => ?_)
  refine x_iconst (pc := 17) (v := 2) dX11_setLetter_17 (by decide) ?_
  refine x_callVi (pc := 18) (As := [.int v3, .int (2 : Int32)]) (rest := []) (vx := fun a => a.1) (μf := fun a => a.2) fcX11 (mX11_asksThen S r2.2 cx cy o v3 (2 : Int32)) (fun _ => rfl) rfl (fun _ h => ifok h) dX11_setLetter_18 q207 kX11_asksThen rfl ⟨by decide, by decide⟩ rfl (Nat.le_of_ble_eq_true rfl) (fun r4 => ?_)
  refine x_if_ne (pc := 21) (tgt := 26) dX11_setLetter_21 (by decide) ?_ ?_
  · refine x_iconst (pc := 24) (v := 0) dX11_setLetter_24 (by decide) ?_
    exact x_iret rfl dX11_setLetter_25 rfl rfl
  · refine x_aload_n (pc := 26) dX11_setLetter_26 (i := 0) rfl rfl ?_
    refine x_callVv (pc := 27) (As := []) (rest := []) (μf := fun a => a) fcX11 (mX11_record S r4.2 cx cy o) (fun _ => rfl) rfl (fun _ h => ifok h) dX11_setLetter_27 q211 kX11_record rfl ⟨by decide, by decide⟩ rfl (Nat.le_of_ble_eq_true rfl) (fun m5 => ?_)
    refine x_aload_n (pc := 30) dX11_setLetter_30 (i := 0) rfl rfl ?_
    refine x_gR (pc := 31) (k := 0) fcX11 dX11_setLetter_31 q136 (by decide) rfl (fun v6 => ?_)
    refine x_bipush (pc := 34) (v := 10) dX11_setLetter_34 (by decide) ?_
    refine x_iload_n (pc := 36) dX11_setLetter_36 (i := 1) rfl rfl ?_
    refine x_iadd (pc := 37) dX11_setLetter_37 ?_
    refine x_ldI (pc := 38) dX11_setLetter_38 (fun v7 => ?_)
    refine x_istore_n (pc := 39) dX11_setLetter_39 (i := 3) rfl (by decide) (l' := [some (.ref o), some (.int p0), some (.int p1), some (.int v7)]) rfl ?_
    refine x_aload_n (pc := 40) dX11_setLetter_40 (i := 0) rfl rfl ?_
    refine x_gR (pc := 41) (k := 0) fcX11 dX11_setLetter_41 q136 (by decide) rfl (fun v8 => ?_)
    refine x_bipush (pc := 44) (v := 10) dX11_setLetter_44 (by decide) ?_
    refine x_iload_n (pc := 46) dX11_setLetter_46 (i := 1) rfl rfl ?_
    refine x_iadd (pc := 47) dX11_setLetter_47 ?_
    refine x_iload_n (pc := 48) dX11_setLetter_48 (i := 2) rfl rfl ?_
    refine x_stI (pc := 49) dX11_setLetter_49 (fun m9 => ?_)
    refine x_iload_n (pc := 50) dX11_setLetter_50 (i := 3) rfl rfl ?_
    exact x_iret rfl dX11_setLetter_51 rfl rfl
theorem mX11_setLetter (S : mSh) (μ : mMm) (cx cy : Nat) (o : Nat) (p0 : Int32) (p1 : Int32) : mMet MX11_setLetter [.ref o, .int p0, .int p1] (S, μ, cx, cy) (iMI S cx cy) (fX11_setLetter S μ o p0 p1) := mMet.of rfl (by decide) rfl (fun h => by cases h) (Nat.le_of_ble_eq_true rfl) (mX.ck (fun _ => xbX11_setLetter o p0 p1))
/-! SlideMillsModel.empties(III)I -/
def lX11_empties_18 (S : mSh) : Nat → mMm → Nat → Int32 → Int32 → Int32 → Int32 → Option (Int32 × mMm)
  | 0, _, _, _, _, _, _ => none
  | n + 1, μ, x0, x2, x3, x4, x5 => if (x2 + x3) ≤ x5 then (some (x4, μ)) else ((gR S x0 11 0).bind fun v5 => (stI S μ v5 x5 (0 : Int32)).bind fun m6 => lX11_empties_18 S n m6 x0 x2 x3 x4 (x5 + (1 : Int32)))
def bX11_empties (S : mSh) (μ : mMm) (o : Nat) (p0 : Int32) (p1 : Int32) (p2 : Int32) : Option (Int32 × mMm) := (gR S o 11 0).bind fun v1 => (ldI S μ v1 p0).bind fun v2 => (gR S o 11 0).bind fun v3 => (stI S μ v3 p0 (0 : Int32)).bind fun m4 => lX11_empties_18 S FU m4 o p1 p2 v2 p1
def fX11_empties (S : mSh) (μ : mMm) (o : Nat) (p0 : Int32) (p1 : Int32) (p2 : Int32) : Option (Int32 × mMm) := if mok S o 11 = true then bX11_empties S μ o p0 p1 p2 else none
abbrev MX11_empties : mM := ((yX11_empties, cX11_empties, 6, (some .int)), (0, 0), (false, false), RX11, eT)
theorem kX11_empties : mCalV MX11_empties RX11 3 := ⟨q263, q264, q5, q265, by decide +kernel⟩
set_option maxHeartbeats 4000000 in
theorem xX11_empties_18 {n0 c0 s0 cx cy : Nat} {S : mSh} : ∀ (n : Nat) (μ : mMm) (x0 : Nat) (x2 : Int32) (x3 : Int32) (x4 : Int32) (x5 : Int32) (d1 : Option Value), mX MX11_empties n0 c0 s0 18 [some (.ref x0), d1, some (.int x2), some (.int x3), some (.int x4), some (.int x5)] [] (S, μ, cx, cy) (iMI S cx cy) (lX11_empties_18 S n μ x0 x2 x3 x4 x5) := by
  intro n
  induction n with
  | zero => intros; exact x_none
  | succ n ih =>
    intro μ x0 x2 x3 x4 x5 d1
    unfold lX11_empties_18
    refine x_iload (pc := 18) dX11_empties_18 rfl ?_
    refine x_iload_n (pc := 20) dX11_empties_20 (i := 2) rfl rfl ?_
    refine x_iload_n (pc := 21) dX11_empties_21 (i := 3) rfl rfl ?_
    refine x_iadd (pc := 22) dX11_empties_22 ?_
    refine x_icmp_ge (pc := 23) (tgt := 40) dX11_empties_23 (by decide) ?_ ?_
    · refine x_iload (pc := 40) dX11_empties_40 rfl ?_
      exact x_iret rfl dX11_empties_42 rfl rfl
    · refine x_aload_n (pc := 26) dX11_empties_26 (i := 0) rfl rfl ?_
      refine x_gR (pc := 27) (k := 0) fcX11 dX11_empties_27 q136 (by decide) rfl (fun v5 => ?_)
      refine x_iload (pc := 30) dX11_empties_30 rfl ?_
      refine x_iconst (pc := 32) (v := 0) dX11_empties_32 (by decide) ?_
      refine x_stI (pc := 33) dX11_empties_33 (fun m6 => ?_)
      refine x_iinc (pc := 34) (v := x5 + (1 : Int32)) dX11_empties_34 rfl (by rw [show Int32.ofInt (1) = (1 : Int32) from by decide]) (by decide) (l' := [some (.ref x0), d1, some (.int x2), some (.int x3), some (.int x4), some (.int (x5 + (1 : Int32)))]) rfl ?_
      refine x_goto (pc := 37) (tgt := 18) dX11_empties_37 (by decide) ?_
      exact ih m6 x0 x2 x3 x4 (x5 + (1 : Int32)) _
set_option maxHeartbeats 4000000 in
theorem xbX11_empties {n0 c0 s0 cx cy : Nat} {S : mSh} {μ : mMm} (o : Nat) (p0 : Int32) (p1 : Int32) (p2 : Int32) : mX MX11_empties n0 c0 s0 0 [some (.ref o), some (.int p0), some (.int p1), some (.int p2), none, none] [] (S, μ, cx, cy) (iMI S cx cy) (bX11_empties S μ o p0 p1 p2) := by
  unfold bX11_empties
  refine x_aload_n (pc := 0) dX11_empties_0 (i := 0) rfl rfl ?_
  refine x_gR (pc := 1) (k := 0) fcX11 dX11_empties_1 q136 (by decide) rfl (fun v1 => ?_)
  refine x_iload_n (pc := 4) dX11_empties_4 (i := 1) rfl rfl ?_
  refine x_ldI (pc := 5) dX11_empties_5 (fun v2 => ?_)
  refine x_istore (pc := 6) dX11_empties_6 (by decide) (l' := [some (.ref o), some (.int p0), some (.int p1), some (.int p2), some (.int v2), none]) rfl ?_
  refine x_aload_n (pc := 8) dX11_empties_8 (i := 0) rfl rfl ?_
  refine x_gR (pc := 9) (k := 0) fcX11 dX11_empties_9 q136 (by decide) rfl (fun v3 => ?_)
  refine x_iload_n (pc := 12) dX11_empties_12 (i := 1) rfl rfl ?_
  refine x_iconst (pc := 13) (v := 0) dX11_empties_13 (by decide) ?_
  refine x_stI (pc := 14) dX11_empties_14 (fun m4 => ?_)
  refine x_iload_n (pc := 15) dX11_empties_15 (i := 2) rfl rfl ?_
  refine x_istore (pc := 16) dX11_empties_16 (by decide) (l' := [some (.ref o), some (.int p0), some (.int p1), some (.int p2), some (.int v2), some (.int p1)]) rfl ?_
  exact xX11_empties_18 FU m4 o p1 p2 v2 p1 _
theorem mX11_empties (S : mSh) (μ : mMm) (cx cy : Nat) (o : Nat) (p0 : Int32) (p1 : Int32) (p2 : Int32) : mMet MX11_empties [.ref o, .int p0, .int p1, .int p2] (S, μ, cx, cy) (iMI S cx cy) (fX11_empties S μ o p0 p1 p2) := mMet.of rfl (by decide) rfl (fun h => by cases h) (Nat.le_of_ble_eq_true rfl) (mX.ck (fun _ => xbX11_empties o p0 p1 p2))
/-! SlideMillsModel.emptyText()I -/
def bX11_emptyText (S : mSh) (μ : mMm) (o : Nat) : Option (Int32 × mMm) := (fX11_record S μ o).bind fun m1 => (fX11_empties S m1 o (0 : Int32) (10 : Int32) (40 : Int32)).bind fun r2 => (fX11_says S r2.2 o r2.1).bind fun r3 => some (r3.1, r3.2)
def fX11_emptyText (S : mSh) (μ : mMm) (o : Nat) : Option (Int32 × mMm) := if mok S o 11 = true then bX11_emptyText S μ o else none
abbrev MX11_emptyText : mM := ((yX11_emptyText, cX11_emptyText, 1, (some .int)), (1, 25), (false, false), RX11, eT)
theorem kX11_emptyText : mCalV MX11_emptyText RX11 0 := ⟨q259, q260, q5, q261, by decide +kernel⟩
set_option maxHeartbeats 4000000 in
theorem xbX11_emptyText {n0 c0 s0 cx cy : Nat} {S : mSh} {μ : mMm} (o : Nat) : mX MX11_emptyText n0 c0 s0 0 [some (.ref o)] [] (S, μ, cx, cy) (iMI S cx cy) (bX11_emptyText S μ o) := by
  unfold bX11_emptyText
  refine x_aload_n (pc := 0) dX11_emptyText_0 (i := 0) rfl rfl ?_
  refine x_callVv (pc := 1) (As := []) (rest := []) (μf := fun a => a) fcX11 (mX11_record S μ cx cy o) (fun _ => rfl) rfl (fun _ h => ifok h) dX11_emptyText_1 q211 kX11_record rfl ⟨by decide, by decide⟩ rfl (Nat.le_of_ble_eq_true rfl) (fun m1 => ?_)
  refine x_aload_n (pc := 4) dX11_emptyText_4 (i := 0) rfl rfl ?_
  refine x_aload_n (pc := 5) dX11_emptyText_5 (i := 0) rfl rfl ?_
  refine x_iconst (pc := 6) (v := 0) dX11_emptyText_6 (by decide) ?_
  refine x_bipush (pc := 7) (v := 10) dX11_emptyText_7 (by decide) ?_
  refine x_bipush (pc := 9) (v := 40) dX11_emptyText_9 (by decide) ?_
  refine x_callVi (pc := 11) (As := [.int (0 : Int32), .int (10 : Int32), .int (40 : Int32)]) (rest := [.ref o]) (vx := fun a => a.1) (μf := fun a => a.2) fcX11 (mX11_empties S m1 cx cy o (0 : Int32) (10 : Int32) (40 : Int32)) (fun _ => rfl) rfl (fun _ h => ifok h) dX11_emptyText_11 q262 kX11_empties rfl ⟨by decide, by decide⟩ rfl (Nat.le_of_ble_eq_true rfl) (fun r2 => ?_)
  refine x_callVi (pc := 14) (As := [.int r2.1]) (rest := []) (vx := fun a => a.1) (μf := fun a => a.2) fcX11 (mX11_says S r2.2 cx cy o r2.1) (fun _ => rfl) rfl (fun _ h => ifok h) dX11_emptyText_14 q266 kX11_says rfl ⟨by decide, by decide⟩ rfl (Nat.le_of_ble_eq_true rfl) (fun r3 => ?_)
  exact x_iret rfl dX11_emptyText_17 rfl rfl
theorem mX11_emptyText (S : mSh) (μ : mMm) (cx cy : Nat) (o : Nat) : mMet MX11_emptyText [.ref o] (S, μ, cx, cy) (iMI S cx cy) (fX11_emptyText S μ o) := mMet.of rfl (by decide) rfl (fun h => by cases h) (Nat.le_of_ble_eq_true rfl) (mX.ck (fun _ => xbX11_emptyText o))
/-! SlideMillsModel.sets(IIII)I -/
def bX11_sets (S : mSh) (μ : mMm) (o : Nat) (p0 : Int32) (p1 : Int32) (p2 : Int32) (p3 : Int32) : Option (Int32 × mMm) := (fX11_in p1 p2 p3).bind fun v1 => (fX11_asks S μ o v1).bind fun r2 => if r2.1 = 0 then (some ((0 : Int32), r2.2)) else ((fX11_record S r2.2 o).bind fun m3 => (gR S o 11 0).bind fun v4 => (ldI S m3 v4 p0).bind fun v5 => (gR S o 11 0).bind fun v6 => (stI S m3 v6 p0 p1).bind fun m7 => some (v5, m7))
def fX11_sets (S : mSh) (μ : mMm) (o : Nat) (p0 : Int32) (p1 : Int32) (p2 : Int32) (p3 : Int32) : Option (Int32 × mMm) := if mok S o 11 = true then bX11_sets S μ o p0 p1 p2 p3 else none
abbrev MX11_sets : mM := ((yX11_sets, cX11_sets, 6, (some .int)), (1, 22), (false, false), RX11, eT)
theorem kX11_sets : mCalV MX11_sets RX11 4 := ⟨q286, q287, q5, q288, by decide +kernel⟩
set_option maxHeartbeats 4000000 in
theorem xbX11_sets {n0 c0 s0 cx cy : Nat} {S : mSh} {μ : mMm} (o : Nat) (p0 : Int32) (p1 : Int32) (p2 : Int32) (p3 : Int32) : mX MX11_sets n0 c0 s0 0 [some (.ref o), some (.int p0), some (.int p1), some (.int p2), some (.int p3), none] [] (S, μ, cx, cy) (iMI S cx cy) (bX11_sets S μ o p0 p1 p2 p3) := by
  unfold bX11_sets
  refine x_aload_n (pc := 0) dX11_sets_0 (i := 0) rfl rfl ?_
  refine x_iload_n (pc := 1) dX11_sets_1 (i := 2) rfl rfl ?_
  refine x_iload_n (pc := 2) dX11_sets_2 (i := 3) rfl rfl ?_
  refine x_iload (pc := 3) dX11_sets_3 rfl ?_
  refine x_callSi (pc := 5) (As := [.int p1, .int p2, .int p3]) (rest := [.ref o]) (vx := fun a => a) (μf := fun _ => μ) (mX11_in S μ cx cy p1 p2 p3) (fun _ => rfl) rfl dX11_sets_5 q199 kX11_in rfl ⟨by decide, by decide⟩ rfl (Nat.le_of_ble_eq_true rfl) (fun v1 => ?_)
  refine x_callVi (pc := 8) (As := [.int v1]) (rest := []) (vx := fun a => a.1) (μf := fun a => a.2) fcX11 (mX11_asks S μ cx cy o v1) (fun _ => rfl) rfl (fun _ h => ifok h) dX11_sets_8 q202 kX11_asks rfl ⟨by decide, by decide⟩ rfl (Nat.le_of_ble_eq_true rfl) (fun r2 => ?_)
  refine x_if_ne (pc := 11) (tgt := 16) dX11_sets_11 (by decide) ?_ ?_
  · refine x_iconst (pc := 14) (v := 0) dX11_sets_14 (by decide) ?_
    exact x_iret rfl dX11_sets_15 rfl rfl
  · refine x_aload_n (pc := 16) dX11_sets_16 (i := 0) rfl rfl ?_
    refine x_callVv (pc := 17) (As := []) (rest := []) (μf := fun a => a) fcX11 (mX11_record S r2.2 cx cy o) (fun _ => rfl) rfl (fun _ h => ifok h) dX11_sets_17 q211 kX11_record rfl ⟨by decide, by decide⟩ rfl (Nat.le_of_ble_eq_true rfl) (fun m3 => ?_)
    refine x_aload_n (pc := 20) dX11_sets_20 (i := 0) rfl rfl ?_
    refine x_gR (pc := 21) (k := 0) fcX11 dX11_sets_21 q136 (by decide) rfl (fun v4 => ?_)
    refine x_iload_n (pc := 24) dX11_sets_24 (i := 1) rfl rfl ?_
    refine x_ldI (pc := 25) dX11_sets_25 (fun v5 => ?_)
    refine x_istore (pc := 26) dX11_sets_26 (by decide) (l' := [some (.ref o), some (.int p0), some (.int p1), some (.int p2), some (.int p3), some (.int v5)]) rfl ?_
    refine x_aload_n (pc := 28) dX11_sets_28 (i := 0) rfl rfl ?_
    refine x_gR (pc := 29) (k := 0) fcX11 dX11_sets_29 q136 (by decide) rfl (fun v6 => ?_)
    refine x_iload_n (pc := 32) dX11_sets_32 (i := 1) rfl rfl ?_
    refine x_iload_n (pc := 33) dX11_sets_33 (i := 2) rfl rfl ?_
    refine x_stI (pc := 34) dX11_sets_34 (fun m7 => ?_)
    refine x_iload (pc := 35) dX11_sets_35 rfl ?_
    exact x_iret rfl dX11_sets_37 rfl rfl
theorem mX11_sets (S : mSh) (μ : mMm) (cx cy : Nat) (o : Nat) (p0 : Int32) (p1 : Int32) (p2 : Int32) (p3 : Int32) : mMet MX11_sets [.ref o, .int p0, .int p1, .int p2, .int p3] (S, μ, cx, cy) (iMI S cx cy) (fX11_sets S μ o p0 p1 p2 p3) := mMet.of rfl (by decide) rfl (fun h => by cases h) (Nat.le_of_ble_eq_true rfl) (mX.ck (fun _ => xbX11_sets o p0 p1 p2 p3))
/-! SlideMillsModel.setWindow(I)I -/
def bX11_setWindow (S : mSh) (μ : mMm) (o : Nat) (p0 : Int32) : Option (Int32 × mMm) := (fX11_sets S μ o (1 : Int32) p0 (1 : Int32) (32 : Int32)).bind fun r1 => some (r1.1, r1.2)
def fX11_setWindow (S : mSh) (μ : mMm) (o : Nat) (p0 : Int32) : Option (Int32 × mMm) := if mok S o 11 = true then bX11_setWindow S μ o p0 else none
abbrev MX11_setWindow : mM := ((yX11_setWindow, cX11_setWindow, 2, (some .int)), (2, 47), (false, false), RX11, eT)
theorem kX11_setWindow : mCalV MX11_setWindow RX11 1 := ⟨q282, q283, q5, q284, by decide +kernel⟩
set_option maxHeartbeats 4000000 in
theorem xbX11_setWindow {n0 c0 s0 cx cy : Nat} {S : mSh} {μ : mMm} (o : Nat) (p0 : Int32) : mX MX11_setWindow n0 c0 s0 0 [some (.ref o), some (.int p0)] [] (S, μ, cx, cy) (iMI S cx cy) (bX11_setWindow S μ o p0) := by
  unfold bX11_setWindow
  refine x_aload_n (pc := 0) dX11_setWindow_0 (i := 0) rfl rfl ?_
  refine x_iconst (pc := 1) (v := 1) dX11_setWindow_1 (by decide) ?_
  refine x_iload_n (pc := 2) dX11_setWindow_2 (i := 1) rfl rfl ?_
  refine x_iconst (pc := 3) (v := 1) dX11_setWindow_3 (by decide) ?_
  refine x_bipush (pc := 4) (v := 32) dX11_setWindow_4 (by decide) ?_
  refine x_callVi (pc := 6) (As := [.int (1 : Int32), .int p0, .int (1 : Int32), .int (32 : Int32)]) (rest := []) (vx := fun a => a.1) (μf := fun a => a.2) fcX11 (mX11_sets S μ cx cy o (1 : Int32) p0 (1 : Int32) (32 : Int32)) (fun _ => rfl) rfl (fun _ h => ifok h) dX11_setWindow_6 q285 kX11_sets rfl ⟨by decide, by decide⟩ rfl (Nat.le_of_ble_eq_true rfl) (fun r1 => ?_)
  exact x_iret rfl dX11_setWindow_9 rfl rfl
theorem mX11_setWindow (S : mSh) (μ : mMm) (cx cy : Nat) (o : Nat) (p0 : Int32) : mMet MX11_setWindow [.ref o, .int p0] (S, μ, cx, cy) (iMI S cx cy) (fX11_setWindow S μ o p0) := mMet.of rfl (by decide) rfl (fun h => by cases h) (Nat.le_of_ble_eq_true rfl) (mX.ck (fun _ => xbX11_setWindow o p0))
/-! SlideMillsModel.setShortest(I)I -/
def bX11_setShortest (S : mSh) (μ : mMm) (o : Nat) (p0 : Int32) : Option (Int32 × mMm) := (fX11_sets S μ o (2 : Int32) p0 (2 : Int32) (4 : Int32)).bind fun r1 => some (r1.1, r1.2)
def fX11_setShortest (S : mSh) (μ : mMm) (o : Nat) (p0 : Int32) : Option (Int32 × mMm) := if mok S o 11 = true then bX11_setShortest S μ o p0 else none
abbrev MX11_setShortest : mM := ((yX11_setShortest, cX11_setShortest, 2, (some .int)), (2, 47), (false, false), RX11, eT)
theorem kX11_setShortest : mCalV MX11_setShortest RX11 1 := ⟨q298, q299, q5, q300, by decide +kernel⟩
set_option maxHeartbeats 4000000 in
theorem xbX11_setShortest {n0 c0 s0 cx cy : Nat} {S : mSh} {μ : mMm} (o : Nat) (p0 : Int32) : mX MX11_setShortest n0 c0 s0 0 [some (.ref o), some (.int p0)] [] (S, μ, cx, cy) (iMI S cx cy) (bX11_setShortest S μ o p0) := by
  unfold bX11_setShortest
  refine x_aload_n (pc := 0) dX11_setShortest_0 (i := 0) rfl rfl ?_
  refine x_iconst (pc := 1) (v := 2) dX11_setShortest_1 (by decide) ?_
  refine x_iload_n (pc := 2) dX11_setShortest_2 (i := 1) rfl rfl ?_
  refine x_iconst (pc := 3) (v := 2) dX11_setShortest_3 (by decide) ?_
  refine x_iconst (pc := 4) (v := 4) dX11_setShortest_4 (by decide) ?_
  refine x_callVi (pc := 5) (As := [.int (2 : Int32), .int p0, .int (2 : Int32), .int (4 : Int32)]) (rest := []) (vx := fun a => a.1) (μf := fun a => a.2) fcX11 (mX11_sets S μ cx cy o (2 : Int32) p0 (2 : Int32) (4 : Int32)) (fun _ => rfl) rfl (fun _ h => ifok h) dX11_setShortest_5 q285 kX11_sets rfl ⟨by decide, by decide⟩ rfl (Nat.le_of_ble_eq_true rfl) (fun r1 => ?_)
  exact x_iret rfl dX11_setShortest_8 rfl rfl
theorem mX11_setShortest (S : mSh) (μ : mMm) (cx cy : Nat) (o : Nat) (p0 : Int32) : mMet MX11_setShortest [.ref o, .int p0] (S, μ, cx, cy) (iMI S cx cy) (fX11_setShortest S μ o p0) := mMet.of rfl (by decide) rfl (fun h => by cases h) (Nat.le_of_ble_eq_true rfl) (mX.ck (fun _ => xbX11_setShortest o p0))
/-! SlideMillsModel.setLongest(I)I -/
def bX11_setLongest (S : mSh) (μ : mMm) (o : Nat) (p0 : Int32) : Option (Int32 × mMm) := (fX11_sets S μ o (3 : Int32) p0 (4 : Int32) (9 : Int32)).bind fun r1 => some (r1.1, r1.2)
def fX11_setLongest (S : mSh) (μ : mMm) (o : Nat) (p0 : Int32) : Option (Int32 × mMm) := if mok S o 11 = true then bX11_setLongest S μ o p0 else none
abbrev MX11_setLongest : mM := ((yX11_setLongest, cX11_setLongest, 2, (some .int)), (2, 47), (false, false), RX11, eT)
theorem kX11_setLongest : mCalV MX11_setLongest RX11 1 := ⟨q310, q311, q5, q312, by decide +kernel⟩
set_option maxHeartbeats 4000000 in
theorem xbX11_setLongest {n0 c0 s0 cx cy : Nat} {S : mSh} {μ : mMm} (o : Nat) (p0 : Int32) : mX MX11_setLongest n0 c0 s0 0 [some (.ref o), some (.int p0)] [] (S, μ, cx, cy) (iMI S cx cy) (bX11_setLongest S μ o p0) := by
  unfold bX11_setLongest
  refine x_aload_n (pc := 0) dX11_setLongest_0 (i := 0) rfl rfl ?_
  refine x_iconst (pc := 1) (v := 3) dX11_setLongest_1 (by decide) ?_
  refine x_iload_n (pc := 2) dX11_setLongest_2 (i := 1) rfl rfl ?_
  refine x_iconst (pc := 3) (v := 4) dX11_setLongest_3 (by decide) ?_
  refine x_bipush (pc := 4) (v := 9) dX11_setLongest_4 (by decide) ?_
  refine x_callVi (pc := 6) (As := [.int (3 : Int32), .int p0, .int (4 : Int32), .int (9 : Int32)]) (rest := []) (vx := fun a => a.1) (μf := fun a => a.2) fcX11 (mX11_sets S μ cx cy o (3 : Int32) p0 (4 : Int32) (9 : Int32)) (fun _ => rfl) rfl (fun _ h => ifok h) dX11_setLongest_6 q285 kX11_sets rfl ⟨by decide, by decide⟩ rfl (Nat.le_of_ble_eq_true rfl) (fun r1 => ?_)
  exact x_iret rfl dX11_setLongest_9 rfl rfl
theorem mX11_setLongest (S : mSh) (μ : mMm) (cx cy : Nat) (o : Nat) (p0 : Int32) : mMet MX11_setLongest [.ref o, .int p0] (S, μ, cx, cy) (iMI S cx cy) (fX11_setLongest S μ o p0) := mMet.of rfl (by decide) rfl (fun h => by cases h) (Nat.le_of_ble_eq_true rfl) (mX.ck (fun _ => xbX11_setLongest o p0))
/-! SlideMillsModel.setLetterPrice(I)I -/
def bX11_setLetterPrice (S : mSh) (μ : mMm) (o : Nat) (p0 : Int32) : Option (Int32 × mMm) := (fX11_sets S μ o (4 : Int32) p0 (1 : Int32) (9 : Int32)).bind fun r1 => some (r1.1, r1.2)
def fX11_setLetterPrice (S : mSh) (μ : mMm) (o : Nat) (p0 : Int32) : Option (Int32 × mMm) := if mok S o 11 = true then bX11_setLetterPrice S μ o p0 else none
abbrev MX11_setLetterPrice : mM := ((yX11_setLetterPrice, cX11_setLetterPrice, 2, (some .int)), (2, 47), (false, false), RX11, eT)
theorem kX11_setLetterPrice : mCalV MX11_setLetterPrice RX11 1 := ⟨q322, q323, q5, q324, by decide +kernel⟩
set_option maxHeartbeats 4000000 in
theorem xbX11_setLetterPrice {n0 c0 s0 cx cy : Nat} {S : mSh} {μ : mMm} (o : Nat) (p0 : Int32) : mX MX11_setLetterPrice n0 c0 s0 0 [some (.ref o), some (.int p0)] [] (S, μ, cx, cy) (iMI S cx cy) (bX11_setLetterPrice S μ o p0) := by
  unfold bX11_setLetterPrice
  refine x_aload_n (pc := 0) dX11_setLetterPrice_0 (i := 0) rfl rfl ?_
  refine x_iconst (pc := 1) (v := 4) dX11_setLetterPrice_1 (by decide) ?_
  refine x_iload_n (pc := 2) dX11_setLetterPrice_2 (i := 1) rfl rfl ?_
  refine x_iconst (pc := 3) (v := 1) dX11_setLetterPrice_3 (by decide) ?_
  refine x_bipush (pc := 4) (v := 9) dX11_setLetterPrice_4 (by decide) ?_
  refine x_callVi (pc := 6) (As := [.int (4 : Int32), .int p0, .int (1 : Int32), .int (9 : Int32)]) (rest := []) (vx := fun a => a.1) (μf := fun a => a.2) fcX11 (mX11_sets S μ cx cy o (4 : Int32) p0 (1 : Int32) (9 : Int32)) (fun _ => rfl) rfl (fun _ h => ifok h) dX11_setLetterPrice_6 q285 kX11_sets rfl ⟨by decide, by decide⟩ rfl (Nat.le_of_ble_eq_true rfl) (fun r1 => ?_)
  exact x_iret rfl dX11_setLetterPrice_9 rfl rfl
theorem mX11_setLetterPrice (S : mSh) (μ : mMm) (cx cy : Nat) (o : Nat) (p0 : Int32) : mMet MX11_setLetterPrice [.ref o, .int p0] (S, μ, cx, cy) (iMI S cx cy) (fX11_setLetterPrice S μ o p0) := mMet.of rfl (by decide) rfl (fun h => by cases h) (Nat.le_of_ble_eq_true rfl) (mX.ck (fun _ => xbX11_setLetterPrice o p0))
/-! SlideMillsModel.setRepeatPrice(I)I -/
def bX11_setRepeatPrice (S : mSh) (μ : mMm) (o : Nat) (p0 : Int32) : Option (Int32 × mMm) := (fX11_sets S μ o (5 : Int32) p0 (1 : Int32) (20 : Int32)).bind fun r1 => some (r1.1, r1.2)
def fX11_setRepeatPrice (S : mSh) (μ : mMm) (o : Nat) (p0 : Int32) : Option (Int32 × mMm) := if mok S o 11 = true then bX11_setRepeatPrice S μ o p0 else none
abbrev MX11_setRepeatPrice : mM := ((yX11_setRepeatPrice, cX11_setRepeatPrice, 2, (some .int)), (2, 47), (false, false), RX11, eT)
theorem kX11_setRepeatPrice : mCalV MX11_setRepeatPrice RX11 1 := ⟨q334, q335, q5, q336, by decide +kernel⟩
set_option maxHeartbeats 4000000 in
theorem xbX11_setRepeatPrice {n0 c0 s0 cx cy : Nat} {S : mSh} {μ : mMm} (o : Nat) (p0 : Int32) : mX MX11_setRepeatPrice n0 c0 s0 0 [some (.ref o), some (.int p0)] [] (S, μ, cx, cy) (iMI S cx cy) (bX11_setRepeatPrice S μ o p0) := by
  unfold bX11_setRepeatPrice
  refine x_aload_n (pc := 0) dX11_setRepeatPrice_0 (i := 0) rfl rfl ?_
  refine x_iconst (pc := 1) (v := 5) dX11_setRepeatPrice_1 (by decide) ?_
  refine x_iload_n (pc := 2) dX11_setRepeatPrice_2 (i := 1) rfl rfl ?_
  refine x_iconst (pc := 3) (v := 1) dX11_setRepeatPrice_3 (by decide) ?_
  refine x_bipush (pc := 4) (v := 20) dX11_setRepeatPrice_4 (by decide) ?_
  refine x_callVi (pc := 6) (As := [.int (5 : Int32), .int p0, .int (1 : Int32), .int (20 : Int32)]) (rest := []) (vx := fun a => a.1) (μf := fun a => a.2) fcX11 (mX11_sets S μ cx cy o (5 : Int32) p0 (1 : Int32) (20 : Int32)) (fun _ => rfl) rfl (fun _ h => ifok h) dX11_setRepeatPrice_6 q285 kX11_sets rfl ⟨by decide, by decide⟩ rfl (Nat.le_of_ble_eq_true rfl) (fun r1 => ?_)
  exact x_iret rfl dX11_setRepeatPrice_9 rfl rfl
theorem mX11_setRepeatPrice (S : mSh) (μ : mMm) (cx cy : Nat) (o : Nat) (p0 : Int32) : mMet MX11_setRepeatPrice [.ref o, .int p0] (S, μ, cx, cy) (iMI S cx cy) (fX11_setRepeatPrice S μ o p0) := mMet.of rfl (by decide) rfl (fun h => by cases h) (Nat.le_of_ble_eq_true rfl) (mX.ck (fun _ => xbX11_setRepeatPrice o p0))
/-! SlideMillsModel.alike(II)I -/
def lX11_alike_2 (S : mSh) (μ : mMm) : Nat → Nat → Int32 → Int32 → Int32 → Option (Int32)
  | 0, _, _, _, _ => none
  | n + 1, x0, x1, x2, x3 => (gR S x0 11 0).bind fun v1 => (ldI S μ v1 (3 : Int32)).bind fun v2 => if v2 ≤ x3 then (some x3) else ((gR S x0 11 0).bind fun v3 => (ldI S μ v3 (0 : Int32)).bind fun v4 => if v4 ≤ (x1 + x3) then (some x3) else ((gR S x0 11 0).bind fun v5 => (ldI S μ v5 (((10 : Int32) + x1) + x3)).bind fun v6 => (gR S x0 11 0).bind fun v7 => (ldI S μ v7 ((((10 : Int32) + x1) + x3) - x2)).bind fun v8 => if v6 = v8 then (lX11_alike_2 S μ n x0 x1 x2 (x3 + (1 : Int32))) else (some x3)))
def bX11_alike (S : mSh) (μ : mMm) (o : Nat) (p0 : Int32) (p1 : Int32) : Option (Int32) := lX11_alike_2 S μ FU o p0 p1 (0 : Int32)
def fX11_alike (S : mSh) (μ : mMm) (o : Nat) (p0 : Int32) (p1 : Int32) : Option (Int32) := if mok S o 11 = true then bX11_alike S μ o p0 p1 else none
abbrev MX11_alike : mM := ((yX11_alike, cX11_alike, 4, (some .int)), (0, 0), (false, false), RX11, eT)
theorem kX11_alike : mCalV MX11_alike RX11 2 := ⟨q441, q442, q5, q443, by decide +kernel⟩
set_option maxHeartbeats 4000000 in
theorem xX11_alike_2 {n0 c0 s0 cx cy : Nat} {S : mSh} {μ : mMm} : ∀ (n : Nat) (x0 : Nat) (x1 : Int32) (x2 : Int32) (x3 : Int32), mX MX11_alike n0 c0 s0 2 [some (.ref x0), some (.int x1), some (.int x2), some (.int x3)] [] (S, μ, cx, cy) (iPI S μ cx cy) (lX11_alike_2 S μ n x0 x1 x2 x3) := by
  intro n
  induction n with
  | zero => intros; exact x_none
  | succ n ih =>
    intro x0 x1 x2 x3
    unfold lX11_alike_2
    refine x_iload_n (pc := 2) dX11_alike_2 (i := 3) rfl rfl ?_
    refine x_aload_n (pc := 3) dX11_alike_3 (i := 0) rfl rfl ?_
    refine x_gR (pc := 4) (k := 0) fcX11 dX11_alike_4 q136 (by decide) rfl (fun v1 => ?_)
    refine x_iconst (pc := 7) (v := 3) dX11_alike_7 (by decide) ?_
    refine x_ldI (pc := 8) dX11_alike_8 (fun v2 => ?_)
    refine x_icmp_ge (pc := 9) (tgt := 57) dX11_alike_9 (by decide) ?_ ?_
    · refine x_iload_n (pc := 57) dX11_alike_57 (i := 3) rfl rfl ?_
      exact x_iret rfl dX11_alike_58 rfl rfl
    · refine x_iload_n (pc := 12) dX11_alike_12 (i := 1) rfl rfl ?_
      refine x_iload_n (pc := 13) dX11_alike_13 (i := 3) rfl rfl ?_
      refine x_iadd (pc := 14) dX11_alike_14 ?_
      refine x_aload_n (pc := 15) dX11_alike_15 (i := 0) rfl rfl ?_
      refine x_gR (pc := 16) (k := 0) fcX11 dX11_alike_16 q136 (by decide) rfl (fun v3 => ?_)
      refine x_iconst (pc := 19) (v := 0) dX11_alike_19 (by decide) ?_
      refine x_ldI (pc := 20) dX11_alike_20 (fun v4 => ?_)
      refine x_icmp_ge (pc := 21) (tgt := 57) dX11_alike_21 (by decide) ?_ ?_
      · refine x_iload_n (pc := 57) dX11_alike_57 (i := 3) rfl rfl ?_
        exact x_iret rfl dX11_alike_58 rfl rfl
      · refine x_aload_n (pc := 24) dX11_alike_24 (i := 0) rfl rfl ?_
        refine x_gR (pc := 25) (k := 0) fcX11 dX11_alike_25 q136 (by decide) rfl (fun v5 => ?_)
        refine x_bipush (pc := 28) (v := 10) dX11_alike_28 (by decide) ?_
        refine x_iload_n (pc := 30) dX11_alike_30 (i := 1) rfl rfl ?_
        refine x_iadd (pc := 31) dX11_alike_31 ?_
        refine x_iload_n (pc := 32) dX11_alike_32 (i := 3) rfl rfl ?_
        refine x_iadd (pc := 33) dX11_alike_33 ?_
        refine x_ldI (pc := 34) dX11_alike_34 (fun v6 => ?_)
        refine x_aload_n (pc := 35) dX11_alike_35 (i := 0) rfl rfl ?_
        refine x_gR (pc := 36) (k := 0) fcX11 dX11_alike_36 q136 (by decide) rfl (fun v7 => ?_)
        refine x_bipush (pc := 39) (v := 10) dX11_alike_39 (by decide) ?_
        refine x_iload_n (pc := 41) dX11_alike_41 (i := 1) rfl rfl ?_
        refine x_iadd (pc := 42) dX11_alike_42 ?_
        refine x_iload_n (pc := 43) dX11_alike_43 (i := 3) rfl rfl ?_
        refine x_iadd (pc := 44) dX11_alike_44 ?_
        refine x_iload_n (pc := 45) dX11_alike_45 (i := 2) rfl rfl ?_
        refine x_isub (pc := 46) dX11_alike_46 ?_
        refine x_ldI (pc := 47) dX11_alike_47 (fun v8 => ?_)
        refine x_icmp_ne (pc := 48) (tgt := 57) dX11_alike_48 (by decide) ?_ ?_
        · refine x_iinc (pc := 51) (v := x3 + (1 : Int32)) dX11_alike_51 rfl (by rw [show Int32.ofInt (1) = (1 : Int32) from by decide]) (by decide) (l' := [some (.ref x0), some (.int x1), some (.int x2), some (.int (x3 + (1 : Int32)))]) rfl ?_
          refine x_goto (pc := 54) (tgt := 2) dX11_alike_54 (by decide) ?_
          exact ih x0 x1 x2 (x3 + (1 : Int32)) 
        · refine x_iload_n (pc := 57) dX11_alike_57 (i := 3) rfl rfl ?_
          exact x_iret rfl dX11_alike_58 rfl rfl
set_option maxHeartbeats 4000000 in
theorem xbX11_alike {n0 c0 s0 cx cy : Nat} {S : mSh} {μ : mMm} (o : Nat) (p0 : Int32) (p1 : Int32) : mX MX11_alike n0 c0 s0 0 [some (.ref o), some (.int p0), some (.int p1), none] [] (S, μ, cx, cy) (iPI S μ cx cy) (bX11_alike S μ o p0 p1) := by
  unfold bX11_alike
  refine x_iconst (pc := 0) (v := 0) dX11_alike_0 (by decide) ?_
  refine x_istore_n (pc := 1) dX11_alike_1 (i := 3) rfl (by decide) (l' := [some (.ref o), some (.int p0), some (.int p1), some (.int (0 : Int32))]) rfl ?_
  exact xX11_alike_2 FU o p0 p1 (0 : Int32) 
theorem mX11_alike (S : mSh) (μ : mMm) (cx cy : Nat) (o : Nat) (p0 : Int32) (p1 : Int32) : mMet MX11_alike [.ref o, .int p0, .int p1] (S, μ, cx, cy) (iPI S μ cx cy) (fX11_alike S μ o p0 p1) := mMet.of rfl (by decide) rfl (fun h => by cases h) (Nat.le_of_ble_eq_true rfl) (mX.ck (fun _ => xbX11_alike o p0 p1))
/-! SlideMillsModel.longestAt(II)I -/
def lX11_longestAt_49 (k5 : Nat → Int32 → Int32 → Int32 → Int32 → Option (Int32)) (S : mSh) (μ : mMm) (x0 : Nat) (x1 : Int32) (x2 : Int32) (x4 : Int32) (t0 : Int32) : Option (Int32) := k5 x0 x1 x2 t0 (x4 + (1 : Int32))
def lX11_longestAt_48 (k5 : Nat → Int32 → Int32 → Int32 → Int32 → Option (Int32)) (S : mSh) (μ : mMm) (x0 : Nat) (x1 : Int32) (x2 : Int32) (x3 : Int32) (x4 : Int32) : Option (Int32) := lX11_longestAt_49 k5 S μ x0 x1 x2 x4 x3
def lX11_longestAt_5 (S : mSh) (μ : mMm) : Nat → Nat → Int32 → Int32 → Int32 → Int32 → Option (Int32)
  | 0, _, _, _, _, _ => none
  | n + 1, x0, x1, x2, x3, x4 => if x2 < x4 then (some x3) else (if x1 < x4 then (some x3) else ((fX11_alike S μ x0 x1 x4).bind fun v1 => (gR S x0 11 0).bind fun v2 => (ldI S μ v2 (2 : Int32)).bind fun v3 => if v1 < v3 then (lX11_longestAt_48 (lX11_longestAt_5 S μ n) S μ x0 x1 x2 x3 x4) else (if v1 ≤ x3 then (lX11_longestAt_48 (lX11_longestAt_5 S μ n) S μ x0 x1 x2 x3 x4) else (lX11_longestAt_49 (lX11_longestAt_5 S μ n) S μ x0 x1 x2 x4 v1))))
def bX11_longestAt (S : mSh) (μ : mMm) (o : Nat) (p0 : Int32) (p1 : Int32) : Option (Int32) := lX11_longestAt_5 S μ FU o p0 p1 (0 : Int32) (1 : Int32)
def fX11_longestAt (S : mSh) (μ : mMm) (o : Nat) (p0 : Int32) (p1 : Int32) : Option (Int32) := if mok S o 11 = true then bX11_longestAt S μ o p0 p1 else none
abbrev MX11_longestAt : mM := ((yX11_longestAt, cX11_longestAt, 6, (some .int)), (1, 23), (false, false), RX11, eT)
theorem kX11_longestAt : mCalV MX11_longestAt RX11 2 := ⟨q437, q438, q5, q439, by decide +kernel⟩
set_option maxHeartbeats 4000000 in
theorem xX11_longestAt_49 {n0 c0 s0 cx cy : Nat} {S : mSh} {μ : mMm} {k5 : Nat → Int32 → Int32 → Int32 → Int32 → Option (Int32)} (hk5 : ∀ (x0 : Nat) (x1 : Int32) (x2 : Int32) (x3 : Int32) (x4 : Int32) (d5 : Option Value), mX MX11_longestAt n0 c0 s0 5 [some (.ref x0), some (.int x1), some (.int x2), some (.int x3), some (.int x4), d5] [] (S, μ, cx, cy) (iPI S μ cx cy) (k5 x0 x1 x2 x3 x4)) (x0 : Nat) (x1 : Int32) (x2 : Int32) (x4 : Int32) (t0 : Int32) (d3 : Option Value) (d5 : Option Value) : mX MX11_longestAt n0 c0 s0 49 [some (.ref x0), some (.int x1), some (.int x2), d3, some (.int x4), d5] [.int t0] (S, μ, cx, cy) (iPI S μ cx cy) (lX11_longestAt_49 k5 S μ x0 x1 x2 x4 t0) := by
  unfold lX11_longestAt_49
  refine x_istore_n (pc := 49) dX11_longestAt_49 (i := 3) rfl (by decide) (l' := [some (.ref x0), some (.int x1), some (.int x2), some (.int t0), some (.int x4), d5]) rfl ?_
  refine x_iinc (pc := 50) (v := x4 + (1 : Int32)) dX11_longestAt_50 rfl (by rw [show Int32.ofInt (1) = (1 : Int32) from by decide]) (by decide) (l' := [some (.ref x0), some (.int x1), some (.int x2), some (.int t0), some (.int (x4 + (1 : Int32))), d5]) rfl ?_
  refine x_goto (pc := 53) (tgt := 5) dX11_longestAt_53 (by decide) ?_
  exact hk5 x0 x1 x2 t0 (x4 + (1 : Int32)) _
set_option maxHeartbeats 4000000 in
theorem xX11_longestAt_48 {n0 c0 s0 cx cy : Nat} {S : mSh} {μ : mMm} {k5 : Nat → Int32 → Int32 → Int32 → Int32 → Option (Int32)} (hk5 : ∀ (x0 : Nat) (x1 : Int32) (x2 : Int32) (x3 : Int32) (x4 : Int32) (d5 : Option Value), mX MX11_longestAt n0 c0 s0 5 [some (.ref x0), some (.int x1), some (.int x2), some (.int x3), some (.int x4), d5] [] (S, μ, cx, cy) (iPI S μ cx cy) (k5 x0 x1 x2 x3 x4)) (x0 : Nat) (x1 : Int32) (x2 : Int32) (x3 : Int32) (x4 : Int32) (d5 : Option Value) : mX MX11_longestAt n0 c0 s0 48 [some (.ref x0), some (.int x1), some (.int x2), some (.int x3), some (.int x4), d5] [] (S, μ, cx, cy) (iPI S μ cx cy) (lX11_longestAt_48 k5 S μ x0 x1 x2 x3 x4) := by
  unfold lX11_longestAt_48
  refine x_iload_n (pc := 48) dX11_longestAt_48 (i := 3) rfl rfl ?_
  exact xX11_longestAt_49 (k5 := k5) hk5 x0 x1 x2 x4 x3 _ _
set_option maxHeartbeats 4000000 in
theorem xX11_longestAt_5 {n0 c0 s0 cx cy : Nat} {S : mSh} {μ : mMm} : ∀ (n : Nat) (x0 : Nat) (x1 : Int32) (x2 : Int32) (x3 : Int32) (x4 : Int32) (d5 : Option Value), mX MX11_longestAt n0 c0 s0 5 [some (.ref x0), some (.int x1), some (.int x2), some (.int x3), some (.int x4), d5] [] (S, μ, cx, cy) (iPI S μ cx cy) (lX11_longestAt_5 S μ n x0 x1 x2 x3 x4) := by
  intro n
  induction n with
  | zero => intros; exact x_none
  | succ n ih =>
    intro x0 x1 x2 x3 x4 d5
    unfold lX11_longestAt_5
    refine x_iload (pc := 5) dX11_longestAt_5 rfl ?_
    refine x_iload_n (pc := 7) dX11_longestAt_7 (i := 2) rfl rfl ?_
    refine x_icmp_gt (pc := 8) (tgt := 56) dX11_longestAt_8 (by decide) ?_ ?_
    · refine x_iload_n (pc := 56) dX11_longestAt_56 (i := 3) rfl rfl ?_
      exact x_iret rfl dX11_longestAt_57 rfl rfl
    · refine x_iload (pc := 11) dX11_longestAt_11 rfl ?_
      refine x_iload_n (pc := 13) dX11_longestAt_13 (i := 1) rfl rfl ?_
      refine x_icmp_gt (pc := 14) (tgt := 56) dX11_longestAt_14 (by decide) ?_ ?_
      · refine x_iload_n (pc := 56) dX11_longestAt_56 (i := 3) rfl rfl ?_
        exact x_iret rfl dX11_longestAt_57 rfl rfl
      · refine x_aload_n (pc := 17) dX11_longestAt_17 (i := 0) rfl rfl ?_
        refine x_iload_n (pc := 18) dX11_longestAt_18 (i := 1) rfl rfl ?_
        refine x_iload (pc := 19) dX11_longestAt_19 rfl ?_
        refine x_callVi (pc := 21) (As := [.int x1, .int x4]) (rest := []) (vx := fun a => a) (μf := fun _ => μ) fcX11 (mX11_alike S μ cx cy x0 x1 x4) (fun _ => rfl) rfl (fun _ h => ifok h) dX11_longestAt_21 q440 kX11_alike rfl ⟨by decide, by decide⟩ rfl (Nat.le_of_ble_eq_true rfl) (fun v1 => ?_)
        refine x_istore (pc := 24) dX11_longestAt_24 (by decide) (l' := [some (.ref x0), some (.int x1), some (.int x2), some (.int x3), some (.int x4), some (.int v1)]) rfl ?_
        refine x_iload (pc := 26) dX11_longestAt_26 rfl ?_
        refine x_aload_n (pc := 28) dX11_longestAt_28 (i := 0) rfl rfl ?_
        refine x_gR (pc := 29) (k := 0) fcX11 dX11_longestAt_29 q136 (by decide) rfl (fun v2 => ?_)
        refine x_iconst (pc := 32) (v := 2) dX11_longestAt_32 (by decide) ?_
        refine x_ldI (pc := 33) dX11_longestAt_33 (fun v3 => ?_)
        refine x_icmp_lt (pc := 34) (tgt := 48) dX11_longestAt_34 (by decide) ?_ ?_
        · exact xX11_longestAt_48 (k5 := (lX11_longestAt_5 S μ n)) ih x0 x1 x2 x3 x4 _
        · refine x_iload (pc := 37) dX11_longestAt_37 rfl ?_
          refine x_iload_n (pc := 39) dX11_longestAt_39 (i := 3) rfl rfl ?_
          refine x_icmp_le (pc := 40) (tgt := 48) dX11_longestAt_40 (by decide) ?_ ?_
          · exact xX11_longestAt_48 (k5 := (lX11_longestAt_5 S μ n)) ih x0 x1 x2 x3 x4 _
          · refine x_iload (pc := 43) dX11_longestAt_43 rfl ?_
            refine x_goto (pc := 45) (tgt := 49) dX11_longestAt_45 (by decide) ?_
            exact xX11_longestAt_49 (k5 := (lX11_longestAt_5 S μ n)) ih x0 x1 x2 x4 v1 _ _
set_option maxHeartbeats 4000000 in
theorem xbX11_longestAt {n0 c0 s0 cx cy : Nat} {S : mSh} {μ : mMm} (o : Nat) (p0 : Int32) (p1 : Int32) : mX MX11_longestAt n0 c0 s0 0 [some (.ref o), some (.int p0), some (.int p1), none, none, none] [] (S, μ, cx, cy) (iPI S μ cx cy) (bX11_longestAt S μ o p0 p1) := by
  unfold bX11_longestAt
  refine x_iconst (pc := 0) (v := 0) dX11_longestAt_0 (by decide) ?_
  refine x_istore_n (pc := 1) dX11_longestAt_1 (i := 3) rfl (by decide) (l' := [some (.ref o), some (.int p0), some (.int p1), some (.int (0 : Int32)), none, none]) rfl ?_
  refine x_iconst (pc := 2) (v := 1) dX11_longestAt_2 (by decide) ?_
  refine x_istore (pc := 3) dX11_longestAt_3 (by decide) (l' := [some (.ref o), some (.int p0), some (.int p1), some (.int (0 : Int32)), some (.int (1 : Int32)), none]) rfl ?_
  exact xX11_longestAt_5 FU o p0 p1 (0 : Int32) (1 : Int32) _
theorem mX11_longestAt (S : mSh) (μ : mMm) (cx cy : Nat) (o : Nat) (p0 : Int32) (p1 : Int32) : mMet MX11_longestAt [.ref o, .int p0, .int p1] (S, μ, cx, cy) (iPI S μ cx cy) (fX11_longestAt S μ o p0 p1) := mMet.of rfl (by decide) rfl (fun h => by cases h) (Nat.le_of_ble_eq_true rfl) (mX.ck (fun _ => xbX11_longestAt o p0 p1))
/-! SlideMillsModel.distanceFor(II)I -/
def lX11_distanceFor_2 (S : mSh) (μ : mMm) : Nat → Nat → Int32 → Int32 → Int32 → Option (Int32)
  | 0, _, _, _, _ => none
  | n + 1, x0, x1, x2, x3 => (fX11_alike S μ x0 x1 x3).bind fun v1 => if x2 ≤ v1 then (some x3) else (lX11_distanceFor_2 S μ n x0 x1 x2 (x3 + (1 : Int32)))
def bX11_distanceFor (S : mSh) (μ : mMm) (o : Nat) (p0 : Int32) (p1 : Int32) : Option (Int32) := lX11_distanceFor_2 S μ FU o p0 p1 (1 : Int32)
def fX11_distanceFor (S : mSh) (μ : mMm) (o : Nat) (p0 : Int32) (p1 : Int32) : Option (Int32) := if mok S o 11 = true then bX11_distanceFor S μ o p0 p1 else none
abbrev MX11_distanceFor : mM := ((yX11_distanceFor, cX11_distanceFor, 4, (some .int)), (1, 23), (false, false), RX11, eT)
theorem kX11_distanceFor : mCalV MX11_distanceFor RX11 2 := ⟨q449, q450, q5, q451, by decide +kernel⟩
set_option maxHeartbeats 4000000 in
theorem xX11_distanceFor_2 {n0 c0 s0 cx cy : Nat} {S : mSh} {μ : mMm} : ∀ (n : Nat) (x0 : Nat) (x1 : Int32) (x2 : Int32) (x3 : Int32), mX MX11_distanceFor n0 c0 s0 2 [some (.ref x0), some (.int x1), some (.int x2), some (.int x3)] [] (S, μ, cx, cy) (iPI S μ cx cy) (lX11_distanceFor_2 S μ n x0 x1 x2 x3) := by
  intro n
  induction n with
  | zero => intros; exact x_none
  | succ n ih =>
    intro x0 x1 x2 x3
    unfold lX11_distanceFor_2
    refine x_aload_n (pc := 2) dX11_distanceFor_2 (i := 0) rfl rfl ?_
    refine x_iload_n (pc := 3) dX11_distanceFor_3 (i := 1) rfl rfl ?_
    refine x_iload_n (pc := 4) dX11_distanceFor_4 (i := 3) rfl rfl ?_
    refine x_callVi (pc := 5) (As := [.int x1, .int x3]) (rest := []) (vx := fun a => a) (μf := fun _ => μ) fcX11 (mX11_alike S μ cx cy x0 x1 x3) (fun _ => rfl) rfl (fun _ h => ifok h) dX11_distanceFor_5 q440 kX11_alike rfl ⟨by decide, by decide⟩ rfl (Nat.le_of_ble_eq_true rfl) (fun v1 => ?_)
    refine x_iload_n (pc := 8) dX11_distanceFor_8 (i := 2) rfl rfl ?_
    refine x_icmp_ge (pc := 9) (tgt := 18) dX11_distanceFor_9 (by decide) ?_ ?_
    · refine x_iload_n (pc := 18) dX11_distanceFor_18 (i := 3) rfl rfl ?_
      exact x_iret rfl dX11_distanceFor_19 rfl rfl
    · refine x_iinc (pc := 12) (v := x3 + (1 : Int32)) dX11_distanceFor_12 rfl (by rw [show Int32.ofInt (1) = (1 : Int32) from by decide]) (by decide) (l' := [some (.ref x0), some (.int x1), some (.int x2), some (.int (x3 + (1 : Int32)))]) rfl ?_
      refine x_goto (pc := 15) (tgt := 2) dX11_distanceFor_15 (by decide) ?_
      exact ih x0 x1 x2 (x3 + (1 : Int32)) 
set_option maxHeartbeats 4000000 in
theorem xbX11_distanceFor {n0 c0 s0 cx cy : Nat} {S : mSh} {μ : mMm} (o : Nat) (p0 : Int32) (p1 : Int32) : mX MX11_distanceFor n0 c0 s0 0 [some (.ref o), some (.int p0), some (.int p1), none] [] (S, μ, cx, cy) (iPI S μ cx cy) (bX11_distanceFor S μ o p0 p1) := by
  unfold bX11_distanceFor
  refine x_iconst (pc := 0) (v := 1) dX11_distanceFor_0 (by decide) ?_
  refine x_istore_n (pc := 1) dX11_distanceFor_1 (i := 3) rfl (by decide) (l' := [some (.ref o), some (.int p0), some (.int p1), some (.int (1 : Int32))]) rfl ?_
  exact xX11_distanceFor_2 FU o p0 p1 (1 : Int32) 
theorem mX11_distanceFor (S : mSh) (μ : mMm) (cx cy : Nat) (o : Nat) (p0 : Int32) (p1 : Int32) : mMet MX11_distanceFor [.ref o, .int p0, .int p1] (S, μ, cx, cy) (iPI S μ cx cy) (fX11_distanceFor S μ o p0 p1) := mMet.of rfl (by decide) rfl (fun h => by cases h) (Nat.le_of_ble_eq_true rfl) (mX.ck (fun _ => xbX11_distanceFor o p0 p1))
/-! SlideMillsModel.pairAt(I)I -/
def bX11_pairAt (S : mSh) (μ : mMm) (o : Nat) (p0 : Int32) : Option (Int32) := (gR S o 11 0).bind fun v1 => (ldI S μ v1 ((10 : Int32) + p0)).bind fun v2 => (gR S o 11 0).bind fun v3 => (ldI S μ v3 (((10 : Int32) + p0) + (1 : Int32))).bind fun v4 => some (((4 : Int32) * v2) + v4)
def fX11_pairAt (S : mSh) (μ : mMm) (o : Nat) (p0 : Int32) : Option (Int32) := if mok S o 11 = true then bX11_pairAt S μ o p0 else none
abbrev MX11_pairAt : mM := ((yX11_pairAt, cX11_pairAt, 2, (some .int)), (0, 0), (false, false), RX11, eT)
theorem kX11_pairAt : mCalV MX11_pairAt RX11 1 := ⟨q1003, q1004, q5, q1005, by decide +kernel⟩
set_option maxHeartbeats 4000000 in
theorem xbX11_pairAt {n0 c0 s0 cx cy : Nat} {S : mSh} {μ : mMm} (o : Nat) (p0 : Int32) : mX MX11_pairAt n0 c0 s0 0 [some (.ref o), some (.int p0)] [] (S, μ, cx, cy) (iPI S μ cx cy) (bX11_pairAt S μ o p0) := by
  unfold bX11_pairAt
  refine x_iconst (pc := 0) (v := 4) dX11_pairAt_0 (by decide) ?_
  refine x_aload_n (pc := 1) dX11_pairAt_1 (i := 0) rfl rfl ?_
  refine x_gR (pc := 2) (k := 0) fcX11 dX11_pairAt_2 q136 (by decide) rfl (fun v1 => ?_)
  refine x_bipush (pc := 5) (v := 10) dX11_pairAt_5 (by decide) ?_
  refine x_iload_n (pc := 7) dX11_pairAt_7 (i := 1) rfl rfl ?_
  refine x_iadd (pc := 8) dX11_pairAt_8 ?_
  refine x_ldI (pc := 9) dX11_pairAt_9 (fun v2 => ?_)
  refine x_imul (pc := 10) dX11_pairAt_10 ?_
  refine x_aload_n (pc := 11) dX11_pairAt_11 (i := 0) rfl rfl ?_
  refine x_gR (pc := 12) (k := 0) fcX11 dX11_pairAt_12 q136 (by decide) rfl (fun v3 => ?_)
  refine x_bipush (pc := 15) (v := 10) dX11_pairAt_15 (by decide) ?_
  refine x_iload_n (pc := 17) dX11_pairAt_17 (i := 1) rfl rfl ?_
  refine x_iadd (pc := 18) dX11_pairAt_18 ?_
  refine x_iconst (pc := 19) (v := 1) dX11_pairAt_19 (by decide) ?_
  refine x_iadd (pc := 20) dX11_pairAt_20 ?_
  refine x_ldI (pc := 21) dX11_pairAt_21 (fun v4 => ?_)
  refine x_iadd (pc := 22) dX11_pairAt_22 ?_
  exact x_iret rfl dX11_pairAt_23 rfl rfl
theorem mX11_pairAt (S : mSh) (μ : mMm) (cx cy : Nat) (o : Nat) (p0 : Int32) : mMet MX11_pairAt [.ref o, .int p0] (S, μ, cx, cy) (iPI S μ cx cy) (fX11_pairAt S μ o p0) := mMet.of rfl (by decide) rfl (fun h => by cases h) (Nat.le_of_ble_eq_true rfl) (mX.ck (fun _ => xbX11_pairAt o p0))
/-! SlideMillsModel.longestByPairs(I)I -/
def lX11_longestByPairs_96 (k6 : Nat → Int32 → Int32 → Int32 → Option (Int32)) (S : mSh) (μ : mMm) (x0 : Nat) (x1 : Int32) (x3 : Int32) (t0 : Int32) : Option (Int32) := k6 x0 x1 t0 (x3 + (-1 : Int32))
def lX11_longestByPairs_95 (k6 : Nat → Int32 → Int32 → Int32 → Option (Int32)) (S : mSh) (μ : mMm) (x0 : Nat) (x1 : Int32) (x2 : Int32) (x3 : Int32) : Option (Int32) := lX11_longestByPairs_96 k6 S μ x0 x1 x3 x2
def lX11_longestByPairs_71 (k6 : Nat → Int32 → Int32 → Int32 → Option (Int32)) (S : mSh) (μ : mMm) (x0 : Nat) (x1 : Int32) (x2 : Int32) (x3 : Int32) (t0 : Int32) : Option (Int32) := (gR S x0 11 0).bind fun v5 => (ldI S μ v5 (2 : Int32)).bind fun v6 => if t0 < v6 then (lX11_longestByPairs_95 k6 S μ x0 x1 x2 x3) else (if t0 ≤ x2 then (lX11_longestByPairs_95 k6 S μ x0 x1 x2 x3) else (lX11_longestByPairs_96 k6 S μ x0 x1 x3 t0))
def lX11_longestByPairs_52 (k6 : Nat → Int32 → Int32 → Int32 → Option (Int32)) (S : mSh) (μ : mMm) (x0 : Nat) (x1 : Int32) (x2 : Int32) (x3 : Int32) (t0 : Int32) : Option (Int32) := if t0 = 0 then (lX11_longestByPairs_71 k6 S μ x0 x1 x2 x3 (0 : Int32)) else ((fX11_alike S μ x0 x1 (x1 - x3)).bind fun v7 => lX11_longestByPairs_71 k6 S μ x0 x1 x2 x3 v7)
def lX11_longestByPairs_51 (k6 : Nat → Int32 → Int32 → Int32 → Option (Int32)) (S : mSh) (μ : mMm) (x0 : Nat) (x1 : Int32) (x2 : Int32) (x3 : Int32) : Option (Int32) := lX11_longestByPairs_52 k6 S μ x0 x1 x2 x3 (0 : Int32)
def lX11_longestByPairs_6 (S : mSh) (μ : mMm) : Nat → Nat → Int32 → Int32 → Int32 → Option (Int32)
  | 0, _, _, _, _ => none
  | n + 1, x0, x1, x2, x3 => if x3 < 0 then (some x2) else ((gR S x0 11 0).bind fun v1 => (ldI S μ v1 (0 : Int32)).bind fun v2 => if v2 ≤ (x1 + (1 : Int32)) then (some x2) else ((fX11_pairAt S μ x0 x3).bind fun v3 => (fX11_pairAt S μ x0 x1).bind fun v4 => if v3 = v4 then ((gR S x0 11 0).bind fun v8 => (ldI S μ v8 (1 : Int32)).bind fun v9 => if v9 < (x1 - x3) then (lX11_longestByPairs_51 (lX11_longestByPairs_6 S μ n) S μ x0 x1 x2 x3) else (lX11_longestByPairs_52 (lX11_longestByPairs_6 S μ n) S μ x0 x1 x2 x3 (1 : Int32))) else (lX11_longestByPairs_51 (lX11_longestByPairs_6 S μ n) S μ x0 x1 x2 x3)))
def bX11_longestByPairs (S : mSh) (μ : mMm) (o : Nat) (p0 : Int32) : Option (Int32) := lX11_longestByPairs_6 S μ FU o p0 (0 : Int32) (p0 - (1 : Int32))
def fX11_longestByPairs (S : mSh) (μ : mMm) (o : Nat) (p0 : Int32) : Option (Int32) := if mok S o 11 = true then bX11_longestByPairs S μ o p0 else none
abbrev MX11_longestByPairs : mM := ((yX11_longestByPairs, cX11_longestByPairs, 6, (some .int)), (1, 23), (false, false), RX11, eT)
theorem kX11_longestByPairs : mCalV MX11_longestByPairs RX11 1 := ⟨q999, q1000, q5, q1001, by decide +kernel⟩
set_option maxHeartbeats 4000000 in
theorem xX11_longestByPairs_96 {n0 c0 s0 cx cy : Nat} {S : mSh} {μ : mMm} {k6 : Nat → Int32 → Int32 → Int32 → Option (Int32)} (hk6 : ∀ (x0 : Nat) (x1 : Int32) (x2 : Int32) (x3 : Int32) (d4 : Option Value) (d5 : Option Value), mX MX11_longestByPairs n0 c0 s0 6 [some (.ref x0), some (.int x1), some (.int x2), some (.int x3), d4, d5] [] (S, μ, cx, cy) (iPI S μ cx cy) (k6 x0 x1 x2 x3)) (x0 : Nat) (x1 : Int32) (x3 : Int32) (t0 : Int32) (d2 : Option Value) (d4 : Option Value) (d5 : Option Value) : mX MX11_longestByPairs n0 c0 s0 96 [some (.ref x0), some (.int x1), d2, some (.int x3), d4, d5] [.int t0] (S, μ, cx, cy) (iPI S μ cx cy) (lX11_longestByPairs_96 k6 S μ x0 x1 x3 t0) := by
  unfold lX11_longestByPairs_96
  refine x_istore_n (pc := 96) dX11_longestByPairs_96 (i := 2) rfl (by decide) (l' := [some (.ref x0), some (.int x1), some (.int t0), some (.int x3), d4, d5]) rfl ?_
  refine x_iinc (pc := 97) (v := x3 + (-1 : Int32)) dX11_longestByPairs_97 rfl (by rw [show Int32.ofInt (-1) = (-1 : Int32) from by decide]) (by decide) (l' := [some (.ref x0), some (.int x1), some (.int t0), some (.int (x3 + (-1 : Int32))), d4, d5]) rfl ?_
  refine x_goto (pc := 100) (tgt := 6) dX11_longestByPairs_100 (by decide) ?_
  exact hk6 x0 x1 t0 (x3 + (-1 : Int32)) _ _
set_option maxHeartbeats 4000000 in
theorem xX11_longestByPairs_95 {n0 c0 s0 cx cy : Nat} {S : mSh} {μ : mMm} {k6 : Nat → Int32 → Int32 → Int32 → Option (Int32)} (hk6 : ∀ (x0 : Nat) (x1 : Int32) (x2 : Int32) (x3 : Int32) (d4 : Option Value) (d5 : Option Value), mX MX11_longestByPairs n0 c0 s0 6 [some (.ref x0), some (.int x1), some (.int x2), some (.int x3), d4, d5] [] (S, μ, cx, cy) (iPI S μ cx cy) (k6 x0 x1 x2 x3)) (x0 : Nat) (x1 : Int32) (x2 : Int32) (x3 : Int32) (d4 : Option Value) (d5 : Option Value) : mX MX11_longestByPairs n0 c0 s0 95 [some (.ref x0), some (.int x1), some (.int x2), some (.int x3), d4, d5] [] (S, μ, cx, cy) (iPI S μ cx cy) (lX11_longestByPairs_95 k6 S μ x0 x1 x2 x3) := by
  unfold lX11_longestByPairs_95
  refine x_iload_n (pc := 95) dX11_longestByPairs_95 (i := 2) rfl rfl ?_
  exact xX11_longestByPairs_96 (k6 := k6) hk6 x0 x1 x3 x2 _ _ _
set_option maxHeartbeats 4000000 in
theorem xX11_longestByPairs_71 {n0 c0 s0 cx cy : Nat} {S : mSh} {μ : mMm} {k6 : Nat → Int32 → Int32 → Int32 → Option (Int32)} (hk6 : ∀ (x0 : Nat) (x1 : Int32) (x2 : Int32) (x3 : Int32) (d4 : Option Value) (d5 : Option Value), mX MX11_longestByPairs n0 c0 s0 6 [some (.ref x0), some (.int x1), some (.int x2), some (.int x3), d4, d5] [] (S, μ, cx, cy) (iPI S μ cx cy) (k6 x0 x1 x2 x3)) (x0 : Nat) (x1 : Int32) (x2 : Int32) (x3 : Int32) (t0 : Int32) (d4 : Option Value) (d5 : Option Value) : mX MX11_longestByPairs n0 c0 s0 71 [some (.ref x0), some (.int x1), some (.int x2), some (.int x3), d4, d5] [.int t0] (S, μ, cx, cy) (iPI S μ cx cy) (lX11_longestByPairs_71 k6 S μ x0 x1 x2 x3 t0) := by
  unfold lX11_longestByPairs_71
  refine x_istore (pc := 71) dX11_longestByPairs_71 (by decide) (l' := [some (.ref x0), some (.int x1), some (.int x2), some (.int x3), (kl d4), some (.int t0)]) rfl ?_
  refine x_iload (pc := 73) dX11_longestByPairs_73 rfl ?_
  refine x_aload_n (pc := 75) dX11_longestByPairs_75 (i := 0) rfl rfl ?_
  refine x_gR (pc := 76) (k := 0) fcX11 dX11_longestByPairs_76 q136 (by decide) rfl (fun v5 => ?_)
  refine x_iconst (pc := 79) (v := 2) dX11_longestByPairs_79 (by decide) ?_
  refine x_ldI (pc := 80) dX11_longestByPairs_80 (fun v6 => ?_)
  refine x_icmp_lt (pc := 81) (tgt := 95) dX11_longestByPairs_81 (by decide) ?_ ?_
  · exact xX11_longestByPairs_95 (k6 := k6) hk6 x0 x1 x2 x3 _ _
  · refine x_iload (pc := 84) dX11_longestByPairs_84 rfl ?_
    refine x_iload_n (pc := 86) dX11_longestByPairs_86 (i := 2) rfl rfl ?_
    refine x_icmp_le (pc := 87) (tgt := 95) dX11_longestByPairs_87 (by decide) ?_ ?_
    · exact xX11_longestByPairs_95 (k6 := k6) hk6 x0 x1 x2 x3 _ _
    · refine x_iload (pc := 90) dX11_longestByPairs_90 rfl ?_
      refine x_goto (pc := 92) (tgt := 96) dX11_longestByPairs_92 (by decide) ?_
      exact xX11_longestByPairs_96 (k6 := k6) hk6 x0 x1 x3 t0 _ _ _
set_option maxHeartbeats 4000000 in
theorem xX11_longestByPairs_52 {n0 c0 s0 cx cy : Nat} {S : mSh} {μ : mMm} {k6 : Nat → Int32 → Int32 → Int32 → Option (Int32)} (hk6 : ∀ (x0 : Nat) (x1 : Int32) (x2 : Int32) (x3 : Int32) (d4 : Option Value) (d5 : Option Value), mX MX11_longestByPairs n0 c0 s0 6 [some (.ref x0), some (.int x1), some (.int x2), some (.int x3), d4, d5] [] (S, μ, cx, cy) (iPI S μ cx cy) (k6 x0 x1 x2 x3)) (x0 : Nat) (x1 : Int32) (x2 : Int32) (x3 : Int32) (t0 : Int32) (d4 : Option Value) (d5 : Option Value) : mX MX11_longestByPairs n0 c0 s0 52 [some (.ref x0), some (.int x1), some (.int x2), some (.int x3), d4, d5] [.int t0] (S, μ, cx, cy) (iPI S μ cx cy) (lX11_longestByPairs_52 k6 S μ x0 x1 x2 x3 t0) := by
  unfold lX11_longestByPairs_52
  refine x_istore (pc := 52) dX11_longestByPairs_52 (by decide) (l' := [some (.ref x0), some (.int x1), some (.int x2), some (.int x3), some (.int t0), d5]) rfl ?_
  refine x_iload (pc := 54) dX11_longestByPairs_54 rfl ?_
  refine x_if_eq (pc := 56) (tgt := 70) dX11_longestByPairs_56 (by decide) ?_ ?_
  · refine x_iconst (pc := 70) (v := 0) dX11_longestByPairs_70 (by decide) ?_
    exact xX11_longestByPairs_71 (k6 := k6) hk6 x0 x1 x2 x3 (0 : Int32) _ _
  · refine x_aload_n (pc := 59) dX11_longestByPairs_59 (i := 0) rfl rfl ?_
    refine x_iload_n (pc := 60) dX11_longestByPairs_60 (i := 1) rfl rfl ?_
    refine x_iload_n (pc := 61) dX11_longestByPairs_61 (i := 1) rfl rfl ?_
    refine x_iload_n (pc := 62) dX11_longestByPairs_62 (i := 3) rfl rfl ?_
    refine x_isub (pc := 63) dX11_longestByPairs_63 ?_
    refine x_callVi (pc := 64) (As := [.int x1, .int (x1 - x3)]) (rest := []) (vx := fun a => a) (μf := fun _ => μ) fcX11 (mX11_alike S μ cx cy x0 x1 (x1 - x3)) (fun _ => rfl) rfl (fun _ h => ifok h) dX11_longestByPairs_64 q440 kX11_alike rfl ⟨by decide, by decide⟩ rfl (Nat.le_of_ble_eq_true rfl) (fun v7 => ?_)
    refine x_goto (pc := 67) (tgt := 71) dX11_longestByPairs_67 (by decide) ?_
    exact xX11_longestByPairs_71 (k6 := k6) hk6 x0 x1 x2 x3 v7 _ _
set_option maxHeartbeats 4000000 in
theorem xX11_longestByPairs_51 {n0 c0 s0 cx cy : Nat} {S : mSh} {μ : mMm} {k6 : Nat → Int32 → Int32 → Int32 → Option (Int32)} (hk6 : ∀ (x0 : Nat) (x1 : Int32) (x2 : Int32) (x3 : Int32) (d4 : Option Value) (d5 : Option Value), mX MX11_longestByPairs n0 c0 s0 6 [some (.ref x0), some (.int x1), some (.int x2), some (.int x3), d4, d5] [] (S, μ, cx, cy) (iPI S μ cx cy) (k6 x0 x1 x2 x3)) (x0 : Nat) (x1 : Int32) (x2 : Int32) (x3 : Int32) (d4 : Option Value) (d5 : Option Value) : mX MX11_longestByPairs n0 c0 s0 51 [some (.ref x0), some (.int x1), some (.int x2), some (.int x3), d4, d5] [] (S, μ, cx, cy) (iPI S μ cx cy) (lX11_longestByPairs_51 k6 S μ x0 x1 x2 x3) := by
  unfold lX11_longestByPairs_51
  refine x_iconst (pc := 51) (v := 0) dX11_longestByPairs_51 (by decide) ?_
  exact xX11_longestByPairs_52 (k6 := k6) hk6 x0 x1 x2 x3 (0 : Int32) _ _
set_option maxHeartbeats 4000000 in
theorem xX11_longestByPairs_6 {n0 c0 s0 cx cy : Nat} {S : mSh} {μ : mMm} : ∀ (n : Nat) (x0 : Nat) (x1 : Int32) (x2 : Int32) (x3 : Int32) (d4 : Option Value) (d5 : Option Value), mX MX11_longestByPairs n0 c0 s0 6 [some (.ref x0), some (.int x1), some (.int x2), some (.int x3), d4, d5] [] (S, μ, cx, cy) (iPI S μ cx cy) (lX11_longestByPairs_6 S μ n x0 x1 x2 x3) := by
  intro n
  induction n with
  | zero => intros; exact x_none
  | succ n ih =>
    intro x0 x1 x2 x3 d4 d5
    unfold lX11_longestByPairs_6
    refine x_iload_n (pc := 6) dX11_longestByPairs_6 (i := 3) rfl rfl ?_
    refine x_if_lt (pc := 7) (tgt := 103) dX11_longestByPairs_7 (by decide) ?_ ?_
    · refine x_iload_n (pc := 103) dX11_longestByPairs_103 (i := 2) rfl rfl ?_
      exact x_iret rfl dX11_longestByPairs_104 rfl rfl
    · refine x_iload_n (pc := 10) dX11_longestByPairs_10 (i := 1) rfl rfl ?_
      refine x_iconst (pc := 11) (v := 1) dX11_longestByPairs_11 (by decide) ?_
      refine x_iadd (pc := 12) dX11_longestByPairs_12 ?_
      refine x_aload_n (pc := 13) dX11_longestByPairs_13 (i := 0) rfl rfl ?_
      refine x_gR (pc := 14) (k := 0) fcX11 dX11_longestByPairs_14 q136 (by decide) rfl (fun v1 => ?_)
      refine x_iconst (pc := 17) (v := 0) dX11_longestByPairs_17 (by decide) ?_
      refine x_ldI (pc := 18) dX11_longestByPairs_18 (fun v2 => ?_)
      refine x_icmp_ge (pc := 19) (tgt := 103) dX11_longestByPairs_19 (by decide) ?_ ?_
      · refine x_iload_n (pc := 103) dX11_longestByPairs_103 (i := 2) rfl rfl ?_
        exact x_iret rfl dX11_longestByPairs_104 rfl rfl
      · refine x_aload_n (pc := 22) dX11_longestByPairs_22 (i := 0) rfl rfl ?_
        refine x_iload_n (pc := 23) dX11_longestByPairs_23 (i := 3) rfl rfl ?_
        refine x_callVi (pc := 24) (As := [.int x3]) (rest := []) (vx := fun a => a) (μf := fun _ => μ) fcX11 (mX11_pairAt S μ cx cy x0 x3) (fun _ => rfl) rfl (fun _ h => ifok h) dX11_longestByPairs_24 q1002 kX11_pairAt rfl ⟨by decide, by decide⟩ rfl (Nat.le_of_ble_eq_true rfl) (fun v3 => ?_)
        refine x_aload_n (pc := 27) dX11_longestByPairs_27 (i := 0) rfl rfl ?_
        refine x_iload_n (pc := 28) dX11_longestByPairs_28 (i := 1) rfl rfl ?_
        refine x_callVi (pc := 29) (As := [.int x1]) (rest := [.int v3]) (vx := fun a => a) (μf := fun _ => μ) fcX11 (mX11_pairAt S μ cx cy x0 x1) (fun _ => rfl) rfl (fun _ h => ifok h) dX11_longestByPairs_29 q1002 kX11_pairAt rfl ⟨by decide, by decide⟩ rfl (Nat.le_of_ble_eq_true rfl) (fun v4 => ?_)
        refine x_icmp_ne (pc := 32) (tgt := 51) dX11_longestByPairs_32 (by decide) ?_ ?_
        · refine x_iload_n (pc := 35) dX11_longestByPairs_35 (i := 1) rfl rfl ?_
          refine x_iload_n (pc := 36) dX11_longestByPairs_36 (i := 3) rfl rfl ?_
          refine x_isub (pc := 37) dX11_longestByPairs_37 ?_
          refine x_aload_n (pc := 38) dX11_longestByPairs_38 (i := 0) rfl rfl ?_
          refine x_gR (pc := 39) (k := 0) fcX11 dX11_longestByPairs_39 q136 (by decide) rfl (fun v8 => ?_)
          refine x_iconst (pc := 42) (v := 1) dX11_longestByPairs_42 (by decide) ?_
          refine x_ldI (pc := 43) dX11_longestByPairs_43 (fun v9 => ?_)
          refine x_icmp_gt (pc := 44) (tgt := 51) dX11_longestByPairs_44 (by decide) ?_ ?_
          · exact xX11_longestByPairs_51 (k6 := (lX11_longestByPairs_6 S μ n)) ih x0 x1 x2 x3 _ _
          · refine x_iconst (pc := 47) (v := 1) dX11_longestByPairs_47 (by decide) ?_
            refine x_goto (pc := 48) (tgt := 52) dX11_longestByPairs_48 (by decide) ?_
            exact xX11_longestByPairs_52 (k6 := (lX11_longestByPairs_6 S μ n)) ih x0 x1 x2 x3 (1 : Int32) _ _
        · exact xX11_longestByPairs_51 (k6 := (lX11_longestByPairs_6 S μ n)) ih x0 x1 x2 x3 _ _
set_option maxHeartbeats 4000000 in
theorem xbX11_longestByPairs {n0 c0 s0 cx cy : Nat} {S : mSh} {μ : mMm} (o : Nat) (p0 : Int32) : mX MX11_longestByPairs n0 c0 s0 0 [some (.ref o), some (.int p0), none, none, none, none] [] (S, μ, cx, cy) (iPI S μ cx cy) (bX11_longestByPairs S μ o p0) := by
  unfold bX11_longestByPairs
  refine x_iconst (pc := 0) (v := 0) dX11_longestByPairs_0 (by decide) ?_
  refine x_istore_n (pc := 1) dX11_longestByPairs_1 (i := 2) rfl (by decide) (l' := [some (.ref o), some (.int p0), some (.int (0 : Int32)), none, none, none]) rfl ?_
  refine x_iload_n (pc := 2) dX11_longestByPairs_2 (i := 1) rfl rfl ?_
  refine x_iconst (pc := 3) (v := 1) dX11_longestByPairs_3 (by decide) ?_
  refine x_isub (pc := 4) dX11_longestByPairs_4 ?_
  refine x_istore_n (pc := 5) dX11_longestByPairs_5 (i := 3) rfl (by decide) (l' := [some (.ref o), some (.int p0), some (.int (0 : Int32)), some (.int (p0 - (1 : Int32))), none, none]) rfl ?_
  exact xX11_longestByPairs_6 FU o p0 (0 : Int32) (p0 - (1 : Int32)) _ _
theorem mX11_longestByPairs (S : mSh) (μ : mMm) (cx cy : Nat) (o : Nat) (p0 : Int32) : mMet MX11_longestByPairs [.ref o, .int p0] (S, μ, cx, cy) (iPI S μ cx cy) (fX11_longestByPairs S μ o p0) := mMet.of rfl (by decide) rfl (fun h => by cases h) (Nat.le_of_ble_eq_true rfl) (mX.ck (fun _ => xbX11_longestByPairs o p0))
/-! SlideMillsModel.costsToEnd(I)V -/
def lX11_costsToEnd_112 (k21 : mMm → Nat → Int32 → Int32 → Option (mMm)) (k61 : mMm → Nat → Int32 → Int32 → Int32 → Int32 → Option (mMm)) (S : mSh) (μ : mMm) (x0 : Nat) (x1 : Int32) (x2 : Int32) (x3 : Int32) (x4 : Int32) (t0 : Int32) (t1 : Int32) (t2 : Nat) : Option (mMm) := (stI S μ t2 t1 t0).bind fun m25 => k61 m25 x0 x1 x2 x3 (x4 + (1 : Int32))
def lX11_costsToEnd_61 (k21 : mMm → Nat → Int32 → Int32 → Option (mMm)) (S : mSh) : Nat → mMm → Nat → Int32 → Int32 → Int32 → Int32 → Option (mMm)
  | 0, _, _, _, _, _, _ => none
  | n + 1, μ, x0, x1, x2, x3, x4 => if x3 < x4 then (k21 μ x0 x1 (x2 + (-1 : Int32))) else ((gR S x0 11 0).bind fun v16 => (ldI S μ v16 (5 : Int32)).bind fun v17 => (gR S x0 11 7).bind fun v18 => (ldI S μ v18 (x2 + x4)).bind fun v19 => (gR S x0 11 7).bind fun v20 => (gR S x0 11 7).bind fun v21 => (ldI S μ v21 x2).bind fun v22 => if v22 ≤ (v17 + v19) then ((gR S x0 11 7).bind fun v23 => (ldI S μ v23 x2).bind fun v24 => lX11_costsToEnd_112 k21 (lX11_costsToEnd_61 k21 S n) S μ x0 x1 x2 x3 x4 v24 x2 v20) else (lX11_costsToEnd_112 k21 (lX11_costsToEnd_61 k21 S n) S μ x0 x1 x2 x3 x4 (v17 + v19) x2 v20))
def lX11_costsToEnd_21 (S : mSh) : Nat → mMm → Nat → Int32 → Int32 → Option (mMm)
  | 0, _, _, _, _ => none
  | n + 1, μ, x0, x1, x2 => if x2 < 0 then (some μ) else ((gR S x0 11 7).bind fun v7 => (gR S x0 11 0).bind fun v8 => (ldI S μ v8 (4 : Int32)).bind fun v9 => (gR S x0 11 7).bind fun v10 => (ldI S μ v10 (x2 + (1 : Int32))).bind fun v11 => (stI S μ v7 x2 (v9 + v11)).bind fun m12 => (fX11_longestAt S m12 x0 x2 x1).bind fun v13 => (gR S x0 11 0).bind fun v14 => (ldI S m12 v14 (2 : Int32)).bind fun v15 => lX11_costsToEnd_61 (lX11_costsToEnd_21 S n) S FU m12 x0 x1 x2 v13 v15)
def bX11_costsToEnd (S : mSh) (μ : mMm) (o : Nat) (p0 : Int32) : Option (mMm) := (gR S o 11 7).bind fun v1 => (gR S o 11 0).bind fun v2 => (ldI S μ v2 (0 : Int32)).bind fun v3 => (stI S μ v1 v3 (0 : Int32)).bind fun m4 => (gR S o 11 0).bind fun v5 => (ldI S m4 v5 (0 : Int32)).bind fun v6 => lX11_costsToEnd_21 S FU m4 o p0 (v6 - (1 : Int32))
def fX11_costsToEnd (S : mSh) (μ : mMm) (o : Nat) (p0 : Int32) : Option (mMm) := if mok S o 11 = true then bX11_costsToEnd S μ o p0 else none
abbrev MX11_costsToEnd : mM := ((yX11_costsToEnd, cX11_costsToEnd, 6, none), (2, 48), (false, false), RX11, eT)
theorem kX11_costsToEnd : mCalV MX11_costsToEnd RX11 1 := ⟨q433, q434, q5, q435, by decide +kernel⟩
set_option maxHeartbeats 4000000 in
theorem xX11_costsToEnd_112 {n0 c0 s0 cx cy : Nat} {S : mSh} {k21 : mMm → Nat → Int32 → Int32 → Option (mMm)} {k61 : mMm → Nat → Int32 → Int32 → Int32 → Int32 → Option (mMm)} (hk21 : ∀ (μ : mMm) (x0 : Nat) (x1 : Int32) (x2 : Int32) (d3 : Option Value) (d4 : Option Value) (d5 : Option Value), mX MX11_costsToEnd n0 c0 s0 21 [some (.ref x0), some (.int x1), some (.int x2), d3, d4, d5] [] (S, μ, cx, cy) (iMV S cx cy) (k21 μ x0 x1 x2)) (hk61 : ∀ (μ : mMm) (x0 : Nat) (x1 : Int32) (x2 : Int32) (x3 : Int32) (x4 : Int32) (d5 : Option Value), mX MX11_costsToEnd n0 c0 s0 61 [some (.ref x0), some (.int x1), some (.int x2), some (.int x3), some (.int x4), d5] [] (S, μ, cx, cy) (iMV S cx cy) (k61 μ x0 x1 x2 x3 x4)) (μ : mMm) (x0 : Nat) (x1 : Int32) (x2 : Int32) (x3 : Int32) (x4 : Int32) (t0 : Int32) (t1 : Int32) (t2 : Nat) (d5 : Option Value) : mX MX11_costsToEnd n0 c0 s0 112 [some (.ref x0), some (.int x1), some (.int x2), some (.int x3), some (.int x4), d5] [.int t0, .int t1, .ref t2] (S, μ, cx, cy) (iMV S cx cy) (lX11_costsToEnd_112 k21 k61 S μ x0 x1 x2 x3 x4 t0 t1 t2) := by
  unfold lX11_costsToEnd_112
  refine x_stI (pc := 112) dX11_costsToEnd_112 (fun m25 => ?_)
  refine x_iinc (pc := 113) (v := x4 + (1 : Int32)) dX11_costsToEnd_113 rfl (by rw [show Int32.ofInt (1) = (1 : Int32) from by decide]) (by decide) (l' := [some (.ref x0), some (.int x1), some (.int x2), some (.int x3), some (.int (x4 + (1 : Int32))), d5]) rfl ?_
  refine x_goto (pc := 116) (tgt := 61) dX11_costsToEnd_116 (by decide) ?_
  exact hk61 m25 x0 x1 x2 x3 (x4 + (1 : Int32)) _
set_option maxHeartbeats 4000000 in
theorem xX11_costsToEnd_61 {n0 c0 s0 cx cy : Nat} {S : mSh} {k21 : mMm → Nat → Int32 → Int32 → Option (mMm)} (hk21 : ∀ (μ : mMm) (x0 : Nat) (x1 : Int32) (x2 : Int32) (d3 : Option Value) (d4 : Option Value) (d5 : Option Value), mX MX11_costsToEnd n0 c0 s0 21 [some (.ref x0), some (.int x1), some (.int x2), d3, d4, d5] [] (S, μ, cx, cy) (iMV S cx cy) (k21 μ x0 x1 x2)) : ∀ (n : Nat) (μ : mMm) (x0 : Nat) (x1 : Int32) (x2 : Int32) (x3 : Int32) (x4 : Int32) (d5 : Option Value), mX MX11_costsToEnd n0 c0 s0 61 [some (.ref x0), some (.int x1), some (.int x2), some (.int x3), some (.int x4), d5] [] (S, μ, cx, cy) (iMV S cx cy) (lX11_costsToEnd_61 k21 S n μ x0 x1 x2 x3 x4) := by
  intro n
  induction n with
  | zero => intros; exact x_none
  | succ n ih =>
    intro μ x0 x1 x2 x3 x4 d5
    unfold lX11_costsToEnd_61
    refine x_iload (pc := 61) dX11_costsToEnd_61 rfl ?_
    refine x_iload_n (pc := 63) dX11_costsToEnd_63 (i := 3) rfl rfl ?_
    refine x_icmp_gt (pc := 64) (tgt := 119) dX11_costsToEnd_64 (by decide) ?_ ?_
    · refine x_iinc (pc := 119) (v := x2 + (-1 : Int32)) dX11_costsToEnd_119 rfl (by rw [show Int32.ofInt (-1) = (-1 : Int32) from by decide]) (by decide) (l' := [some (.ref x0), some (.int x1), some (.int (x2 + (-1 : Int32))), some (.int x3), some (.int x4), d5]) rfl ?_
      refine x_goto (pc := 122) (tgt := 21) dX11_costsToEnd_122 (by decide) ?_
      exact hk21 μ x0 x1 (x2 + (-1 : Int32)) _ _ _
    · refine x_aload_n (pc := 67) dX11_costsToEnd_67 (i := 0) rfl rfl ?_
      refine x_gR (pc := 68) (k := 0) fcX11 dX11_costsToEnd_68 q136 (by decide) rfl (fun v16 => ?_)
      refine x_iconst (pc := 71) (v := 5) dX11_costsToEnd_71 (by decide) ?_
      refine x_ldI (pc := 72) dX11_costsToEnd_72 (fun v17 => ?_)
      refine x_aload_n (pc := 73) dX11_costsToEnd_73 (i := 0) rfl rfl ?_
      refine x_gR (pc := 74) (k := 7) fcX11 dX11_costsToEnd_74 q140 (by decide) rfl (fun v18 => ?_)
      refine x_iload_n (pc := 77) dX11_costsToEnd_77 (i := 2) rfl rfl ?_
      refine x_iload (pc := 78) dX11_costsToEnd_78 rfl ?_
      refine x_iadd (pc := 80) dX11_costsToEnd_80 ?_
      refine x_ldI (pc := 81) dX11_costsToEnd_81 (fun v19 => ?_)
      refine x_iadd (pc := 82) dX11_costsToEnd_82 ?_
      refine x_istore (pc := 83) dX11_costsToEnd_83 (by decide) (l' := [some (.ref x0), some (.int x1), some (.int x2), some (.int x3), some (.int x4), some (.int (v17 + v19))]) rfl ?_
      refine x_aload_n (pc := 85) dX11_costsToEnd_85 (i := 0) rfl rfl ?_
      refine x_gR (pc := 86) (k := 7) fcX11 dX11_costsToEnd_86 q140 (by decide) rfl (fun v20 => ?_)
      refine x_iload_n (pc := 89) dX11_costsToEnd_89 (i := 2) rfl rfl ?_
      refine x_iload (pc := 90) dX11_costsToEnd_90 rfl ?_
      refine x_aload_n (pc := 92) dX11_costsToEnd_92 (i := 0) rfl rfl ?_
      refine x_gR (pc := 93) (k := 7) fcX11 dX11_costsToEnd_93 q140 (by decide) rfl (fun v21 => ?_)
      refine x_iload_n (pc := 96) dX11_costsToEnd_96 (i := 2) rfl rfl ?_
      refine x_ldI (pc := 97) dX11_costsToEnd_97 (fun v22 => ?_)
      refine x_icmp_ge (pc := 98) (tgt := 106) dX11_costsToEnd_98 (by decide) ?_ ?_
      · refine x_aload_n (pc := 106) dX11_costsToEnd_106 (i := 0) rfl rfl ?_
        refine x_gR (pc := 107) (k := 7) fcX11 dX11_costsToEnd_107 q140 (by decide) rfl (fun v23 => ?_)
        refine x_iload_n (pc := 110) dX11_costsToEnd_110 (i := 2) rfl rfl ?_
        refine x_ldI (pc := 111) dX11_costsToEnd_111 (fun v24 => ?_)
        exact xX11_costsToEnd_112 (k21 := k21) (k61 := (lX11_costsToEnd_61 k21 S n)) hk21 ih μ x0 x1 x2 x3 x4 v24 x2 v20 _
      · refine x_iload (pc := 101) dX11_costsToEnd_101 rfl ?_
        refine x_goto (pc := 103) (tgt := 112) dX11_costsToEnd_103 (by decide) ?_
        exact xX11_costsToEnd_112 (k21 := k21) (k61 := (lX11_costsToEnd_61 k21 S n)) hk21 ih μ x0 x1 x2 x3 x4 (v17 + v19) x2 v20 _
set_option maxHeartbeats 4000000 in
theorem xX11_costsToEnd_21 {n0 c0 s0 cx cy : Nat} {S : mSh} : ∀ (n : Nat) (μ : mMm) (x0 : Nat) (x1 : Int32) (x2 : Int32) (d3 : Option Value) (d4 : Option Value) (d5 : Option Value), mX MX11_costsToEnd n0 c0 s0 21 [some (.ref x0), some (.int x1), some (.int x2), d3, d4, d5] [] (S, μ, cx, cy) (iMV S cx cy) (lX11_costsToEnd_21 S n μ x0 x1 x2) := by
  intro n
  induction n with
  | zero => intros; exact x_none
  | succ n ih =>
    intro μ x0 x1 x2 d3 d4 d5
    unfold lX11_costsToEnd_21
    refine x_iload_n (pc := 21) dX11_costsToEnd_21 (i := 2) rfl rfl ?_
    refine x_if_lt (pc := 22) (tgt := 125) dX11_costsToEnd_22 (by decide) ?_ ?_
    · exact x_ret rfl dX11_costsToEnd_125 rfl
    · refine x_aload_n (pc := 25) dX11_costsToEnd_25 (i := 0) rfl rfl ?_
      refine x_gR (pc := 26) (k := 7) fcX11 dX11_costsToEnd_26 q140 (by decide) rfl (fun v7 => ?_)
      refine x_iload_n (pc := 29) dX11_costsToEnd_29 (i := 2) rfl rfl ?_
      refine x_aload_n (pc := 30) dX11_costsToEnd_30 (i := 0) rfl rfl ?_
      refine x_gR (pc := 31) (k := 0) fcX11 dX11_costsToEnd_31 q136 (by decide) rfl (fun v8 => ?_)
      refine x_iconst (pc := 34) (v := 4) dX11_costsToEnd_34 (by decide) ?_
      refine x_ldI (pc := 35) dX11_costsToEnd_35 (fun v9 => ?_)
      refine x_aload_n (pc := 36) dX11_costsToEnd_36 (i := 0) rfl rfl ?_
      refine x_gR (pc := 37) (k := 7) fcX11 dX11_costsToEnd_37 q140 (by decide) rfl (fun v10 => ?_)
      refine x_iload_n (pc := 40) dX11_costsToEnd_40 (i := 2) rfl rfl ?_
      refine x_iconst (pc := 41) (v := 1) dX11_costsToEnd_41 (by decide) ?_
      refine x_iadd (pc := 42) dX11_costsToEnd_42 ?_
      refine x_ldI (pc := 43) dX11_costsToEnd_43 (fun v11 => ?_)
      refine x_iadd (pc := 44) dX11_costsToEnd_44 ?_
      refine x_stI (pc := 45) dX11_costsToEnd_45 (fun m12 => ?_)
      refine x_aload_n (pc := 46) dX11_costsToEnd_46 (i := 0) rfl rfl ?_
      refine x_iload_n (pc := 47) dX11_costsToEnd_47 (i := 2) rfl rfl ?_
      refine x_iload_n (pc := 48) dX11_costsToEnd_48 (i := 1) rfl rfl ?_
      refine x_callVi (pc := 49) (As := [.int x2, .int x1]) (rest := []) (vx := fun a => a) (μf := fun _ => m12) fcX11 (mX11_longestAt S m12 cx cy x0 x2 x1) (fun _ => rfl) rfl (fun _ h => ifok h) dX11_costsToEnd_49 q436 kX11_longestAt rfl ⟨by decide, by decide⟩ rfl (Nat.le_of_ble_eq_true rfl) (fun v13 => ?_)
      refine x_istore_n (pc := 52) dX11_costsToEnd_52 (i := 3) rfl (by decide) (l' := [some (.ref x0), some (.int x1), some (.int x2), some (.int v13), d4, d5]) rfl ?_
      refine x_aload_n (pc := 53) dX11_costsToEnd_53 (i := 0) rfl rfl ?_
      refine x_gR (pc := 54) (k := 0) fcX11 dX11_costsToEnd_54 q136 (by decide) rfl (fun v14 => ?_)
      refine x_iconst (pc := 57) (v := 2) dX11_costsToEnd_57 (by decide) ?_
      refine x_ldI (pc := 58) dX11_costsToEnd_58 (fun v15 => ?_)
      refine x_istore (pc := 59) dX11_costsToEnd_59 (by decide) (l' := [some (.ref x0), some (.int x1), some (.int x2), some (.int v13), some (.int v15), d5]) rfl ?_
      exact xX11_costsToEnd_61 (k21 := (lX11_costsToEnd_21 S n)) ih FU m12 x0 x1 x2 v13 v15 _
set_option maxHeartbeats 4000000 in
theorem xbX11_costsToEnd {n0 c0 s0 cx cy : Nat} {S : mSh} {μ : mMm} (o : Nat) (p0 : Int32) : mX MX11_costsToEnd n0 c0 s0 0 [some (.ref o), some (.int p0), none, none, none, none] [] (S, μ, cx, cy) (iMV S cx cy) (bX11_costsToEnd S μ o p0) := by
  unfold bX11_costsToEnd
  refine x_aload_n (pc := 0) dX11_costsToEnd_0 (i := 0) rfl rfl ?_
  refine x_gR (pc := 1) (k := 7) fcX11 dX11_costsToEnd_1 q140 (by decide) rfl (fun v1 => ?_)
  refine x_aload_n (pc := 4) dX11_costsToEnd_4 (i := 0) rfl rfl ?_
  refine x_gR (pc := 5) (k := 0) fcX11 dX11_costsToEnd_5 q136 (by decide) rfl (fun v2 => ?_)
  refine x_iconst (pc := 8) (v := 0) dX11_costsToEnd_8 (by decide) ?_
  refine x_ldI (pc := 9) dX11_costsToEnd_9 (fun v3 => ?_)
  refine x_iconst (pc := 10) (v := 0) dX11_costsToEnd_10 (by decide) ?_
  refine x_stI (pc := 11) dX11_costsToEnd_11 (fun m4 => ?_)
  refine x_aload_n (pc := 12) dX11_costsToEnd_12 (i := 0) rfl rfl ?_
  refine x_gR (pc := 13) (k := 0) fcX11 dX11_costsToEnd_13 q136 (by decide) rfl (fun v5 => ?_)
  refine x_iconst (pc := 16) (v := 0) dX11_costsToEnd_16 (by decide) ?_
  refine x_ldI (pc := 17) dX11_costsToEnd_17 (fun v6 => ?_)
  refine x_iconst (pc := 18) (v := 1) dX11_costsToEnd_18 (by decide) ?_
  refine x_isub (pc := 19) dX11_costsToEnd_19 ?_
  refine x_istore_n (pc := 20) dX11_costsToEnd_20 (i := 2) rfl (by decide) (l' := [some (.ref o), some (.int p0), some (.int (v6 - (1 : Int32))), none, none, none]) rfl ?_
  exact xX11_costsToEnd_21 FU m4 o p0 (v6 - (1 : Int32)) _ _ _
theorem mX11_costsToEnd (S : mSh) (μ : mMm) (cx cy : Nat) (o : Nat) (p0 : Int32) : mMet MX11_costsToEnd [.ref o, .int p0] (S, μ, cx, cy) (iMV S cx cy) (fX11_costsToEnd S μ o p0) := mMet.of rfl (by decide) rfl (fun h => by cases h) (Nat.le_of_ble_eq_true rfl) (mX.ck (fun _ => xbX11_costsToEnd o p0))
/-! SlideMillsModel.fromBeginning()I -/
def lX11_fromBeginning_166 (k36 : mMm → Nat → Int32 → Option (Int32 × mMm)) (k112 : mMm → Nat → Int32 → Int32 → Int32 → Option (Int32 × mMm)) (S : mSh) (μ : mMm) (x0 : Nat) (x1 : Int32) (x3 : Int32) (x4 : Int32) (t0 : Int32) (t1 : Int32) (t2 : Nat) : Option (Int32 × mMm) := (stI S μ t2 t1 t0).bind fun m33 => k112 m33 x0 x1 x3 (x4 + (1 : Int32))
def lX11_fromBeginning_112 (k36 : mMm → Nat → Int32 → Option (Int32 × mMm)) (S : mSh) : Nat → mMm → Nat → Int32 → Int32 → Int32 → Option (Int32 × mMm)
  | 0, _, _, _, _, _ => none
  | n + 1, μ, x0, x1, x3, x4 => if x3 < x4 then (k36 μ x0 (x1 + (1 : Int32))) else ((gR S x0 11 7).bind fun v24 => (ldI S μ v24 x1).bind fun v25 => (gR S x0 11 0).bind fun v26 => (ldI S μ v26 (5 : Int32)).bind fun v27 => (gR S x0 11 7).bind fun v28 => (gR S x0 11 7).bind fun v29 => (ldI S μ v29 (x1 + x4)).bind fun v30 => if v30 ≤ (v25 + v27) then ((gR S x0 11 7).bind fun v31 => (ldI S μ v31 (x1 + x4)).bind fun v32 => lX11_fromBeginning_166 k36 (lX11_fromBeginning_112 k36 S n) S μ x0 x1 x3 x4 v32 (x1 + x4) v28) else (lX11_fromBeginning_166 k36 (lX11_fromBeginning_112 k36 S n) S μ x0 x1 x3 x4 (v25 + v27) (x1 + x4) v28))
def lX11_fromBeginning_91 (k36 : mMm → Nat → Int32 → Option (Int32 × mMm)) (S : mSh) (μ : mMm) (x0 : Nat) (x1 : Int32) (t0 : Int32) (t1 : Int32) (t2 : Nat) : Option (Int32 × mMm) := (stI S μ t2 t1 t0).bind fun m18 => (gR S x0 11 0).bind fun v19 => (ldI S m18 v19 (1 : Int32)).bind fun v20 => (fX11_longestAt S m18 x0 x1 v20).bind fun v21 => (gR S x0 11 0).bind fun v22 => (ldI S m18 v22 (2 : Int32)).bind fun v23 => lX11_fromBeginning_112 k36 S FU m18 x0 x1 v21 v23
def lX11_fromBeginning_36 (S : mSh) : Nat → mMm → Nat → Int32 → Option (Int32 × mMm)
  | 0, _, _, _ => none
  | n + 1, μ, x0, x1 => (gR S x0 11 0).bind fun v3 => (ldI S μ v3 (0 : Int32)).bind fun v4 => if v4 ≤ x1 then ((gR S x0 11 7).bind fun v5 => (gR S x0 11 0).bind fun v6 => (ldI S μ v6 (0 : Int32)).bind fun v7 => (ldI S μ v5 v7).bind fun v8 => some (v8, μ)) else ((gR S x0 11 7).bind fun v9 => (ldI S μ v9 x1).bind fun v10 => (gR S x0 11 0).bind fun v11 => (ldI S μ v11 (4 : Int32)).bind fun v12 => (gR S x0 11 7).bind fun v13 => (gR S x0 11 7).bind fun v14 => (ldI S μ v14 (x1 + (1 : Int32))).bind fun v15 => if v15 ≤ (v10 + v12) then ((gR S x0 11 7).bind fun v16 => (ldI S μ v16 (x1 + (1 : Int32))).bind fun v17 => lX11_fromBeginning_91 (lX11_fromBeginning_36 S n) S μ x0 x1 v17 (x1 + (1 : Int32)) v13) else (lX11_fromBeginning_91 (lX11_fromBeginning_36 S n) S μ x0 x1 (v10 + v12) (x1 + (1 : Int32)) v13))
def lX11_fromBeginning_27 (k2 : mMm → Nat → Int32 → Option (Int32 × mMm)) (S : mSh) (μ : mMm) (x0 : Nat) (x1 : Int32) (t0 : Int32) (t1 : Int32) (t2 : Nat) : Option (Int32 × mMm) := (stI S μ t2 t1 t0).bind fun m35 => k2 m35 x0 (x1 + (1 : Int32))
def lX11_fromBeginning_2 (S : mSh) : Nat → mMm → Nat → Int32 → Option (Int32 × mMm)
  | 0, _, _, _ => none
  | n + 1, μ, x0, x1 => (gR S x0 11 0).bind fun v1 => (ldI S μ v1 (0 : Int32)).bind fun v2 => if v2 < x1 then (lX11_fromBeginning_36 S FU μ x0 (0 : Int32)) else ((gR S x0 11 7).bind fun v34 => if x1 = 0 then (lX11_fromBeginning_27 (lX11_fromBeginning_2 S n) S μ x0 x1 (0 : Int32) x1 v34) else (lX11_fromBeginning_27 (lX11_fromBeginning_2 S n) S μ x0 x1 (100000 : Int32) x1 v34))
def bX11_fromBeginning (S : mSh) (μ : mMm) (o : Nat) : Option (Int32 × mMm) := lX11_fromBeginning_2 S FU μ o (0 : Int32)
def fX11_fromBeginning (S : mSh) (μ : mMm) (o : Nat) : Option (Int32 × mMm) := if mok S o 11 = true then bX11_fromBeginning S μ o else none
abbrev MX11_fromBeginning : mM := ((yX11_fromBeginning, cX11_fromBeginning, 5, (some .int)), (2, 48), (false, false), RX11, eT)
theorem kX11_fromBeginning : mCalV MX11_fromBeginning RX11 0 := ⟨q1079, q1080, q5, q1081, by decide +kernel⟩
set_option maxHeartbeats 4000000 in
theorem xX11_fromBeginning_166 {n0 c0 s0 cx cy : Nat} {S : mSh} {k36 : mMm → Nat → Int32 → Option (Int32 × mMm)} {k112 : mMm → Nat → Int32 → Int32 → Int32 → Option (Int32 × mMm)} (hk36 : ∀ (μ : mMm) (x0 : Nat) (x1 : Int32) (d2 : Option Value) (d3 : Option Value) (d4 : Option Value), mX MX11_fromBeginning n0 c0 s0 36 [some (.ref x0), some (.int x1), d2, d3, d4] [] (S, μ, cx, cy) (iMI S cx cy) (k36 μ x0 x1)) (hk112 : ∀ (μ : mMm) (x0 : Nat) (x1 : Int32) (x3 : Int32) (x4 : Int32) (d2 : Option Value), mX MX11_fromBeginning n0 c0 s0 112 [some (.ref x0), some (.int x1), d2, some (.int x3), some (.int x4)] [] (S, μ, cx, cy) (iMI S cx cy) (k112 μ x0 x1 x3 x4)) (μ : mMm) (x0 : Nat) (x1 : Int32) (x3 : Int32) (x4 : Int32) (t0 : Int32) (t1 : Int32) (t2 : Nat) (d2 : Option Value) : mX MX11_fromBeginning n0 c0 s0 166 [some (.ref x0), some (.int x1), d2, some (.int x3), some (.int x4)] [.int t0, .int t1, .ref t2] (S, μ, cx, cy) (iMI S cx cy) (lX11_fromBeginning_166 k36 k112 S μ x0 x1 x3 x4 t0 t1 t2) := by
  unfold lX11_fromBeginning_166
  refine x_stI (pc := 166) dX11_fromBeginning_166 (fun m33 => ?_)
  refine x_iinc (pc := 167) (v := x4 + (1 : Int32)) dX11_fromBeginning_167 rfl (by rw [show Int32.ofInt (1) = (1 : Int32) from by decide]) (by decide) (l' := [some (.ref x0), some (.int x1), d2, some (.int x3), some (.int (x4 + (1 : Int32)))]) rfl ?_
  refine x_goto (pc := 170) (tgt := 112) dX11_fromBeginning_170 (by decide) ?_
  exact hk112 m33 x0 x1 x3 (x4 + (1 : Int32)) _
set_option maxHeartbeats 4000000 in
theorem xX11_fromBeginning_112 {n0 c0 s0 cx cy : Nat} {S : mSh} {k36 : mMm → Nat → Int32 → Option (Int32 × mMm)} (hk36 : ∀ (μ : mMm) (x0 : Nat) (x1 : Int32) (d2 : Option Value) (d3 : Option Value) (d4 : Option Value), mX MX11_fromBeginning n0 c0 s0 36 [some (.ref x0), some (.int x1), d2, d3, d4] [] (S, μ, cx, cy) (iMI S cx cy) (k36 μ x0 x1)) : ∀ (n : Nat) (μ : mMm) (x0 : Nat) (x1 : Int32) (x3 : Int32) (x4 : Int32) (d2 : Option Value), mX MX11_fromBeginning n0 c0 s0 112 [some (.ref x0), some (.int x1), d2, some (.int x3), some (.int x4)] [] (S, μ, cx, cy) (iMI S cx cy) (lX11_fromBeginning_112 k36 S n μ x0 x1 x3 x4) := by
  intro n
  induction n with
  | zero => intros; exact x_none
  | succ n ih =>
    intro μ x0 x1 x3 x4 d2
    unfold lX11_fromBeginning_112
    refine x_iload (pc := 112) dX11_fromBeginning_112 rfl ?_
    refine x_iload_n (pc := 114) dX11_fromBeginning_114 (i := 3) rfl rfl ?_
    refine x_icmp_gt (pc := 115) (tgt := 173) dX11_fromBeginning_115 (by decide) ?_ ?_
    · refine x_iinc (pc := 173) (v := x1 + (1 : Int32)) dX11_fromBeginning_173 rfl (by rw [show Int32.ofInt (1) = (1 : Int32) from by decide]) (by decide) (l' := [some (.ref x0), some (.int (x1 + (1 : Int32))), d2, some (.int x3), some (.int x4)]) rfl ?_
      refine x_goto (pc := 176) (tgt := 36) dX11_fromBeginning_176 (by decide) ?_
      exact hk36 μ x0 (x1 + (1 : Int32)) _ _ _
    · refine x_aload_n (pc := 118) dX11_fromBeginning_118 (i := 0) rfl rfl ?_
      refine x_gR (pc := 119) (k := 7) fcX11 dX11_fromBeginning_119 q140 (by decide) rfl (fun v24 => ?_)
      refine x_iload_n (pc := 122) dX11_fromBeginning_122 (i := 1) rfl rfl ?_
      refine x_ldI (pc := 123) dX11_fromBeginning_123 (fun v25 => ?_)
      refine x_aload_n (pc := 124) dX11_fromBeginning_124 (i := 0) rfl rfl ?_
      refine x_gR (pc := 125) (k := 0) fcX11 dX11_fromBeginning_125 q136 (by decide) rfl (fun v26 => ?_)
      refine x_iconst (pc := 128) (v := 5) dX11_fromBeginning_128 (by decide) ?_
      refine x_ldI (pc := 129) dX11_fromBeginning_129 (fun v27 => ?_)
      refine x_iadd (pc := 130) dX11_fromBeginning_130 ?_
      refine x_istore_n (pc := 131) dX11_fromBeginning_131 (i := 2) rfl (by decide) (l' := [some (.ref x0), some (.int x1), some (.int (v25 + v27)), some (.int x3), some (.int x4)]) rfl ?_
      refine x_aload_n (pc := 132) dX11_fromBeginning_132 (i := 0) rfl rfl ?_
      refine x_gR (pc := 133) (k := 7) fcX11 dX11_fromBeginning_133 q140 (by decide) rfl (fun v28 => ?_)
      refine x_iload_n (pc := 136) dX11_fromBeginning_136 (i := 1) rfl rfl ?_
      refine x_iload (pc := 137) dX11_fromBeginning_137 rfl ?_
      refine x_iadd (pc := 139) dX11_fromBeginning_139 ?_
      refine x_iload_n (pc := 140) dX11_fromBeginning_140 (i := 2) rfl rfl ?_
      refine x_aload_n (pc := 141) dX11_fromBeginning_141 (i := 0) rfl rfl ?_
      refine x_gR (pc := 142) (k := 7) fcX11 dX11_fromBeginning_142 q140 (by decide) rfl (fun v29 => ?_)
      refine x_iload_n (pc := 145) dX11_fromBeginning_145 (i := 1) rfl rfl ?_
      refine x_iload (pc := 146) dX11_fromBeginning_146 rfl ?_
      refine x_iadd (pc := 148) dX11_fromBeginning_148 ?_
      refine x_ldI (pc := 149) dX11_fromBeginning_149 (fun v30 => ?_)
      refine x_icmp_ge (pc := 150) (tgt := 157) dX11_fromBeginning_150 (by decide) ?_ ?_
      · refine x_aload_n (pc := 157) dX11_fromBeginning_157 (i := 0) rfl rfl ?_
        refine x_gR (pc := 158) (k := 7) fcX11 dX11_fromBeginning_158 q140 (by decide) rfl (fun v31 => ?_)
        refine x_iload_n (pc := 161) dX11_fromBeginning_161 (i := 1) rfl rfl ?_
        refine x_iload (pc := 162) dX11_fromBeginning_162 rfl ?_
        refine x_iadd (pc := 164) dX11_fromBeginning_164 ?_
        refine x_ldI (pc := 165) dX11_fromBeginning_165 (fun v32 => ?_)
        exact xX11_fromBeginning_166 (k36 := k36) (k112 := (lX11_fromBeginning_112 k36 S n)) hk36 ih μ x0 x1 x3 x4 v32 (x1 + x4) v28 _
      · refine x_iload_n (pc := 153) dX11_fromBeginning_153 (i := 2) rfl rfl ?_
        refine x_goto (pc := 154) (tgt := 166) dX11_fromBeginning_154 (by decide) ?_
        exact xX11_fromBeginning_166 (k36 := k36) (k112 := (lX11_fromBeginning_112 k36 S n)) hk36 ih μ x0 x1 x3 x4 (v25 + v27) (x1 + x4) v28 _
set_option maxHeartbeats 4000000 in
theorem xX11_fromBeginning_91 {n0 c0 s0 cx cy : Nat} {S : mSh} {k36 : mMm → Nat → Int32 → Option (Int32 × mMm)} (hk36 : ∀ (μ : mMm) (x0 : Nat) (x1 : Int32) (d2 : Option Value) (d3 : Option Value) (d4 : Option Value), mX MX11_fromBeginning n0 c0 s0 36 [some (.ref x0), some (.int x1), d2, d3, d4] [] (S, μ, cx, cy) (iMI S cx cy) (k36 μ x0 x1)) (μ : mMm) (x0 : Nat) (x1 : Int32) (t0 : Int32) (t1 : Int32) (t2 : Nat) (d2 : Option Value) (d3 : Option Value) (d4 : Option Value) : mX MX11_fromBeginning n0 c0 s0 91 [some (.ref x0), some (.int x1), d2, d3, d4] [.int t0, .int t1, .ref t2] (S, μ, cx, cy) (iMI S cx cy) (lX11_fromBeginning_91 k36 S μ x0 x1 t0 t1 t2) := by
  unfold lX11_fromBeginning_91
  refine x_stI (pc := 91) dX11_fromBeginning_91 (fun m18 => ?_)
  refine x_aload_n (pc := 92) dX11_fromBeginning_92 (i := 0) rfl rfl ?_
  refine x_iload_n (pc := 93) dX11_fromBeginning_93 (i := 1) rfl rfl ?_
  refine x_aload_n (pc := 94) dX11_fromBeginning_94 (i := 0) rfl rfl ?_
  refine x_gR (pc := 95) (k := 0) fcX11 dX11_fromBeginning_95 q136 (by decide) rfl (fun v19 => ?_)
  refine x_iconst (pc := 98) (v := 1) dX11_fromBeginning_98 (by decide) ?_
  refine x_ldI (pc := 99) dX11_fromBeginning_99 (fun v20 => ?_)
  refine x_callVi (pc := 100) (As := [.int x1, .int v20]) (rest := []) (vx := fun a => a) (μf := fun _ => m18) fcX11 (mX11_longestAt S m18 cx cy x0 x1 v20) (fun _ => rfl) rfl (fun _ h => ifok h) dX11_fromBeginning_100 q436 kX11_longestAt rfl ⟨by decide, by decide⟩ rfl (Nat.le_of_ble_eq_true rfl) (fun v21 => ?_)
  refine x_istore_n (pc := 103) dX11_fromBeginning_103 (i := 3) rfl (by decide) (l' := [some (.ref x0), some (.int x1), (kl d2), some (.int v21), d4]) rfl ?_
  refine x_aload_n (pc := 104) dX11_fromBeginning_104 (i := 0) rfl rfl ?_
  refine x_gR (pc := 105) (k := 0) fcX11 dX11_fromBeginning_105 q136 (by decide) rfl (fun v22 => ?_)
  refine x_iconst (pc := 108) (v := 2) dX11_fromBeginning_108 (by decide) ?_
  refine x_ldI (pc := 109) dX11_fromBeginning_109 (fun v23 => ?_)
  refine x_istore (pc := 110) dX11_fromBeginning_110 (by decide) (l' := [some (.ref x0), some (.int x1), (kl d2), some (.int v21), some (.int v23)]) rfl ?_
  exact xX11_fromBeginning_112 (k36 := k36) hk36 FU m18 x0 x1 v21 v23 _
set_option maxHeartbeats 4000000 in
theorem xX11_fromBeginning_36 {n0 c0 s0 cx cy : Nat} {S : mSh} : ∀ (n : Nat) (μ : mMm) (x0 : Nat) (x1 : Int32) (d2 : Option Value) (d3 : Option Value) (d4 : Option Value), mX MX11_fromBeginning n0 c0 s0 36 [some (.ref x0), some (.int x1), d2, d3, d4] [] (S, μ, cx, cy) (iMI S cx cy) (lX11_fromBeginning_36 S n μ x0 x1) := by
  intro n
  induction n with
  | zero => intros; exact x_none
  | succ n ih =>
    intro μ x0 x1 d2 d3 d4
    unfold lX11_fromBeginning_36
    refine x_iload_n (pc := 36) dX11_fromBeginning_36 (i := 1) rfl rfl ?_
    refine x_aload_n (pc := 37) dX11_fromBeginning_37 (i := 0) rfl rfl ?_
    refine x_gR (pc := 38) (k := 0) fcX11 dX11_fromBeginning_38 q136 (by decide) rfl (fun v3 => ?_)
    refine x_iconst (pc := 41) (v := 0) dX11_fromBeginning_41 (by decide) ?_
    refine x_ldI (pc := 42) dX11_fromBeginning_42 (fun v4 => ?_)
    refine x_icmp_ge (pc := 43) (tgt := 179) dX11_fromBeginning_43 (by decide) ?_ ?_
    · refine x_aload_n (pc := 179) dX11_fromBeginning_179 (i := 0) rfl rfl ?_
      refine x_gR (pc := 180) (k := 7) fcX11 dX11_fromBeginning_180 q140 (by decide) rfl (fun v5 => ?_)
      refine x_aload_n (pc := 183) dX11_fromBeginning_183 (i := 0) rfl rfl ?_
      refine x_gR (pc := 184) (k := 0) fcX11 dX11_fromBeginning_184 q136 (by decide) rfl (fun v6 => ?_)
      refine x_iconst (pc := 187) (v := 0) dX11_fromBeginning_187 (by decide) ?_
      refine x_ldI (pc := 188) dX11_fromBeginning_188 (fun v7 => ?_)
      refine x_ldI (pc := 189) dX11_fromBeginning_189 (fun v8 => ?_)
      exact x_iret rfl dX11_fromBeginning_190 rfl rfl
    · refine x_aload_n (pc := 46) dX11_fromBeginning_46 (i := 0) rfl rfl ?_
      refine x_gR (pc := 47) (k := 7) fcX11 dX11_fromBeginning_47 q140 (by decide) rfl (fun v9 => ?_)
      refine x_iload_n (pc := 50) dX11_fromBeginning_50 (i := 1) rfl rfl ?_
      refine x_ldI (pc := 51) dX11_fromBeginning_51 (fun v10 => ?_)
      refine x_aload_n (pc := 52) dX11_fromBeginning_52 (i := 0) rfl rfl ?_
      refine x_gR (pc := 53) (k := 0) fcX11 dX11_fromBeginning_53 q136 (by decide) rfl (fun v11 => ?_)
      refine x_iconst (pc := 56) (v := 4) dX11_fromBeginning_56 (by decide) ?_
      refine x_ldI (pc := 57) dX11_fromBeginning_57 (fun v12 => ?_)
      refine x_iadd (pc := 58) dX11_fromBeginning_58 ?_
      refine x_istore_n (pc := 59) dX11_fromBeginning_59 (i := 2) rfl (by decide) (l' := [some (.ref x0), some (.int x1), some (.int (v10 + v12)), d3, d4]) rfl ?_
      refine x_aload_n (pc := 60) dX11_fromBeginning_60 (i := 0) rfl rfl ?_
      refine x_gR (pc := 61) (k := 7) fcX11 dX11_fromBeginning_61 q140 (by decide) rfl (fun v13 => ?_)
      refine x_iload_n (pc := 64) dX11_fromBeginning_64 (i := 1) rfl rfl ?_
      refine x_iconst (pc := 65) (v := 1) dX11_fromBeginning_65 (by decide) ?_
      refine x_iadd (pc := 66) dX11_fromBeginning_66 ?_
      refine x_iload_n (pc := 67) dX11_fromBeginning_67 (i := 2) rfl rfl ?_
      refine x_aload_n (pc := 68) dX11_fromBeginning_68 (i := 0) rfl rfl ?_
      refine x_gR (pc := 69) (k := 7) fcX11 dX11_fromBeginning_69 q140 (by decide) rfl (fun v14 => ?_)
      refine x_iload_n (pc := 72) dX11_fromBeginning_72 (i := 1) rfl rfl ?_
      refine x_iconst (pc := 73) (v := 1) dX11_fromBeginning_73 (by decide) ?_
      refine x_iadd (pc := 74) dX11_fromBeginning_74 ?_
      refine x_ldI (pc := 75) dX11_fromBeginning_75 (fun v15 => ?_)
      refine x_icmp_ge (pc := 76) (tgt := 83) dX11_fromBeginning_76 (by decide) ?_ ?_
      · refine x_aload_n (pc := 83) dX11_fromBeginning_83 (i := 0) rfl rfl ?_
        refine x_gR (pc := 84) (k := 7) fcX11 dX11_fromBeginning_84 q140 (by decide) rfl (fun v16 => ?_)
        refine x_iload_n (pc := 87) dX11_fromBeginning_87 (i := 1) rfl rfl ?_
        refine x_iconst (pc := 88) (v := 1) dX11_fromBeginning_88 (by decide) ?_
        refine x_iadd (pc := 89) dX11_fromBeginning_89 ?_
        refine x_ldI (pc := 90) dX11_fromBeginning_90 (fun v17 => ?_)
        exact xX11_fromBeginning_91 (k36 := (lX11_fromBeginning_36 S n)) ih μ x0 x1 v17 (x1 + (1 : Int32)) v13 _ _ _
      · refine x_iload_n (pc := 79) dX11_fromBeginning_79 (i := 2) rfl rfl ?_
        refine x_goto (pc := 80) (tgt := 91) dX11_fromBeginning_80 (by decide) ?_
        exact xX11_fromBeginning_91 (k36 := (lX11_fromBeginning_36 S n)) ih μ x0 x1 (v10 + v12) (x1 + (1 : Int32)) v13 _ _ _
set_option maxHeartbeats 4000000 in
theorem xX11_fromBeginning_27 {n0 c0 s0 cx cy : Nat} {S : mSh} {k2 : mMm → Nat → Int32 → Option (Int32 × mMm)} (hk2 : ∀ (μ : mMm) (x0 : Nat) (x1 : Int32) (d2 : Option Value) (d3 : Option Value) (d4 : Option Value), mX MX11_fromBeginning n0 c0 s0 2 [some (.ref x0), some (.int x1), d2, d3, d4] [] (S, μ, cx, cy) (iMI S cx cy) (k2 μ x0 x1)) (μ : mMm) (x0 : Nat) (x1 : Int32) (t0 : Int32) (t1 : Int32) (t2 : Nat) (d2 : Option Value) (d3 : Option Value) (d4 : Option Value) : mX MX11_fromBeginning n0 c0 s0 27 [some (.ref x0), some (.int x1), d2, d3, d4] [.int t0, .int t1, .ref t2] (S, μ, cx, cy) (iMI S cx cy) (lX11_fromBeginning_27 k2 S μ x0 x1 t0 t1 t2) := by
  unfold lX11_fromBeginning_27
  refine x_stI (pc := 27) dX11_fromBeginning_27 (fun m35 => ?_)
  refine x_iinc (pc := 28) (v := x1 + (1 : Int32)) dX11_fromBeginning_28 rfl (by rw [show Int32.ofInt (1) = (1 : Int32) from by decide]) (by decide) (l' := [some (.ref x0), some (.int (x1 + (1 : Int32))), d2, d3, d4]) rfl ?_
  refine x_goto (pc := 31) (tgt := 2) dX11_fromBeginning_31 (by decide) ?_
  exact hk2 m35 x0 (x1 + (1 : Int32)) _ _ _
set_option maxHeartbeats 4000000 in
theorem xX11_fromBeginning_2 {n0 c0 s0 cx cy : Nat} {S : mSh} : ∀ (n : Nat) (μ : mMm) (x0 : Nat) (x1 : Int32) (d2 : Option Value) (d3 : Option Value) (d4 : Option Value), mX MX11_fromBeginning n0 c0 s0 2 [some (.ref x0), some (.int x1), d2, d3, d4] [] (S, μ, cx, cy) (iMI S cx cy) (lX11_fromBeginning_2 S n μ x0 x1) := by
  intro n
  induction n with
  | zero => intros; exact x_none
  | succ n ih =>
    intro μ x0 x1 d2 d3 d4
    unfold lX11_fromBeginning_2
    refine x_iload_n (pc := 2) dX11_fromBeginning_2 (i := 1) rfl rfl ?_
    refine x_aload_n (pc := 3) dX11_fromBeginning_3 (i := 0) rfl rfl ?_
    refine x_gR (pc := 4) (k := 0) fcX11 dX11_fromBeginning_4 q136 (by decide) rfl (fun v1 => ?_)
    refine x_iconst (pc := 7) (v := 0) dX11_fromBeginning_7 (by decide) ?_
    refine x_ldI (pc := 8) dX11_fromBeginning_8 (fun v2 => ?_)
    refine x_icmp_gt (pc := 9) (tgt := 34) dX11_fromBeginning_9 (by decide) ?_ ?_
    · refine x_iconst (pc := 34) (v := 0) dX11_fromBeginning_34 (by decide) ?_
      refine x_istore_n (pc := 35) dX11_fromBeginning_35 (i := 1) rfl (by decide) (l' := [some (.ref x0), some (.int (0 : Int32)), d2, d3, d4]) rfl ?_
      exact xX11_fromBeginning_36 FU μ x0 (0 : Int32) _ _ _
    · refine x_aload_n (pc := 12) dX11_fromBeginning_12 (i := 0) rfl rfl ?_
      refine x_gR (pc := 13) (k := 7) fcX11 dX11_fromBeginning_13 q140 (by decide) rfl (fun v34 => ?_)
      refine x_iload_n (pc := 16) dX11_fromBeginning_16 (i := 1) rfl rfl ?_
      refine x_iload_n (pc := 17) dX11_fromBeginning_17 (i := 1) rfl rfl ?_
      refine x_if_ne (pc := 18) (tgt := 25) dX11_fromBeginning_18 (by decide) ?_ ?_
      · refine x_iconst (pc := 21) (v := 0) dX11_fromBeginning_21 (by decide) ?_
        refine x_goto (pc := 22) (tgt := 27) dX11_fromBeginning_22 (by decide) ?_
        exact xX11_fromBeginning_27 (k2 := (lX11_fromBeginning_2 S n)) ih μ x0 x1 (0 : Int32) x1 v34 _ _ _
      · refine x_ldc (pc := 25) (v := 100000) dX11_fromBeginning_25 q1082 ?_
        exact xX11_fromBeginning_27 (k2 := (lX11_fromBeginning_2 S n)) ih μ x0 x1 (100000 : Int32) x1 v34 _ _ _
set_option maxHeartbeats 4000000 in
theorem xbX11_fromBeginning {n0 c0 s0 cx cy : Nat} {S : mSh} {μ : mMm} (o : Nat) : mX MX11_fromBeginning n0 c0 s0 0 [some (.ref o), none, none, none, none] [] (S, μ, cx, cy) (iMI S cx cy) (bX11_fromBeginning S μ o) := by
  unfold bX11_fromBeginning
  refine x_iconst (pc := 0) (v := 0) dX11_fromBeginning_0 (by decide) ?_
  refine x_istore_n (pc := 1) dX11_fromBeginning_1 (i := 1) rfl (by decide) (l' := [some (.ref o), some (.int (0 : Int32)), none, none, none]) rfl ?_
  exact xX11_fromBeginning_2 FU μ o (0 : Int32) _ _ _
theorem mX11_fromBeginning (S : mSh) (μ : mMm) (cx cy : Nat) (o : Nat) : mMet MX11_fromBeginning [.ref o] (S, μ, cx, cy) (iMI S cx cy) (fX11_fromBeginning S μ o) := mMet.of rfl (by decide) rfl (fun h => by cases h) (Nat.le_of_ble_eq_true rfl) (mX.ck (fun _ => xbX11_fromBeginning o))
/-! SlideMillsModel.cheapest(I)I -/
def bX11_cheapest (S : mSh) (μ : mMm) (o : Nat) (p0 : Int32) : Option (Int32 × mMm) := (fX11_costsToEnd S μ o p0).bind fun m1 => (gR S o 11 7).bind fun v2 => (ldI S m1 v2 (0 : Int32)).bind fun v3 => some (v3, m1)
def fX11_cheapest (S : mSh) (μ : mMm) (o : Nat) (p0 : Int32) : Option (Int32 × mMm) := if mok S o 11 = true then bX11_cheapest S μ o p0 else none
abbrev MX11_cheapest : mM := ((yX11_cheapest, cX11_cheapest, 2, (some .int)), (3, 73), (false, false), RX11, eT)
theorem kX11_cheapest : mCalV MX11_cheapest RX11 1 := ⟨q1058, q1059, q5, q1060, by decide +kernel⟩
set_option maxHeartbeats 4000000 in
theorem xbX11_cheapest {n0 c0 s0 cx cy : Nat} {S : mSh} {μ : mMm} (o : Nat) (p0 : Int32) : mX MX11_cheapest n0 c0 s0 0 [some (.ref o), some (.int p0)] [] (S, μ, cx, cy) (iMI S cx cy) (bX11_cheapest S μ o p0) := by
  unfold bX11_cheapest
  refine x_aload_n (pc := 0) dX11_cheapest_0 (i := 0) rfl rfl ?_
  refine x_iload_n (pc := 1) dX11_cheapest_1 (i := 1) rfl rfl ?_
  refine x_callVv (pc := 2) (As := [.int p0]) (rest := []) (μf := fun a => a) fcX11 (mX11_costsToEnd S μ cx cy o p0) (fun _ => rfl) rfl (fun _ h => ifok h) dX11_cheapest_2 q432 kX11_costsToEnd rfl ⟨by decide, by decide⟩ rfl (Nat.le_of_ble_eq_true rfl) (fun m1 => ?_)
  refine x_aload_n (pc := 5) dX11_cheapest_5 (i := 0) rfl rfl ?_
  refine x_gR (pc := 6) (k := 7) fcX11 dX11_cheapest_6 q140 (by decide) rfl (fun v2 => ?_)
  refine x_iconst (pc := 9) (v := 0) dX11_cheapest_9 (by decide) ?_
  refine x_ldI (pc := 10) dX11_cheapest_10 (fun v3 => ?_)
  exact x_iret rfl dX11_cheapest_11 rfl rfl
theorem mX11_cheapest (S : mSh) (μ : mMm) (cx cy : Nat) (o : Nat) (p0 : Int32) : mMet MX11_cheapest [.ref o, .int p0] (S, μ, cx, cy) (iMI S cx cy) (fX11_cheapest S μ o p0) := mMet.of rfl (by decide) rfl (fun h => by cases h) (Nat.le_of_ble_eq_true rfl) (mX.ck (fun _ => xbX11_cheapest o p0))
/-! SlideMillsModel.lengthBy(II)I -/
def lX11_lengthBy_123 (S : mSh) (μ : mMm) : Option (Int32) := some (1 : Int32)
def lX11_lengthBy_112 (S : mSh) (μ : mMm) (x3 : Int32) (t0 : Int32) : Option (Int32) := if x3 = 0 then (lX11_lengthBy_123 S μ ) else (if t0 = 0 then (some x3) else (lX11_lengthBy_123 S μ ))
def lX11_lengthBy_111 (S : mSh) (μ : mMm) (x3 : Int32) : Option (Int32) := lX11_lengthBy_112 S μ x3 (0 : Int32)
def lX11_lengthBy_57 (S : mSh) (μ : mMm) (x0 : Nat) (x3 : Int32) : Option (Int32) := (gR S x0 11 0).bind fun v11 => (ldI S μ v11 (2 : Int32)).bind fun v12 => if x3 < v12 then (some (1 : Int32)) else (some x3)
def lX11_lengthBy_17 (S : mSh) (μ : mMm) : Nat → Nat → Int32 → Int32 → Option (Int32)
  | 0, _, _, _ => none
  | n + 1, x0, x2, x3 => (gR S x0 11 0).bind fun v9 => (ldI S μ v9 (2 : Int32)).bind fun v10 => if x3 < v10 then (lX11_lengthBy_57 S μ x0 x3) else ((gR S x0 11 0).bind fun v13 => (ldI S μ v13 (5 : Int32)).bind fun v14 => (gR S x0 11 7).bind fun v15 => (ldI S μ v15 (x2 + x3)).bind fun v16 => (gR S x0 11 7).bind fun v17 => (ldI S μ v17 x2).bind fun v18 => if (v14 + v16) = v18 then (lX11_lengthBy_57 S μ x0 x3) else (lX11_lengthBy_17 S μ n x0 x2 (x3 + (-1 : Int32))))
def bX11_lengthBy (S : mSh) (μ : mMm) (o : Nat) (p0 : Int32) (p1 : Int32) : Option (Int32) := (gR S o 11 0).bind fun v1 => (ldI S μ v1 (1 : Int32)).bind fun v2 => (fX11_longestAt S μ o p1 v2).bind fun v3 => if p0 = (2 : Int32) then (lX11_lengthBy_17 S μ FU o p1 v3) else (if p0 = (1 : Int32) then ((gR S o 11 0).bind fun v4 => (ldI S μ v4 (0 : Int32)).bind fun v5 => if v5 ≤ (p1 + (1 : Int32)) then (lX11_lengthBy_111 S μ v3) else ((gR S o 11 0).bind fun v6 => (ldI S μ v6 (1 : Int32)).bind fun v7 => (fX11_longestAt S μ o (p1 + (1 : Int32)) v7).bind fun v8 => if v8 ≤ v3 then (lX11_lengthBy_111 S μ v3) else (lX11_lengthBy_112 S μ v3 (1 : Int32)))) else (lX11_lengthBy_111 S μ v3))
def fX11_lengthBy (S : mSh) (μ : mMm) (o : Nat) (p0 : Int32) (p1 : Int32) : Option (Int32) := if mok S o 11 = true then bX11_lengthBy S μ o p0 p1 else none
abbrev MX11_lengthBy : mM := ((yX11_lengthBy, cX11_lengthBy, 5, (some .int)), (2, 48), (false, false), RX11, eT)
theorem kX11_lengthBy : mCalV MX11_lengthBy RX11 2 := ⟨q445, q446, q5, q447, by decide +kernel⟩
set_option maxHeartbeats 4000000 in
theorem xX11_lengthBy_123 {n0 c0 s0 cx cy : Nat} {S : mSh} {μ : mMm}  (d0 : Option Value) (d1 : Option Value) (d2 : Option Value) (d3 : Option Value) (d4 : Option Value) : mX MX11_lengthBy n0 c0 s0 123 [d0, d1, d2, d3, d4] [] (S, μ, cx, cy) (iPI S μ cx cy) (lX11_lengthBy_123 S μ ) := by
  unfold lX11_lengthBy_123
  refine x_iconst (pc := 123) (v := 1) dX11_lengthBy_123 (by decide) ?_
  refine x_goto (pc := 124) (tgt := 128) dX11_lengthBy_124 (by decide) ?_
  exact x_iret rfl dX11_lengthBy_128 rfl rfl
set_option maxHeartbeats 4000000 in
theorem xX11_lengthBy_112 {n0 c0 s0 cx cy : Nat} {S : mSh} {μ : mMm} (x3 : Int32) (t0 : Int32) (d0 : Option Value) (d1 : Option Value) (d2 : Option Value) (d4 : Option Value) : mX MX11_lengthBy n0 c0 s0 112 [d0, d1, d2, some (.int x3), d4] [.int t0] (S, μ, cx, cy) (iPI S μ cx cy) (lX11_lengthBy_112 S μ x3 t0) := by
  unfold lX11_lengthBy_112
  refine x_istore (pc := 112) dX11_lengthBy_112 (by decide) (l' := [d0, d1, d2, some (.int x3), some (.int t0)]) rfl ?_
  refine x_iload_n (pc := 114) dX11_lengthBy_114 (i := 3) rfl rfl ?_
  refine x_if_eq (pc := 115) (tgt := 123) dX11_lengthBy_115 (by decide) ?_ ?_
  · exact xX11_lengthBy_123 _ _ _ _ _
  · refine x_iload (pc := 118) dX11_lengthBy_118 rfl ?_
    refine x_if_eq (pc := 120) (tgt := 127) dX11_lengthBy_120 (by decide) ?_ ?_
    · refine x_iload_n (pc := 127) dX11_lengthBy_127 (i := 3) rfl rfl ?_
      exact x_iret rfl dX11_lengthBy_128 rfl rfl
    · exact xX11_lengthBy_123 _ _ _ _ _
set_option maxHeartbeats 4000000 in
theorem xX11_lengthBy_111 {n0 c0 s0 cx cy : Nat} {S : mSh} {μ : mMm} (x3 : Int32) (d0 : Option Value) (d1 : Option Value) (d2 : Option Value) (d4 : Option Value) : mX MX11_lengthBy n0 c0 s0 111 [d0, d1, d2, some (.int x3), d4] [] (S, μ, cx, cy) (iPI S μ cx cy) (lX11_lengthBy_111 S μ x3) := by
  unfold lX11_lengthBy_111
  refine x_iconst (pc := 111) (v := 0) dX11_lengthBy_111 (by decide) ?_
  exact xX11_lengthBy_112 x3 (0 : Int32) _ _ _ _
set_option maxHeartbeats 4000000 in
theorem xX11_lengthBy_57 {n0 c0 s0 cx cy : Nat} {S : mSh} {μ : mMm} (x0 : Nat) (x3 : Int32) (d1 : Option Value) (d2 : Option Value) (d4 : Option Value) : mX MX11_lengthBy n0 c0 s0 57 [some (.ref x0), d1, d2, some (.int x3), d4] [] (S, μ, cx, cy) (iPI S μ cx cy) (lX11_lengthBy_57 S μ x0 x3) := by
  unfold lX11_lengthBy_57
  refine x_iload_n (pc := 57) dX11_lengthBy_57 (i := 3) rfl rfl ?_
  refine x_aload_n (pc := 58) dX11_lengthBy_58 (i := 0) rfl rfl ?_
  refine x_gR (pc := 59) (k := 0) fcX11 dX11_lengthBy_59 q136 (by decide) rfl (fun v11 => ?_)
  refine x_iconst (pc := 62) (v := 2) dX11_lengthBy_62 (by decide) ?_
  refine x_ldI (pc := 63) dX11_lengthBy_63 (fun v12 => ?_)
  refine x_icmp_lt (pc := 64) (tgt := 71) dX11_lengthBy_64 (by decide) ?_ ?_
  · refine x_iconst (pc := 71) (v := 1) dX11_lengthBy_71 (by decide) ?_
    exact x_iret rfl dX11_lengthBy_72 rfl rfl
  · refine x_iload_n (pc := 67) dX11_lengthBy_67 (i := 3) rfl rfl ?_
    refine x_goto (pc := 68) (tgt := 72) dX11_lengthBy_68 (by decide) ?_
    exact x_iret rfl dX11_lengthBy_72 rfl rfl
set_option maxHeartbeats 4000000 in
theorem xX11_lengthBy_17 {n0 c0 s0 cx cy : Nat} {S : mSh} {μ : mMm} : ∀ (n : Nat) (x0 : Nat) (x2 : Int32) (x3 : Int32) (d1 : Option Value) (d4 : Option Value), mX MX11_lengthBy n0 c0 s0 17 [some (.ref x0), d1, some (.int x2), some (.int x3), d4] [] (S, μ, cx, cy) (iPI S μ cx cy) (lX11_lengthBy_17 S μ n x0 x2 x3) := by
  intro n
  induction n with
  | zero => intros; exact x_none
  | succ n ih =>
    intro x0 x2 x3 d1 d4
    unfold lX11_lengthBy_17
    refine x_iload_n (pc := 17) dX11_lengthBy_17 (i := 3) rfl rfl ?_
    refine x_aload_n (pc := 18) dX11_lengthBy_18 (i := 0) rfl rfl ?_
    refine x_gR (pc := 19) (k := 0) fcX11 dX11_lengthBy_19 q136 (by decide) rfl (fun v9 => ?_)
    refine x_iconst (pc := 22) (v := 2) dX11_lengthBy_22 (by decide) ?_
    refine x_ldI (pc := 23) dX11_lengthBy_23 (fun v10 => ?_)
    refine x_icmp_lt (pc := 24) (tgt := 57) dX11_lengthBy_24 (by decide) ?_ ?_
    · exact xX11_lengthBy_57 x0 x3 _ _ _
    · refine x_aload_n (pc := 27) dX11_lengthBy_27 (i := 0) rfl rfl ?_
      refine x_gR (pc := 28) (k := 0) fcX11 dX11_lengthBy_28 q136 (by decide) rfl (fun v13 => ?_)
      refine x_iconst (pc := 31) (v := 5) dX11_lengthBy_31 (by decide) ?_
      refine x_ldI (pc := 32) dX11_lengthBy_32 (fun v14 => ?_)
      refine x_aload_n (pc := 33) dX11_lengthBy_33 (i := 0) rfl rfl ?_
      refine x_gR (pc := 34) (k := 7) fcX11 dX11_lengthBy_34 q140 (by decide) rfl (fun v15 => ?_)
      refine x_iload_n (pc := 37) dX11_lengthBy_37 (i := 2) rfl rfl ?_
      refine x_iload_n (pc := 38) dX11_lengthBy_38 (i := 3) rfl rfl ?_
      refine x_iadd (pc := 39) dX11_lengthBy_39 ?_
      refine x_ldI (pc := 40) dX11_lengthBy_40 (fun v16 => ?_)
      refine x_iadd (pc := 41) dX11_lengthBy_41 ?_
      refine x_aload_n (pc := 42) dX11_lengthBy_42 (i := 0) rfl rfl ?_
      refine x_gR (pc := 43) (k := 7) fcX11 dX11_lengthBy_43 q140 (by decide) rfl (fun v17 => ?_)
      refine x_iload_n (pc := 46) dX11_lengthBy_46 (i := 2) rfl rfl ?_
      refine x_ldI (pc := 47) dX11_lengthBy_47 (fun v18 => ?_)
      refine x_icmp_eq (pc := 48) (tgt := 57) dX11_lengthBy_48 (by decide) ?_ ?_
      · exact xX11_lengthBy_57 x0 x3 _ _ _
      · refine x_iinc (pc := 51) (v := x3 + (-1 : Int32)) dX11_lengthBy_51 rfl (by rw [show Int32.ofInt (-1) = (-1 : Int32) from by decide]) (by decide) (l' := [some (.ref x0), d1, some (.int x2), some (.int (x3 + (-1 : Int32))), d4]) rfl ?_
        refine x_goto (pc := 54) (tgt := 17) dX11_lengthBy_54 (by decide) ?_
        exact ih x0 x2 (x3 + (-1 : Int32)) _ _
set_option maxHeartbeats 4000000 in
theorem xbX11_lengthBy {n0 c0 s0 cx cy : Nat} {S : mSh} {μ : mMm} (o : Nat) (p0 : Int32) (p1 : Int32) : mX MX11_lengthBy n0 c0 s0 0 [some (.ref o), some (.int p0), some (.int p1), none, none] [] (S, μ, cx, cy) (iPI S μ cx cy) (bX11_lengthBy S μ o p0 p1) := by
  unfold bX11_lengthBy
  refine x_aload_n (pc := 0) dX11_lengthBy_0 (i := 0) rfl rfl ?_
  refine x_iload_n (pc := 1) dX11_lengthBy_1 (i := 2) rfl rfl ?_
  refine x_aload_n (pc := 2) dX11_lengthBy_2 (i := 0) rfl rfl ?_
  refine x_gR (pc := 3) (k := 0) fcX11 dX11_lengthBy_3 q136 (by decide) rfl (fun v1 => ?_)
  refine x_iconst (pc := 6) (v := 1) dX11_lengthBy_6 (by decide) ?_
  refine x_ldI (pc := 7) dX11_lengthBy_7 (fun v2 => ?_)
  refine x_callVi (pc := 8) (As := [.int p1, .int v2]) (rest := []) (vx := fun a => a) (μf := fun _ => μ) fcX11 (mX11_longestAt S μ cx cy o p1 v2) (fun _ => rfl) rfl (fun _ h => ifok h) dX11_lengthBy_8 q436 kX11_longestAt rfl ⟨by decide, by decide⟩ rfl (Nat.le_of_ble_eq_true rfl) (fun v3 => ?_)
  refine x_istore_n (pc := 11) dX11_lengthBy_11 (i := 3) rfl (by decide) (l' := [some (.ref o), some (.int p0), some (.int p1), some (.int v3), none]) rfl ?_
  refine x_iload_n (pc := 12) dX11_lengthBy_12 (i := 1) rfl rfl ?_
  refine x_iconst (pc := 13) (v := 2) dX11_lengthBy_13 (by decide) ?_
  refine x_icmp_ne (pc := 14) (tgt := 73) dX11_lengthBy_14 (by decide) ?_ ?_
  · exact xX11_lengthBy_17 FU o p1 v3 _ _
  · refine x_iload_n (pc := 73) dX11_lengthBy_73 (i := 1) rfl rfl ?_
    refine x_iconst (pc := 74) (v := 1) dX11_lengthBy_74 (by decide) ?_
    refine x_icmp_ne (pc := 75) (tgt := 111) dX11_lengthBy_75 (by decide) ?_ ?_
    · refine x_iload_n (pc := 78) dX11_lengthBy_78 (i := 2) rfl rfl ?_
      refine x_iconst (pc := 79) (v := 1) dX11_lengthBy_79 (by decide) ?_
      refine x_iadd (pc := 80) dX11_lengthBy_80 ?_
      refine x_aload_n (pc := 81) dX11_lengthBy_81 (i := 0) rfl rfl ?_
      refine x_gR (pc := 82) (k := 0) fcX11 dX11_lengthBy_82 q136 (by decide) rfl (fun v4 => ?_)
      refine x_iconst (pc := 85) (v := 0) dX11_lengthBy_85 (by decide) ?_
      refine x_ldI (pc := 86) dX11_lengthBy_86 (fun v5 => ?_)
      refine x_icmp_ge (pc := 87) (tgt := 111) dX11_lengthBy_87 (by decide) ?_ ?_
      · exact xX11_lengthBy_111 v3 _ _ _ _
      · refine x_aload_n (pc := 90) dX11_lengthBy_90 (i := 0) rfl rfl ?_
        refine x_iload_n (pc := 91) dX11_lengthBy_91 (i := 2) rfl rfl ?_
        refine x_iconst (pc := 92) (v := 1) dX11_lengthBy_92 (by decide) ?_
        refine x_iadd (pc := 93) dX11_lengthBy_93 ?_
        refine x_aload_n (pc := 94) dX11_lengthBy_94 (i := 0) rfl rfl ?_
        refine x_gR (pc := 95) (k := 0) fcX11 dX11_lengthBy_95 q136 (by decide) rfl (fun v6 => ?_)
        refine x_iconst (pc := 98) (v := 1) dX11_lengthBy_98 (by decide) ?_
        refine x_ldI (pc := 99) dX11_lengthBy_99 (fun v7 => ?_)
        refine x_callVi (pc := 100) (As := [.int (p1 + (1 : Int32)), .int v7]) (rest := []) (vx := fun a => a) (μf := fun _ => μ) fcX11 (mX11_longestAt S μ cx cy o (p1 + (1 : Int32)) v7) (fun _ => rfl) rfl (fun _ h => ifok h) dX11_lengthBy_100 q436 kX11_longestAt rfl ⟨by decide, by decide⟩ rfl (Nat.le_of_ble_eq_true rfl) (fun v8 => ?_)
        refine x_iload_n (pc := 103) dX11_lengthBy_103 (i := 3) rfl rfl ?_
        refine x_icmp_le (pc := 104) (tgt := 111) dX11_lengthBy_104 (by decide) ?_ ?_
        · exact xX11_lengthBy_111 v3 _ _ _ _
        · refine x_iconst (pc := 107) (v := 1) dX11_lengthBy_107 (by decide) ?_
          refine x_goto (pc := 108) (tgt := 112) dX11_lengthBy_108 (by decide) ?_
          exact xX11_lengthBy_112 v3 (1 : Int32) _ _ _ _
    · exact xX11_lengthBy_111 v3 _ _ _ _
theorem mX11_lengthBy (S : mSh) (μ : mMm) (cx cy : Nat) (o : Nat) (p0 : Int32) (p1 : Int32) : mMet MX11_lengthBy [.ref o, .int p0, .int p1] (S, μ, cx, cy) (iPI S μ cx cy) (fX11_lengthBy S μ o p0 p1) := mMet.of rfl (by decide) rfl (fun h => by cases h) (Nat.le_of_ble_eq_true rfl) (mX.ck (fun _ => xbX11_lengthBy o p0 p1))
/-! SlideMillsModel.packs(I)V -/
def lX11_packs_90 (k17 : mMm → Nat → Int32 → Int32 → Option (mMm)) (S : mSh) (μ : mMm) (x0 : Nat) (x1 : Int32) (x2 : Int32) (x3 : Int32) (t0 : Int32) (t1 : Int32) (t2 : Nat) : Option (mMm) := (stI S μ t2 t1 t0).bind fun m14 => (gI S m14 x0 11 6).bind fun v15 => (pI S m14 x0 11 6 (v15 + (1 : Int32))).bind fun m16 => k17 m16 x0 x1 (x2 + x3)
def lX11_packs_59 (k17 : mMm → Nat → Int32 → Int32 → Option (mMm)) (S : mSh) (μ : mMm) (x0 : Nat) (x1 : Int32) (x2 : Int32) (x3 : Int32) (t0 : Int32) (t1 : Int32) (t2 : Nat) : Option (mMm) := (stI S μ t2 t1 t0).bind fun m11 => (gR S x0 11 5).bind fun v12 => (gI S m11 x0 11 6).bind fun v13 => if x3 = (1 : Int32) then ((gR S x0 11 0).bind fun v17 => (ldI S m11 v17 ((10 : Int32) + x2)).bind fun v18 => lX11_packs_90 k17 S m11 x0 x1 x2 x3 v18 (((2 : Int32) * v13) + (1 : Int32)) v12) else (lX11_packs_90 k17 S m11 x0 x1 x2 x3 x3 (((2 : Int32) * v13) + (1 : Int32)) v12)
def lX11_packs_17 (S : mSh) : Nat → mMm → Nat → Int32 → Int32 → Option (mMm)
  | 0, _, _, _, _ => none
  | n + 1, μ, x0, x1, x2 => (gR S x0 11 0).bind fun v5 => (ldI S μ v5 (0 : Int32)).bind fun v6 => if v6 ≤ x2 then (some μ) else ((fX11_lengthBy S μ x0 x1 x2).bind fun v7 => (gR S x0 11 5).bind fun v8 => (gI S μ x0 11 6).bind fun v9 => if v7 = (1 : Int32) then (lX11_packs_59 (lX11_packs_17 S n) S μ x0 x1 x2 v7 (0 : Int32) ((2 : Int32) * v9) v8) else ((fX11_distanceFor S μ x0 x2 v7).bind fun v10 => lX11_packs_59 (lX11_packs_17 S n) S μ x0 x1 x2 v7 v10 ((2 : Int32) * v9) v8))
def bX11_packs (S : mSh) (μ : mMm) (o : Nat) (p0 : Int32) : Option (mMm) := (gR S o 11 0).bind fun v1 => (ldI S μ v1 (1 : Int32)).bind fun v2 => (fX11_costsToEnd S μ o v2).bind fun m3 => (pI S m3 o 11 6 (0 : Int32)).bind fun m4 => lX11_packs_17 S FU m4 o p0 (0 : Int32)
def fX11_packs (S : mSh) (μ : mMm) (o : Nat) (p0 : Int32) : Option (mMm) := if mok S o 11 = true then bX11_packs S μ o p0 else none
abbrev MX11_packs : mM := ((yX11_packs, cX11_packs, 4, none), (3, 73), (false, false), RX11, eT)
theorem kX11_packs : mCalV MX11_packs RX11 1 := ⟨q429, q430, q5, q431, by decide +kernel⟩
set_option maxHeartbeats 4000000 in
theorem xX11_packs_90 {n0 c0 s0 cx cy : Nat} {S : mSh} {k17 : mMm → Nat → Int32 → Int32 → Option (mMm)} (hk17 : ∀ (μ : mMm) (x0 : Nat) (x1 : Int32) (x2 : Int32) (d3 : Option Value), mX MX11_packs n0 c0 s0 17 [some (.ref x0), some (.int x1), some (.int x2), d3] [] (S, μ, cx, cy) (iMV S cx cy) (k17 μ x0 x1 x2)) (μ : mMm) (x0 : Nat) (x1 : Int32) (x2 : Int32) (x3 : Int32) (t0 : Int32) (t1 : Int32) (t2 : Nat) : mX MX11_packs n0 c0 s0 90 [some (.ref x0), some (.int x1), some (.int x2), some (.int x3)] [.int t0, .int t1, .ref t2] (S, μ, cx, cy) (iMV S cx cy) (lX11_packs_90 k17 S μ x0 x1 x2 x3 t0 t1 t2) := by
  unfold lX11_packs_90
  refine x_stI (pc := 90) dX11_packs_90 (fun m14 => ?_)
  refine x_aload_n (pc := 91) dX11_packs_91 (i := 0) rfl rfl ?_
  refine x_dup (pc := 92) dX11_packs_92 rfl ?_
  refine x_gI (pc := 93) (k := 6) fcX11 dX11_packs_93 q427 (by decide) rfl (fun v15 => ?_)
  refine x_iconst (pc := 96) (v := 1) dX11_packs_96 (by decide) ?_
  refine x_iadd (pc := 97) dX11_packs_97 ?_
  refine x_pI (pc := 98) (k := 6) fcX11 dX11_packs_98 q427 (by decide) rfl rfl rfl rfl (fun m16 => ?_)
  refine x_iload_n (pc := 101) dX11_packs_101 (i := 2) rfl rfl ?_
  refine x_iload_n (pc := 102) dX11_packs_102 (i := 3) rfl rfl ?_
  refine x_iadd (pc := 103) dX11_packs_103 ?_
  refine x_istore_n (pc := 104) dX11_packs_104 (i := 2) rfl (by decide) (l' := [some (.ref x0), some (.int x1), some (.int (x2 + x3)), some (.int x3)]) rfl ?_
  refine x_goto (pc := 105) (tgt := 17) dX11_packs_105 (by decide) ?_
  exact hk17 m16 x0 x1 (x2 + x3) _
set_option maxHeartbeats 4000000 in
theorem xX11_packs_59 {n0 c0 s0 cx cy : Nat} {S : mSh} {k17 : mMm → Nat → Int32 → Int32 → Option (mMm)} (hk17 : ∀ (μ : mMm) (x0 : Nat) (x1 : Int32) (x2 : Int32) (d3 : Option Value), mX MX11_packs n0 c0 s0 17 [some (.ref x0), some (.int x1), some (.int x2), d3] [] (S, μ, cx, cy) (iMV S cx cy) (k17 μ x0 x1 x2)) (μ : mMm) (x0 : Nat) (x1 : Int32) (x2 : Int32) (x3 : Int32) (t0 : Int32) (t1 : Int32) (t2 : Nat) : mX MX11_packs n0 c0 s0 59 [some (.ref x0), some (.int x1), some (.int x2), some (.int x3)] [.int t0, .int t1, .ref t2] (S, μ, cx, cy) (iMV S cx cy) (lX11_packs_59 k17 S μ x0 x1 x2 x3 t0 t1 t2) := by
  unfold lX11_packs_59
  refine x_stI (pc := 59) dX11_packs_59 (fun m11 => ?_)
  refine x_aload_n (pc := 60) dX11_packs_60 (i := 0) rfl rfl ?_
  refine x_gR (pc := 61) (k := 5) fcX11 dX11_packs_61 q139 (by decide) rfl (fun v12 => ?_)
  refine x_iconst (pc := 64) (v := 2) dX11_packs_64 (by decide) ?_
  refine x_aload_n (pc := 65) dX11_packs_65 (i := 0) rfl rfl ?_
  refine x_gI (pc := 66) (k := 6) fcX11 dX11_packs_66 q427 (by decide) rfl (fun v13 => ?_)
  refine x_imul (pc := 69) dX11_packs_69 ?_
  refine x_iconst (pc := 70) (v := 1) dX11_packs_70 (by decide) ?_
  refine x_iadd (pc := 71) dX11_packs_71 ?_
  refine x_iload_n (pc := 72) dX11_packs_72 (i := 3) rfl rfl ?_
  refine x_iconst (pc := 73) (v := 1) dX11_packs_73 (by decide) ?_
  refine x_icmp_ne (pc := 74) (tgt := 89) dX11_packs_74 (by decide) ?_ ?_
  · refine x_aload_n (pc := 77) dX11_packs_77 (i := 0) rfl rfl ?_
    refine x_gR (pc := 78) (k := 0) fcX11 dX11_packs_78 q136 (by decide) rfl (fun v17 => ?_)
    refine x_bipush (pc := 81) (v := 10) dX11_packs_81 (by decide) ?_
    refine x_iload_n (pc := 83) dX11_packs_83 (i := 2) rfl rfl ?_
    refine x_iadd (pc := 84) dX11_packs_84 ?_
    refine x_ldI (pc := 85) dX11_packs_85 (fun v18 => ?_)
    refine x_goto (pc := 86) (tgt := 90) dX11_packs_86 (by decide) ?_
    exact xX11_packs_90 (k17 := k17) hk17 m11 x0 x1 x2 x3 v18 (((2 : Int32) * v13) + (1 : Int32)) v12 
  · refine x_iload_n (pc := 89) dX11_packs_89 (i := 3) rfl rfl ?_
    exact xX11_packs_90 (k17 := k17) hk17 m11 x0 x1 x2 x3 x3 (((2 : Int32) * v13) + (1 : Int32)) v12 
set_option maxHeartbeats 4000000 in
theorem xX11_packs_17 {n0 c0 s0 cx cy : Nat} {S : mSh} : ∀ (n : Nat) (μ : mMm) (x0 : Nat) (x1 : Int32) (x2 : Int32) (d3 : Option Value), mX MX11_packs n0 c0 s0 17 [some (.ref x0), some (.int x1), some (.int x2), d3] [] (S, μ, cx, cy) (iMV S cx cy) (lX11_packs_17 S n μ x0 x1 x2) := by
  intro n
  induction n with
  | zero => intros; exact x_none
  | succ n ih =>
    intro μ x0 x1 x2 d3
    unfold lX11_packs_17
    refine x_iload_n (pc := 17) dX11_packs_17 (i := 2) rfl rfl ?_
    refine x_aload_n (pc := 18) dX11_packs_18 (i := 0) rfl rfl ?_
    refine x_gR (pc := 19) (k := 0) fcX11 dX11_packs_19 q136 (by decide) rfl (fun v5 => ?_)
    refine x_iconst (pc := 22) (v := 0) dX11_packs_22 (by decide) ?_
    refine x_ldI (pc := 23) dX11_packs_23 (fun v6 => ?_)
    refine x_icmp_ge (pc := 24) (tgt := 108) dX11_packs_24 (by decide) ?_ ?_
    · exact x_ret rfl dX11_packs_108 rfl
    · refine x_aload_n (pc := 27) dX11_packs_27 (i := 0) rfl rfl ?_
      refine x_iload_n (pc := 28) dX11_packs_28 (i := 1) rfl rfl ?_
      refine x_iload_n (pc := 29) dX11_packs_29 (i := 2) rfl rfl ?_
      refine x_callVi (pc := 30) (As := [.int x1, .int x2]) (rest := []) (vx := fun a => a) (μf := fun _ => μ) fcX11 (mX11_lengthBy S μ cx cy x0 x1 x2) (fun _ => rfl) rfl (fun _ h => ifok h) dX11_packs_30 q444 kX11_lengthBy rfl ⟨by decide, by decide⟩ rfl (Nat.le_of_ble_eq_true rfl) (fun v7 => ?_)
      refine x_istore_n (pc := 33) dX11_packs_33 (i := 3) rfl (by decide) (l' := [some (.ref x0), some (.int x1), some (.int x2), some (.int v7)]) rfl ?_
      refine x_aload_n (pc := 34) dX11_packs_34 (i := 0) rfl rfl ?_
      refine x_gR (pc := 35) (k := 5) fcX11 dX11_packs_35 q139 (by decide) rfl (fun v8 => ?_)
      refine x_iconst (pc := 38) (v := 2) dX11_packs_38 (by decide) ?_
      refine x_aload_n (pc := 39) dX11_packs_39 (i := 0) rfl rfl ?_
      refine x_gI (pc := 40) (k := 6) fcX11 dX11_packs_40 q427 (by decide) rfl (fun v9 => ?_)
      refine x_imul (pc := 43) dX11_packs_43 ?_
      refine x_iload_n (pc := 44) dX11_packs_44 (i := 3) rfl rfl ?_
      refine x_iconst (pc := 45) (v := 1) dX11_packs_45 (by decide) ?_
      refine x_icmp_ne (pc := 46) (tgt := 53) dX11_packs_46 (by decide) ?_ ?_
      · refine x_iconst (pc := 49) (v := 0) dX11_packs_49 (by decide) ?_
        refine x_goto (pc := 50) (tgt := 59) dX11_packs_50 (by decide) ?_
        exact xX11_packs_59 (k17 := (lX11_packs_17 S n)) ih μ x0 x1 x2 v7 (0 : Int32) ((2 : Int32) * v9) v8 
      · refine x_aload_n (pc := 53) dX11_packs_53 (i := 0) rfl rfl ?_
        refine x_iload_n (pc := 54) dX11_packs_54 (i := 2) rfl rfl ?_
        refine x_iload_n (pc := 55) dX11_packs_55 (i := 3) rfl rfl ?_
        refine x_callVi (pc := 56) (As := [.int x2, .int v7]) (rest := [.int ((2 : Int32) * v9), .ref v8]) (vx := fun a => a) (μf := fun _ => μ) fcX11 (mX11_distanceFor S μ cx cy x0 x2 v7) (fun _ => rfl) rfl (fun _ h => ifok h) dX11_packs_56 q448 kX11_distanceFor rfl ⟨by decide, by decide⟩ rfl (Nat.le_of_ble_eq_true rfl) (fun v10 => ?_)
        exact xX11_packs_59 (k17 := (lX11_packs_17 S n)) ih μ x0 x1 x2 v7 v10 ((2 : Int32) * v9) v8 
set_option maxHeartbeats 4000000 in
theorem xbX11_packs {n0 c0 s0 cx cy : Nat} {S : mSh} {μ : mMm} (o : Nat) (p0 : Int32) : mX MX11_packs n0 c0 s0 0 [some (.ref o), some (.int p0), none, none] [] (S, μ, cx, cy) (iMV S cx cy) (bX11_packs S μ o p0) := by
  unfold bX11_packs
  refine x_aload_n (pc := 0) dX11_packs_0 (i := 0) rfl rfl ?_
  refine x_aload_n (pc := 1) dX11_packs_1 (i := 0) rfl rfl ?_
  refine x_gR (pc := 2) (k := 0) fcX11 dX11_packs_2 q136 (by decide) rfl (fun v1 => ?_)
  refine x_iconst (pc := 5) (v := 1) dX11_packs_5 (by decide) ?_
  refine x_ldI (pc := 6) dX11_packs_6 (fun v2 => ?_)
  refine x_callVv (pc := 7) (As := [.int v2]) (rest := []) (μf := fun a => a) fcX11 (mX11_costsToEnd S μ cx cy o v2) (fun _ => rfl) rfl (fun _ h => ifok h) dX11_packs_7 q432 kX11_costsToEnd rfl ⟨by decide, by decide⟩ rfl (Nat.le_of_ble_eq_true rfl) (fun m3 => ?_)
  refine x_aload_n (pc := 10) dX11_packs_10 (i := 0) rfl rfl ?_
  refine x_iconst (pc := 11) (v := 0) dX11_packs_11 (by decide) ?_
  refine x_pI (pc := 12) (k := 6) fcX11 dX11_packs_12 q427 (by decide) rfl rfl rfl rfl (fun m4 => ?_)
  refine x_iconst (pc := 15) (v := 0) dX11_packs_15 (by decide) ?_
  refine x_istore_n (pc := 16) dX11_packs_16 (i := 2) rfl (by decide) (l' := [some (.ref o), some (.int p0), some (.int (0 : Int32)), none]) rfl ?_
  exact xX11_packs_17 FU m4 o p0 (0 : Int32) _
theorem mX11_packs (S : mSh) (μ : mMm) (cx cy : Nat) (o : Nat) (p0 : Int32) : mMet MX11_packs [.ref o, .int p0] (S, μ, cx, cy) (iMV S cx cy) (fX11_packs S μ o p0) := mMet.of rfl (by decide) rfl (fun h => by cases h) (Nat.le_of_ble_eq_true rfl) (mX.ck (fun _ => xbX11_packs o p0))
/-! SlideMillsModel.packNow(I)I -/
def lX11_packNow_29 (S : mSh) : Nat → mMm → Nat → Int32 → Option (Int32 × mMm)
  | 0, _, _, _ => none
  | n + 1, μ, x0, x2 => (gI S μ x0 11 6).bind fun v6 => if ((2 : Int32) * v6) ≤ x2 then ((gI S μ x0 11 6).bind fun v7 => some (v7, μ)) else ((gR S x0 11 0).bind fun v8 => (gR S x0 11 5).bind fun v9 => (ldI S μ v9 x2).bind fun v10 => (stI S μ v8 ((50 : Int32) + x2) v10).bind fun m11 => lX11_packNow_29 S n m11 x0 (x2 + (1 : Int32)))
def bX11_packNow (S : mSh) (μ : mMm) (o : Nat) (p0 : Int32) : Option (Int32 × mMm) := (fX11_packs S μ o p0).bind fun m1 => (fX11_empties S m1 o (6 : Int32) (50 : Int32) (80 : Int32)).bind fun r2 => (gR S o 11 0).bind fun v3 => (gI S r2.2 o 11 6).bind fun v4 => (stI S r2.2 v3 (6 : Int32) v4).bind fun m5 => lX11_packNow_29 S FU m5 o (0 : Int32)
def fX11_packNow (S : mSh) (μ : mMm) (o : Nat) (p0 : Int32) : Option (Int32 × mMm) := if mok S o 11 = true then bX11_packNow S μ o p0 else none
abbrev MX11_packNow : mM := ((yX11_packNow, cX11_packNow, 3, (some .int)), (4, 96), (false, false), RX11, eT)
theorem kX11_packNow : mCalV MX11_packNow RX11 1 := ⟨q424, q425, q5, q426, by decide +kernel⟩
set_option maxHeartbeats 4000000 in
theorem xX11_packNow_29 {n0 c0 s0 cx cy : Nat} {S : mSh} : ∀ (n : Nat) (μ : mMm) (x0 : Nat) (x2 : Int32) (d1 : Option Value), mX MX11_packNow n0 c0 s0 29 [some (.ref x0), d1, some (.int x2)] [] (S, μ, cx, cy) (iMI S cx cy) (lX11_packNow_29 S n μ x0 x2) := by
  intro n
  induction n with
  | zero => intros; exact x_none
  | succ n ih =>
    intro μ x0 x2 d1
    unfold lX11_packNow_29
    refine x_iload_n (pc := 29) dX11_packNow_29 (i := 2) rfl rfl ?_
    refine x_iconst (pc := 30) (v := 2) dX11_packNow_30 (by decide) ?_
    refine x_aload_n (pc := 31) dX11_packNow_31 (i := 0) rfl rfl ?_
    refine x_gI (pc := 32) (k := 6) fcX11 dX11_packNow_32 q427 (by decide) rfl (fun v6 => ?_)
    refine x_imul (pc := 35) dX11_packNow_35 ?_
    refine x_icmp_ge (pc := 36) (tgt := 60) dX11_packNow_36 (by decide) ?_ ?_
    · refine x_aload_n (pc := 60) dX11_packNow_60 (i := 0) rfl rfl ?_
      refine x_gI (pc := 61) (k := 6) fcX11 dX11_packNow_61 q427 (by decide) rfl (fun v7 => ?_)
      exact x_iret rfl dX11_packNow_64 rfl rfl
    · refine x_aload_n (pc := 39) dX11_packNow_39 (i := 0) rfl rfl ?_
      refine x_gR (pc := 40) (k := 0) fcX11 dX11_packNow_40 q136 (by decide) rfl (fun v8 => ?_)
      refine x_bipush (pc := 43) (v := 50) dX11_packNow_43 (by decide) ?_
      refine x_iload_n (pc := 45) dX11_packNow_45 (i := 2) rfl rfl ?_
      refine x_iadd (pc := 46) dX11_packNow_46 ?_
      refine x_aload_n (pc := 47) dX11_packNow_47 (i := 0) rfl rfl ?_
      refine x_gR (pc := 48) (k := 5) fcX11 dX11_packNow_48 q139 (by decide) rfl (fun v9 => ?_)
      refine x_iload_n (pc := 51) dX11_packNow_51 (i := 2) rfl rfl ?_
      refine x_ldI (pc := 52) dX11_packNow_52 (fun v10 => ?_)
      refine x_stI (pc := 53) dX11_packNow_53 (fun m11 => ?_)
      refine x_iinc (pc := 54) (v := x2 + (1 : Int32)) dX11_packNow_54 rfl (by rw [show Int32.ofInt (1) = (1 : Int32) from by decide]) (by decide) (l' := [some (.ref x0), (kl d1), some (.int (x2 + (1 : Int32)))]) rfl ?_
      refine x_goto (pc := 57) (tgt := 29) dX11_packNow_57 (by decide) ?_
      exact ih m11 x0 (x2 + (1 : Int32)) _
set_option maxHeartbeats 4000000 in
theorem xbX11_packNow {n0 c0 s0 cx cy : Nat} {S : mSh} {μ : mMm} (o : Nat) (p0 : Int32) : mX MX11_packNow n0 c0 s0 0 [some (.ref o), some (.int p0), none] [] (S, μ, cx, cy) (iMI S cx cy) (bX11_packNow S μ o p0) := by
  unfold bX11_packNow
  refine x_aload_n (pc := 0) dX11_packNow_0 (i := 0) rfl rfl ?_
  refine x_iload_n (pc := 1) dX11_packNow_1 (i := 1) rfl rfl ?_
  refine x_callVv (pc := 2) (As := [.int p0]) (rest := []) (μf := fun a => a) fcX11 (mX11_packs S μ cx cy o p0) (fun _ => rfl) rfl (fun _ h => ifok h) dX11_packNow_2 q428 kX11_packs rfl ⟨by decide, by decide⟩ rfl (Nat.le_of_ble_eq_true rfl) (fun m1 => ?_)
  refine x_aload_n (pc := 5) dX11_packNow_5 (i := 0) rfl rfl ?_
  refine x_bipush (pc := 6) (v := 6) dX11_packNow_6 (by decide) ?_
  refine x_bipush (pc := 8) (v := 50) dX11_packNow_8 (by decide) ?_
  refine x_bipush (pc := 10) (v := 80) dX11_packNow_10 (by decide) ?_
  refine x_callVi (pc := 12) (As := [.int (6 : Int32), .int (50 : Int32), .int (80 : Int32)]) (rest := []) (vx := fun a => a.1) (μf := fun a => a.2) fcX11 (mX11_empties S m1 cx cy o (6 : Int32) (50 : Int32) (80 : Int32)) (fun _ => rfl) rfl (fun _ h => ifok h) dX11_packNow_12 q262 kX11_empties rfl ⟨by decide, by decide⟩ rfl (Nat.le_of_ble_eq_true rfl) (fun r2 => ?_)
  refine x_pop (pc := 15) dX11_packNow_15 rfl ?_
  refine x_aload_n (pc := 16) dX11_packNow_16 (i := 0) rfl rfl ?_
  refine x_gR (pc := 17) (k := 0) fcX11 dX11_packNow_17 q136 (by decide) rfl (fun v3 => ?_)
  refine x_bipush (pc := 20) (v := 6) dX11_packNow_20 (by decide) ?_
  refine x_aload_n (pc := 22) dX11_packNow_22 (i := 0) rfl rfl ?_
  refine x_gI (pc := 23) (k := 6) fcX11 dX11_packNow_23 q427 (by decide) rfl (fun v4 => ?_)
  refine x_stI (pc := 26) dX11_packNow_26 (fun m5 => ?_)
  refine x_iconst (pc := 27) (v := 0) dX11_packNow_27 (by decide) ?_
  refine x_istore_n (pc := 28) dX11_packNow_28 (i := 2) rfl (by decide) (l' := [some (.ref o), some (.int p0), some (.int (0 : Int32))]) rfl ?_
  exact xX11_packNow_29 FU m5 o (0 : Int32) _
theorem mX11_packNow (S : mSh) (μ : mMm) (cx cy : Nat) (o : Nat) (p0 : Int32) : mMet MX11_packNow [.ref o, .int p0] (S, μ, cx, cy) (iMI S cx cy) (fX11_packNow S μ o p0) := mMet.of rfl (by decide) rfl (fun h => by cases h) (Nat.le_of_ble_eq_true rfl) (mX.ck (fun _ => xbX11_packNow o p0))
/-! SlideMillsModel.pack(I)I -/
def bX11_pack (S : mSh) (μ : mMm) (o : Nat) (p0 : Int32) : Option (Int32 × mMm) := (fX11_in p0 (0 : Int32) (2 : Int32)).bind fun v1 => (fX11_asks S μ o v1).bind fun r2 => if r2.1 = 0 then (some ((0 : Int32), r2.2)) else ((fX11_record S r2.2 o).bind fun m3 => (fX11_packNow S m3 o p0).bind fun r4 => some (r4.1, r4.2))
def fX11_pack (S : mSh) (μ : mMm) (o : Nat) (p0 : Int32) : Option (Int32 × mMm) := if mok S o 11 = true then bX11_pack S μ o p0 else none
abbrev MX11_pack : mM := ((yX11_pack, cX11_pack, 2, (some .int)), (5, 118), (false, false), RX11, eT)
theorem kX11_pack : mCalV MX11_pack RX11 1 := ⟨q420, q421, q5, q422, by decide +kernel⟩
set_option maxHeartbeats 4000000 in
theorem xbX11_pack {n0 c0 s0 cx cy : Nat} {S : mSh} {μ : mMm} (o : Nat) (p0 : Int32) : mX MX11_pack n0 c0 s0 0 [some (.ref o), some (.int p0)] [] (S, μ, cx, cy) (iMI S cx cy) (bX11_pack S μ o p0) := by
  unfold bX11_pack
  refine x_aload_n (pc := 0) dX11_pack_0 (i := 0) rfl rfl ?_
  refine x_iload_n (pc := 1) dX11_pack_1 (i := 1) rfl rfl ?_
  refine x_iconst (pc := 2) (v := 0) dX11_pack_2 (by decide) ?_
  refine x_iconst (pc := 3) (v := 2) dX11_pack_3 (by decide) ?_
  refine x_callSi (pc := 4) (As := [.int p0, .int (0 : Int32), .int (2 : Int32)]) (rest := [.ref o]) (vx := fun a => a) (μf := fun _ => μ) (mX11_in S μ cx cy p0 (0 : Int32) (2 : Int32)) (fun _ => rfl) rfl dX11_pack_4 q199 kX11_in rfl ⟨by decide, by decide⟩ rfl (Nat.le_of_ble_eq_true rfl) (fun v1 => ?_)
  refine x_callVi (pc := 7) (As := [.int v1]) (rest := []) (vx := fun a => a.1) (μf := fun a => a.2) fcX11 (mX11_asks S μ cx cy o v1) (fun _ => rfl) rfl (fun _ h => ifok h) dX11_pack_7 q202 kX11_asks rfl ⟨by decide, by decide⟩ rfl (Nat.le_of_ble_eq_true rfl) (fun r2 => ?_)
  refine x_if_ne (pc := 10) (tgt := 15) dX11_pack_10 (by decide) ?_ ?_
  · refine x_iconst (pc := 13) (v := 0) dX11_pack_13 (by decide) ?_
    exact x_iret rfl dX11_pack_14 rfl rfl
  · refine x_aload_n (pc := 15) dX11_pack_15 (i := 0) rfl rfl ?_
    refine x_callVv (pc := 16) (As := []) (rest := []) (μf := fun a => a) fcX11 (mX11_record S r2.2 cx cy o) (fun _ => rfl) rfl (fun _ h => ifok h) dX11_pack_16 q211 kX11_record rfl ⟨by decide, by decide⟩ rfl (Nat.le_of_ble_eq_true rfl) (fun m3 => ?_)
    refine x_aload_n (pc := 19) dX11_pack_19 (i := 0) rfl rfl ?_
    refine x_iload_n (pc := 20) dX11_pack_20 (i := 1) rfl rfl ?_
    refine x_callVi (pc := 21) (As := [.int p0]) (rest := []) (vx := fun a => a.1) (μf := fun a => a.2) fcX11 (mX11_packNow S m3 cx cy o p0) (fun _ => rfl) rfl (fun _ h => ifok h) dX11_pack_21 q423 kX11_packNow rfl ⟨by decide, by decide⟩ rfl (Nat.le_of_ble_eq_true rfl) (fun r4 => ?_)
    exact x_iret rfl dX11_pack_24 rfl rfl
theorem mX11_pack (S : mSh) (μ : mMm) (cx cy : Nat) (o : Nat) (p0 : Int32) : mMet MX11_pack [.ref o, .int p0] (S, μ, cx, cy) (iMI S cx cy) (fX11_pack S μ o p0) := mMet.of rfl (by decide) rfl (fun h => by cases h) (Nat.le_of_ble_eq_true rfl) (mX.ck (fun _ => xbX11_pack o p0))
/-! SlideMillsModel.distance(I)I -/
def bX11_distance (S : mSh) (μ : mMm) (o : Nat) (p0 : Int32) : Option (Int32) := (gR S o 11 0).bind fun v1 => (ldI S μ v1 ((50 : Int32) + ((2 : Int32) * p0))).bind fun v2 => some v2
def fX11_distance (S : mSh) (μ : mMm) (o : Nat) (p0 : Int32) : Option (Int32) := if mok S o 11 = true then bX11_distance S μ o p0 else none
abbrev MX11_distance : mM := ((yX11_distance, cX11_distance, 2, (some .int)), (0, 0), (false, false), RX11, eT)
theorem kX11_distance : mCalV MX11_distance RX11 1 := ⟨q497, q498, q5, q499, by decide +kernel⟩
set_option maxHeartbeats 4000000 in
theorem xbX11_distance {n0 c0 s0 cx cy : Nat} {S : mSh} {μ : mMm} (o : Nat) (p0 : Int32) : mX MX11_distance n0 c0 s0 0 [some (.ref o), some (.int p0)] [] (S, μ, cx, cy) (iPI S μ cx cy) (bX11_distance S μ o p0) := by
  unfold bX11_distance
  refine x_aload_n (pc := 0) dX11_distance_0 (i := 0) rfl rfl ?_
  refine x_gR (pc := 1) (k := 0) fcX11 dX11_distance_1 q136 (by decide) rfl (fun v1 => ?_)
  refine x_bipush (pc := 4) (v := 50) dX11_distance_4 (by decide) ?_
  refine x_iconst (pc := 6) (v := 2) dX11_distance_6 (by decide) ?_
  refine x_iload_n (pc := 7) dX11_distance_7 (i := 1) rfl rfl ?_
  refine x_imul (pc := 8) dX11_distance_8 ?_
  refine x_iadd (pc := 9) dX11_distance_9 ?_
  refine x_ldI (pc := 10) dX11_distance_10 (fun v2 => ?_)
  exact x_iret rfl dX11_distance_11 rfl rfl
theorem mX11_distance (S : mSh) (μ : mMm) (cx cy : Nat) (o : Nat) (p0 : Int32) : mMet MX11_distance [.ref o, .int p0] (S, μ, cx, cy) (iPI S μ cx cy) (fX11_distance S μ o p0) := mMet.of rfl (by decide) rfl (fun h => by cases h) (Nat.le_of_ble_eq_true rfl) (mX.ck (fun _ => xbX11_distance o p0))
/-! SlideMillsModel.length(I)I -/
def bX11_length (S : mSh) (μ : mMm) (o : Nat) (p0 : Int32) : Option (Int32) := (fX11_distance S μ o p0).bind fun v1 => if v1 ≤ 0 then (some (1 : Int32)) else ((gR S o 11 0).bind fun v2 => (ldI S μ v2 (((50 : Int32) + ((2 : Int32) * p0)) + (1 : Int32))).bind fun v3 => some v3)
def fX11_length (S : mSh) (μ : mMm) (o : Nat) (p0 : Int32) : Option (Int32) := if mok S o 11 = true then bX11_length S μ o p0 else none
abbrev MX11_length : mM := ((yX11_length, cX11_length, 2, (some .int)), (1, 21), (false, false), RX11, eT)
theorem kX11_length : mCalV MX11_length RX11 1 := ⟨q501, q502, q5, q503, by decide +kernel⟩
set_option maxHeartbeats 4000000 in
theorem xbX11_length {n0 c0 s0 cx cy : Nat} {S : mSh} {μ : mMm} (o : Nat) (p0 : Int32) : mX MX11_length n0 c0 s0 0 [some (.ref o), some (.int p0)] [] (S, μ, cx, cy) (iPI S μ cx cy) (bX11_length S μ o p0) := by
  unfold bX11_length
  refine x_aload_n (pc := 0) dX11_length_0 (i := 0) rfl rfl ?_
  refine x_iload_n (pc := 1) dX11_length_1 (i := 1) rfl rfl ?_
  refine x_callVi (pc := 2) (As := [.int p0]) (rest := []) (vx := fun a => a) (μf := fun _ => μ) fcX11 (mX11_distance S μ cx cy o p0) (fun _ => rfl) rfl (fun _ h => ifok h) dX11_length_2 q496 kX11_distance rfl ⟨by decide, by decide⟩ rfl (Nat.le_of_ble_eq_true rfl) (fun v1 => ?_)
  refine x_if_le (pc := 5) (tgt := 24) dX11_length_5 (by decide) ?_ ?_
  · refine x_iconst (pc := 24) (v := 1) dX11_length_24 (by decide) ?_
    exact x_iret rfl dX11_length_25 rfl rfl
  · refine x_aload_n (pc := 8) dX11_length_8 (i := 0) rfl rfl ?_
    refine x_gR (pc := 9) (k := 0) fcX11 dX11_length_9 q136 (by decide) rfl (fun v2 => ?_)
    refine x_bipush (pc := 12) (v := 50) dX11_length_12 (by decide) ?_
    refine x_iconst (pc := 14) (v := 2) dX11_length_14 (by decide) ?_
    refine x_iload_n (pc := 15) dX11_length_15 (i := 1) rfl rfl ?_
    refine x_imul (pc := 16) dX11_length_16 ?_
    refine x_iadd (pc := 17) dX11_length_17 ?_
    refine x_iconst (pc := 18) (v := 1) dX11_length_18 (by decide) ?_
    refine x_iadd (pc := 19) dX11_length_19 ?_
    refine x_ldI (pc := 20) dX11_length_20 (fun v3 => ?_)
    refine x_goto (pc := 21) (tgt := 25) dX11_length_21 (by decide) ?_
    exact x_iret rfl dX11_length_25 rfl rfl
theorem mX11_length (S : mSh) (μ : mMm) (cx cy : Nat) (o : Nat) (p0 : Int32) : mMet MX11_length [.ref o, .int p0] (S, μ, cx, cy) (iPI S μ cx cy) (fX11_length S μ o p0) := mMet.of rfl (by decide) rfl (fun h => by cases h) (Nat.le_of_ble_eq_true rfl) (mX.ck (fun _ => xbX11_length o p0))
/-! SlideMillsModel.unpacks()V -/
def lX11_unpacks_173 (k17 : mMm → Nat → Int32 → Option (mMm)) (S : mSh) (μ : mMm) (x0 : Nat) (x1 : Int32) : Option (mMm) := k17 μ x0 (x1 + (1 : Int32))
def lX11_unpacks_156 (k17 : mMm → Nat → Int32 → Option (mMm)) (k93 : mMm → Nat → Int32 → Int32 → Option (mMm)) (S : mSh) (μ : mMm) (x0 : Nat) (x1 : Int32) (x2 : Int32) (t0 : Int32) (t1 : Int32) (t2 : Nat) : Option (mMm) := (stI S μ t2 t1 t0).bind fun m21 => (gI S m21 x0 11 14).bind fun v22 => (pI S m21 x0 11 14 (v22 + (1 : Int32))).bind fun m23 => k93 m23 x0 x1 (x2 + (1 : Int32))
def lX11_unpacks_93 (k17 : mMm → Nat → Int32 → Option (mMm)) (S : mSh) : Nat → mMm → Nat → Int32 → Int32 → Option (mMm)
  | 0, _, _, _, _ => none
  | n + 1, μ, x0, x1, x2 => (fX11_length S μ x0 x1).bind fun v14 => if v14 ≤ x2 then (lX11_unpacks_173 k17 S μ x0 x1) else ((gI S μ x0 11 13).bind fun v15 => if v15 = 0 then ((gR S x0 11 8).bind fun v16 => (gI S μ x0 11 14).bind fun v17 => (fX11_distance S μ x0 x1).bind fun v18 => if v18 ≤ 0 then ((gR S x0 11 0).bind fun v19 => (ldI S μ v19 (((50 : Int32) + ((2 : Int32) * x1)) + (1 : Int32))).bind fun v20 => lX11_unpacks_156 k17 (lX11_unpacks_93 k17 S n) S μ x0 x1 x2 v20 v17 v16) else ((gR S x0 11 8).bind fun v24 => (gI S μ x0 11 14).bind fun v25 => (fX11_distance S μ x0 x1).bind fun v26 => (ldI S μ v24 (v25 - v26)).bind fun v27 => lX11_unpacks_156 k17 (lX11_unpacks_93 k17 S n) S μ x0 x1 x2 v27 v17 v16)) else (lX11_unpacks_173 k17 S μ x0 x1))
def lX11_unpacks_88 (k17 : mMm → Nat → Int32 → Option (mMm)) (S : mSh) (μ : mMm) (x0 : Nat) (x1 : Int32) (t0 : Int32) (t1 : Nat) : Option (mMm) := (pI S μ t1 11 12 t0).bind fun m13 => lX11_unpacks_93 k17 S FU m13 x0 x1 (0 : Int32)
def lX11_unpacks_72 (k17 : mMm → Nat → Int32 → Option (mMm)) (S : mSh) (μ : mMm) (x0 : Nat) (x1 : Int32) (t0 : Int32) (t1 : Nat) : Option (mMm) := (pI S μ t1 11 13 t0).bind fun m11 => (gI S m11 x0 11 13).bind fun v12 => if v12 ≤ 0 then (lX11_unpacks_88 k17 S m11 x0 x1 (-1 : Int32) x0) else (lX11_unpacks_88 k17 S m11 x0 x1 x1 x0)
def lX11_unpacks_17 (S : mSh) : Nat → mMm → Nat → Int32 → Option (mMm)
  | 0, _, _, _ => none
  | n + 1, μ, x0, x1 => (gR S x0 11 0).bind fun v4 => (ldI S μ v4 (6 : Int32)).bind fun v5 => if v5 ≤ x1 then (some μ) else ((gI S μ x0 11 12).bind fun v6 => if 0 ≤ v6 then (some μ) else ((fX11_distance S μ x0 x1).bind fun v7 => (gI S μ x0 11 14).bind fun v8 => if v7 ≤ v8 then ((gI S μ x0 11 14).bind fun v9 => (fX11_length S μ x0 x1).bind fun v10 => if (v9 + v10) ≤ (40 : Int32) then (lX11_unpacks_72 (lX11_unpacks_17 S n) S μ x0 x1 (0 : Int32) x0) else (lX11_unpacks_72 (lX11_unpacks_17 S n) S μ x0 x1 (2 : Int32) x0)) else (lX11_unpacks_72 (lX11_unpacks_17 S n) S μ x0 x1 (1 : Int32) x0)))
def bX11_unpacks (S : mSh) (μ : mMm) (o : Nat) : Option (mMm) := (pI S μ o 11 12 (-1 : Int32)).bind fun m1 => (pI S m1 o 11 13 (0 : Int32)).bind fun m2 => (pI S m2 o 11 14 (0 : Int32)).bind fun m3 => lX11_unpacks_17 S FU m3 o (0 : Int32)
def fX11_unpacks (S : mSh) (μ : mMm) (o : Nat) : Option (mMm) := if mok S o 11 = true then bX11_unpacks S μ o else none
abbrev MX11_unpacks : mM := ((yX11_unpacks, cX11_unpacks, 3, none), (2, 42), (false, false), RX11, eT)
theorem kX11_unpacks : mCalV MX11_unpacks RX11 0 := ⟨q491, q492, q5, q493, by decide +kernel⟩
set_option maxHeartbeats 4000000 in
theorem xX11_unpacks_173 {n0 c0 s0 cx cy : Nat} {S : mSh} {k17 : mMm → Nat → Int32 → Option (mMm)} (hk17 : ∀ (μ : mMm) (x0 : Nat) (x1 : Int32) (d2 : Option Value), mX MX11_unpacks n0 c0 s0 17 [some (.ref x0), some (.int x1), d2] [] (S, μ, cx, cy) (iMV S cx cy) (k17 μ x0 x1)) (μ : mMm) (x0 : Nat) (x1 : Int32) (d2 : Option Value) : mX MX11_unpacks n0 c0 s0 173 [some (.ref x0), some (.int x1), d2] [] (S, μ, cx, cy) (iMV S cx cy) (lX11_unpacks_173 k17 S μ x0 x1) := by
  unfold lX11_unpacks_173
  refine x_iinc (pc := 173) (v := x1 + (1 : Int32)) dX11_unpacks_173 rfl (by rw [show Int32.ofInt (1) = (1 : Int32) from by decide]) (by decide) (l' := [some (.ref x0), some (.int (x1 + (1 : Int32))), d2]) rfl ?_
  refine x_goto (pc := 176) (tgt := 17) dX11_unpacks_176 (by decide) ?_
  exact hk17 μ x0 (x1 + (1 : Int32)) _
set_option maxHeartbeats 4000000 in
theorem xX11_unpacks_156 {n0 c0 s0 cx cy : Nat} {S : mSh} {k17 : mMm → Nat → Int32 → Option (mMm)} {k93 : mMm → Nat → Int32 → Int32 → Option (mMm)} (hk17 : ∀ (μ : mMm) (x0 : Nat) (x1 : Int32) (d2 : Option Value), mX MX11_unpacks n0 c0 s0 17 [some (.ref x0), some (.int x1), d2] [] (S, μ, cx, cy) (iMV S cx cy) (k17 μ x0 x1)) (hk93 : ∀ (μ : mMm) (x0 : Nat) (x1 : Int32) (x2 : Int32), mX MX11_unpacks n0 c0 s0 93 [some (.ref x0), some (.int x1), some (.int x2)] [] (S, μ, cx, cy) (iMV S cx cy) (k93 μ x0 x1 x2)) (μ : mMm) (x0 : Nat) (x1 : Int32) (x2 : Int32) (t0 : Int32) (t1 : Int32) (t2 : Nat) : mX MX11_unpacks n0 c0 s0 156 [some (.ref x0), some (.int x1), some (.int x2)] [.int t0, .int t1, .ref t2] (S, μ, cx, cy) (iMV S cx cy) (lX11_unpacks_156 k17 k93 S μ x0 x1 x2 t0 t1 t2) := by
  unfold lX11_unpacks_156
  refine x_stI (pc := 156) dX11_unpacks_156 (fun m21 => ?_)
  refine x_aload_n (pc := 157) dX11_unpacks_157 (i := 0) rfl rfl ?_
  refine x_dup (pc := 158) dX11_unpacks_158 rfl ?_
  refine x_gI (pc := 159) (k := 14) fcX11 dX11_unpacks_159 q495 (by decide) rfl (fun v22 => ?_)
  refine x_iconst (pc := 162) (v := 1) dX11_unpacks_162 (by decide) ?_
  refine x_iadd (pc := 163) dX11_unpacks_163 ?_
  refine x_pI (pc := 164) (k := 14) fcX11 dX11_unpacks_164 q495 (by decide) rfl rfl rfl rfl (fun m23 => ?_)
  refine x_iinc (pc := 167) (v := x2 + (1 : Int32)) dX11_unpacks_167 rfl (by rw [show Int32.ofInt (1) = (1 : Int32) from by decide]) (by decide) (l' := [some (.ref x0), some (.int x1), some (.int (x2 + (1 : Int32)))]) rfl ?_
  refine x_goto (pc := 170) (tgt := 93) dX11_unpacks_170 (by decide) ?_
  exact hk93 m23 x0 x1 (x2 + (1 : Int32)) 
set_option maxHeartbeats 4000000 in
theorem xX11_unpacks_93 {n0 c0 s0 cx cy : Nat} {S : mSh} {k17 : mMm → Nat → Int32 → Option (mMm)} (hk17 : ∀ (μ : mMm) (x0 : Nat) (x1 : Int32) (d2 : Option Value), mX MX11_unpacks n0 c0 s0 17 [some (.ref x0), some (.int x1), d2] [] (S, μ, cx, cy) (iMV S cx cy) (k17 μ x0 x1)) : ∀ (n : Nat) (μ : mMm) (x0 : Nat) (x1 : Int32) (x2 : Int32), mX MX11_unpacks n0 c0 s0 93 [some (.ref x0), some (.int x1), some (.int x2)] [] (S, μ, cx, cy) (iMV S cx cy) (lX11_unpacks_93 k17 S n μ x0 x1 x2) := by
  intro n
  induction n with
  | zero => intros; exact x_none
  | succ n ih =>
    intro μ x0 x1 x2
    unfold lX11_unpacks_93
    refine x_iload_n (pc := 93) dX11_unpacks_93 (i := 2) rfl rfl ?_
    refine x_aload_n (pc := 94) dX11_unpacks_94 (i := 0) rfl rfl ?_
    refine x_iload_n (pc := 95) dX11_unpacks_95 (i := 1) rfl rfl ?_
    refine x_callVi (pc := 96) (As := [.int x1]) (rest := [.int x2]) (vx := fun a => a) (μf := fun _ => μ) fcX11 (mX11_length S μ cx cy x0 x1) (fun _ => rfl) rfl (fun _ h => ifok h) dX11_unpacks_96 q500 kX11_length rfl ⟨by decide, by decide⟩ rfl (Nat.le_of_ble_eq_true rfl) (fun v14 => ?_)
    refine x_icmp_ge (pc := 99) (tgt := 173) dX11_unpacks_99 (by decide) ?_ ?_
    · exact xX11_unpacks_173 (k17 := k17) hk17 μ x0 x1 _
    · refine x_aload_n (pc := 102) dX11_unpacks_102 (i := 0) rfl rfl ?_
      refine x_gI (pc := 103) (k := 13) fcX11 dX11_unpacks_103 q494 (by decide) rfl (fun v15 => ?_)
      refine x_if_ne (pc := 106) (tgt := 173) dX11_unpacks_106 (by decide) ?_ ?_
      · refine x_aload_n (pc := 109) dX11_unpacks_109 (i := 0) rfl rfl ?_
        refine x_gR (pc := 110) (k := 8) fcX11 dX11_unpacks_110 q141 (by decide) rfl (fun v16 => ?_)
        refine x_aload_n (pc := 113) dX11_unpacks_113 (i := 0) rfl rfl ?_
        refine x_gI (pc := 114) (k := 14) fcX11 dX11_unpacks_114 q495 (by decide) rfl (fun v17 => ?_)
        refine x_aload_n (pc := 117) dX11_unpacks_117 (i := 0) rfl rfl ?_
        refine x_iload_n (pc := 118) dX11_unpacks_118 (i := 1) rfl rfl ?_
        refine x_callVi (pc := 119) (As := [.int x1]) (rest := [.int v17, .ref v16]) (vx := fun a => a) (μf := fun _ => μ) fcX11 (mX11_distance S μ cx cy x0 x1) (fun _ => rfl) rfl (fun _ h => ifok h) dX11_unpacks_119 q496 kX11_distance rfl ⟨by decide, by decide⟩ rfl (Nat.le_of_ble_eq_true rfl) (fun v18 => ?_)
        refine x_if_le (pc := 122) (tgt := 143) dX11_unpacks_122 (by decide) ?_ ?_
        · refine x_aload_n (pc := 143) dX11_unpacks_143 (i := 0) rfl rfl ?_
          refine x_gR (pc := 144) (k := 0) fcX11 dX11_unpacks_144 q136 (by decide) rfl (fun v19 => ?_)
          refine x_bipush (pc := 147) (v := 50) dX11_unpacks_147 (by decide) ?_
          refine x_iconst (pc := 149) (v := 2) dX11_unpacks_149 (by decide) ?_
          refine x_iload_n (pc := 150) dX11_unpacks_150 (i := 1) rfl rfl ?_
          refine x_imul (pc := 151) dX11_unpacks_151 ?_
          refine x_iadd (pc := 152) dX11_unpacks_152 ?_
          refine x_iconst (pc := 153) (v := 1) dX11_unpacks_153 (by decide) ?_
          refine x_iadd (pc := 154) dX11_unpacks_154 ?_
          refine x_ldI (pc := 155) dX11_unpacks_155 (fun v20 => ?_)
          exact xX11_unpacks_156 (k17 := k17) (k93 := (lX11_unpacks_93 k17 S n)) hk17 ih μ x0 x1 x2 v20 v17 v16 
        · refine x_aload_n (pc := 125) dX11_unpacks_125 (i := 0) rfl rfl ?_
          refine x_gR (pc := 126) (k := 8) fcX11 dX11_unpacks_126 q141 (by decide) rfl (fun v24 => ?_)
          refine x_aload_n (pc := 129) dX11_unpacks_129 (i := 0) rfl rfl ?_
          refine x_gI (pc := 130) (k := 14) fcX11 dX11_unpacks_130 q495 (by decide) rfl (fun v25 => ?_)
          refine x_aload_n (pc := 133) dX11_unpacks_133 (i := 0) rfl rfl ?_
          refine x_iload_n (pc := 134) dX11_unpacks_134 (i := 1) rfl rfl ?_
          refine x_callVi (pc := 135) (As := [.int x1]) (rest := [.int v25, .ref v24, .int v17, .ref v16]) (vx := fun a => a) (μf := fun _ => μ) fcX11 (mX11_distance S μ cx cy x0 x1) (fun _ => rfl) rfl (fun _ h => ifok h) dX11_unpacks_135 q496 kX11_distance rfl ⟨by decide, by decide⟩ rfl (Nat.le_of_ble_eq_true rfl) (fun v26 => ?_)
          refine x_isub (pc := 138) dX11_unpacks_138 ?_
          refine x_ldI (pc := 139) dX11_unpacks_139 (fun v27 => ?_)
          refine x_goto (pc := 140) (tgt := 156) dX11_unpacks_140 (by decide) ?_
          exact xX11_unpacks_156 (k17 := k17) (k93 := (lX11_unpacks_93 k17 S n)) hk17 ih μ x0 x1 x2 v27 v17 v16 
      · exact xX11_unpacks_173 (k17 := k17) hk17 μ x0 x1 _
set_option maxHeartbeats 4000000 in
theorem xX11_unpacks_88 {n0 c0 s0 cx cy : Nat} {S : mSh} {k17 : mMm → Nat → Int32 → Option (mMm)} (hk17 : ∀ (μ : mMm) (x0 : Nat) (x1 : Int32) (d2 : Option Value), mX MX11_unpacks n0 c0 s0 17 [some (.ref x0), some (.int x1), d2] [] (S, μ, cx, cy) (iMV S cx cy) (k17 μ x0 x1)) (μ : mMm) (x0 : Nat) (x1 : Int32) (t0 : Int32) (t1 : Nat) (d2 : Option Value) : mX MX11_unpacks n0 c0 s0 88 [some (.ref x0), some (.int x1), d2] [.int t0, .ref t1] (S, μ, cx, cy) (iMV S cx cy) (lX11_unpacks_88 k17 S μ x0 x1 t0 t1) := by
  unfold lX11_unpacks_88
  refine x_pI (pc := 88) (k := 12) fcX11 dX11_unpacks_88 q489 (by decide) rfl rfl rfl rfl (fun m13 => ?_)
  refine x_iconst (pc := 91) (v := 0) dX11_unpacks_91 (by decide) ?_
  refine x_istore_n (pc := 92) dX11_unpacks_92 (i := 2) rfl (by decide) (l' := [some (.ref x0), some (.int x1), some (.int (0 : Int32))]) rfl ?_
  exact xX11_unpacks_93 (k17 := k17) hk17 FU m13 x0 x1 (0 : Int32) 
set_option maxHeartbeats 4000000 in
theorem xX11_unpacks_72 {n0 c0 s0 cx cy : Nat} {S : mSh} {k17 : mMm → Nat → Int32 → Option (mMm)} (hk17 : ∀ (μ : mMm) (x0 : Nat) (x1 : Int32) (d2 : Option Value), mX MX11_unpacks n0 c0 s0 17 [some (.ref x0), some (.int x1), d2] [] (S, μ, cx, cy) (iMV S cx cy) (k17 μ x0 x1)) (μ : mMm) (x0 : Nat) (x1 : Int32) (t0 : Int32) (t1 : Nat) (d2 : Option Value) : mX MX11_unpacks n0 c0 s0 72 [some (.ref x0), some (.int x1), d2] [.int t0, .ref t1] (S, μ, cx, cy) (iMV S cx cy) (lX11_unpacks_72 k17 S μ x0 x1 t0 t1) := by
  unfold lX11_unpacks_72
  refine x_pI (pc := 72) (k := 13) fcX11 dX11_unpacks_72 q494 (by decide) rfl rfl rfl rfl (fun m11 => ?_)
  refine x_aload_n (pc := 75) dX11_unpacks_75 (i := 0) rfl rfl ?_
  refine x_aload_n (pc := 76) dX11_unpacks_76 (i := 0) rfl rfl ?_
  refine x_gI (pc := 77) (k := 13) fcX11 dX11_unpacks_77 q494 (by decide) rfl (fun v12 => ?_)
  refine x_if_le (pc := 80) (tgt := 87) dX11_unpacks_80 (by decide) ?_ ?_
  · refine x_iconst (pc := 87) (v := -1) dX11_unpacks_87 (by decide) ?_
    exact xX11_unpacks_88 (k17 := k17) hk17 m11 x0 x1 (-1 : Int32) x0 _
  · refine x_iload_n (pc := 83) dX11_unpacks_83 (i := 1) rfl rfl ?_
    refine x_goto (pc := 84) (tgt := 88) dX11_unpacks_84 (by decide) ?_
    exact xX11_unpacks_88 (k17 := k17) hk17 m11 x0 x1 x1 x0 _
set_option maxHeartbeats 4000000 in
theorem xX11_unpacks_17 {n0 c0 s0 cx cy : Nat} {S : mSh} : ∀ (n : Nat) (μ : mMm) (x0 : Nat) (x1 : Int32) (d2 : Option Value), mX MX11_unpacks n0 c0 s0 17 [some (.ref x0), some (.int x1), d2] [] (S, μ, cx, cy) (iMV S cx cy) (lX11_unpacks_17 S n μ x0 x1) := by
  intro n
  induction n with
  | zero => intros; exact x_none
  | succ n ih =>
    intro μ x0 x1 d2
    unfold lX11_unpacks_17
    refine x_iload_n (pc := 17) dX11_unpacks_17 (i := 1) rfl rfl ?_
    refine x_aload_n (pc := 18) dX11_unpacks_18 (i := 0) rfl rfl ?_
    refine x_gR (pc := 19) (k := 0) fcX11 dX11_unpacks_19 q136 (by decide) rfl (fun v4 => ?_)
    refine x_bipush (pc := 22) (v := 6) dX11_unpacks_22 (by decide) ?_
    refine x_ldI (pc := 24) dX11_unpacks_24 (fun v5 => ?_)
    refine x_icmp_ge (pc := 25) (tgt := 179) dX11_unpacks_25 (by decide) ?_ ?_
    · exact x_ret rfl dX11_unpacks_179 rfl
    · refine x_aload_n (pc := 28) dX11_unpacks_28 (i := 0) rfl rfl ?_
      refine x_gI (pc := 29) (k := 12) fcX11 dX11_unpacks_29 q489 (by decide) rfl (fun v6 => ?_)
      refine x_if_ge (pc := 32) (tgt := 179) dX11_unpacks_32 (by decide) ?_ ?_
      · exact x_ret rfl dX11_unpacks_179 rfl
      · refine x_aload_n (pc := 35) dX11_unpacks_35 (i := 0) rfl rfl ?_
        refine x_aload_n (pc := 36) dX11_unpacks_36 (i := 0) rfl rfl ?_
        refine x_iload_n (pc := 37) dX11_unpacks_37 (i := 1) rfl rfl ?_
        refine x_callVi (pc := 38) (As := [.int x1]) (rest := [.ref x0]) (vx := fun a => a) (μf := fun _ => μ) fcX11 (mX11_distance S μ cx cy x0 x1) (fun _ => rfl) rfl (fun _ h => ifok h) dX11_unpacks_38 q496 kX11_distance rfl ⟨by decide, by decide⟩ rfl (Nat.le_of_ble_eq_true rfl) (fun v7 => ?_)
        refine x_aload_n (pc := 41) dX11_unpacks_41 (i := 0) rfl rfl ?_
        refine x_gI (pc := 42) (k := 14) fcX11 dX11_unpacks_42 q495 (by decide) rfl (fun v8 => ?_)
        refine x_icmp_le (pc := 45) (tgt := 52) dX11_unpacks_45 (by decide) ?_ ?_
        · refine x_aload_n (pc := 52) dX11_unpacks_52 (i := 0) rfl rfl ?_
          refine x_gI (pc := 53) (k := 14) fcX11 dX11_unpacks_53 q495 (by decide) rfl (fun v9 => ?_)
          refine x_aload_n (pc := 56) dX11_unpacks_56 (i := 0) rfl rfl ?_
          refine x_iload_n (pc := 57) dX11_unpacks_57 (i := 1) rfl rfl ?_
          refine x_callVi (pc := 58) (As := [.int x1]) (rest := [.int v9, .ref x0]) (vx := fun a => a) (μf := fun _ => μ) fcX11 (mX11_length S μ cx cy x0 x1) (fun _ => rfl) rfl (fun _ h => ifok h) dX11_unpacks_58 q500 kX11_length rfl ⟨by decide, by decide⟩ rfl (Nat.le_of_ble_eq_true rfl) (fun v10 => ?_)
          refine x_iadd (pc := 61) dX11_unpacks_61 ?_
          refine x_bipush (pc := 62) (v := 40) dX11_unpacks_62 (by decide) ?_
          refine x_icmp_le (pc := 64) (tgt := 71) dX11_unpacks_64 (by decide) ?_ ?_
          · refine x_iconst (pc := 71) (v := 0) dX11_unpacks_71 (by decide) ?_
            exact xX11_unpacks_72 (k17 := (lX11_unpacks_17 S n)) ih μ x0 x1 (0 : Int32) x0 _
          · refine x_iconst (pc := 67) (v := 2) dX11_unpacks_67 (by decide) ?_
            refine x_goto (pc := 68) (tgt := 72) dX11_unpacks_68 (by decide) ?_
            exact xX11_unpacks_72 (k17 := (lX11_unpacks_17 S n)) ih μ x0 x1 (2 : Int32) x0 _
        · refine x_iconst (pc := 48) (v := 1) dX11_unpacks_48 (by decide) ?_
          refine x_goto (pc := 49) (tgt := 72) dX11_unpacks_49 (by decide) ?_
          exact xX11_unpacks_72 (k17 := (lX11_unpacks_17 S n)) ih μ x0 x1 (1 : Int32) x0 _
set_option maxHeartbeats 4000000 in
theorem xbX11_unpacks {n0 c0 s0 cx cy : Nat} {S : mSh} {μ : mMm} (o : Nat) : mX MX11_unpacks n0 c0 s0 0 [some (.ref o), none, none] [] (S, μ, cx, cy) (iMV S cx cy) (bX11_unpacks S μ o) := by
  unfold bX11_unpacks
  refine x_aload_n (pc := 0) dX11_unpacks_0 (i := 0) rfl rfl ?_
  refine x_iconst (pc := 1) (v := -1) dX11_unpacks_1 (by decide) ?_
  refine x_pI (pc := 2) (k := 12) fcX11 dX11_unpacks_2 q489 (by decide) rfl rfl rfl rfl (fun m1 => ?_)
  refine x_aload_n (pc := 5) dX11_unpacks_5 (i := 0) rfl rfl ?_
  refine x_iconst (pc := 6) (v := 0) dX11_unpacks_6 (by decide) ?_
  refine x_pI (pc := 7) (k := 13) fcX11 dX11_unpacks_7 q494 (by decide) rfl rfl rfl rfl (fun m2 => ?_)
  refine x_aload_n (pc := 10) dX11_unpacks_10 (i := 0) rfl rfl ?_
  refine x_iconst (pc := 11) (v := 0) dX11_unpacks_11 (by decide) ?_
  refine x_pI (pc := 12) (k := 14) fcX11 dX11_unpacks_12 q495 (by decide) rfl rfl rfl rfl (fun m3 => ?_)
  refine x_iconst (pc := 15) (v := 0) dX11_unpacks_15 (by decide) ?_
  refine x_istore_n (pc := 16) dX11_unpacks_16 (i := 1) rfl (by decide) (l' := [some (.ref o), some (.int (0 : Int32)), none]) rfl ?_
  exact xX11_unpacks_17 FU m3 o (0 : Int32) _
theorem mX11_unpacks (S : mSh) (μ : mMm) (cx cy : Nat) (o : Nat) : mMet MX11_unpacks [.ref o] (S, μ, cx, cy) (iMV S cx cy) (fX11_unpacks S μ o) := mMet.of rfl (by decide) rfl (fun h => by cases h) (Nat.le_of_ble_eq_true rfl) (mX.ck (fun _ => xbX11_unpacks o))
/-! SlideMillsModel.unpackNow()I -/
def lX11_unpackNow_22 (S : mSh) : Nat → mMm → Nat → Int32 → Option (Int32 × mMm)
  | 0, _, _, _ => none
  | n + 1, μ, x0, x1 => (gI S μ x0 11 14).bind fun v5 => if v5 ≤ x1 then ((gI S μ x0 11 14).bind fun v6 => some (v6, μ)) else ((gR S x0 11 0).bind fun v7 => (gR S x0 11 8).bind fun v8 => (ldI S μ v8 x1).bind fun v9 => (stI S μ v7 ((10 : Int32) + x1) v9).bind fun m10 => lX11_unpackNow_22 S n m10 x0 (x1 + (1 : Int32)))
def bX11_unpackNow (S : mSh) (μ : mMm) (o : Nat) : Option (Int32 × mMm) := (fX11_empties S μ o (0 : Int32) (10 : Int32) (40 : Int32)).bind fun r1 => (gR S o 11 0).bind fun v2 => (gI S r1.2 o 11 14).bind fun v3 => (stI S r1.2 v2 (0 : Int32) v3).bind fun m4 => lX11_unpackNow_22 S FU m4 o (0 : Int32)
def fX11_unpackNow (S : mSh) (μ : mMm) (o : Nat) : Option (Int32 × mMm) := if mok S o 11 = true then bX11_unpackNow S μ o else none
abbrev MX11_unpackNow : mM := ((yX11_unpackNow, cX11_unpackNow, 2, (some .int)), (1, 25), (false, false), RX11, eT)
theorem kX11_unpackNow : mCalV MX11_unpackNow RX11 0 := ⟨q505, q506, q5, q507, by decide +kernel⟩
set_option maxHeartbeats 4000000 in
theorem xX11_unpackNow_22 {n0 c0 s0 cx cy : Nat} {S : mSh} : ∀ (n : Nat) (μ : mMm) (x0 : Nat) (x1 : Int32), mX MX11_unpackNow n0 c0 s0 22 [some (.ref x0), some (.int x1)] [] (S, μ, cx, cy) (iMI S cx cy) (lX11_unpackNow_22 S n μ x0 x1) := by
  intro n
  induction n with
  | zero => intros; exact x_none
  | succ n ih =>
    intro μ x0 x1
    unfold lX11_unpackNow_22
    refine x_iload_n (pc := 22) dX11_unpackNow_22 (i := 1) rfl rfl ?_
    refine x_aload_n (pc := 23) dX11_unpackNow_23 (i := 0) rfl rfl ?_
    refine x_gI (pc := 24) (k := 14) fcX11 dX11_unpackNow_24 q495 (by decide) rfl (fun v5 => ?_)
    refine x_icmp_ge (pc := 27) (tgt := 51) dX11_unpackNow_27 (by decide) ?_ ?_
    · refine x_aload_n (pc := 51) dX11_unpackNow_51 (i := 0) rfl rfl ?_
      refine x_gI (pc := 52) (k := 14) fcX11 dX11_unpackNow_52 q495 (by decide) rfl (fun v6 => ?_)
      exact x_iret rfl dX11_unpackNow_55 rfl rfl
    · refine x_aload_n (pc := 30) dX11_unpackNow_30 (i := 0) rfl rfl ?_
      refine x_gR (pc := 31) (k := 0) fcX11 dX11_unpackNow_31 q136 (by decide) rfl (fun v7 => ?_)
      refine x_bipush (pc := 34) (v := 10) dX11_unpackNow_34 (by decide) ?_
      refine x_iload_n (pc := 36) dX11_unpackNow_36 (i := 1) rfl rfl ?_
      refine x_iadd (pc := 37) dX11_unpackNow_37 ?_
      refine x_aload_n (pc := 38) dX11_unpackNow_38 (i := 0) rfl rfl ?_
      refine x_gR (pc := 39) (k := 8) fcX11 dX11_unpackNow_39 q141 (by decide) rfl (fun v8 => ?_)
      refine x_iload_n (pc := 42) dX11_unpackNow_42 (i := 1) rfl rfl ?_
      refine x_ldI (pc := 43) dX11_unpackNow_43 (fun v9 => ?_)
      refine x_stI (pc := 44) dX11_unpackNow_44 (fun m10 => ?_)
      refine x_iinc (pc := 45) (v := x1 + (1 : Int32)) dX11_unpackNow_45 rfl (by rw [show Int32.ofInt (1) = (1 : Int32) from by decide]) (by decide) (l' := [some (.ref x0), some (.int (x1 + (1 : Int32)))]) rfl ?_
      refine x_goto (pc := 48) (tgt := 22) dX11_unpackNow_48 (by decide) ?_
      exact ih m10 x0 (x1 + (1 : Int32)) 
set_option maxHeartbeats 4000000 in
theorem xbX11_unpackNow {n0 c0 s0 cx cy : Nat} {S : mSh} {μ : mMm} (o : Nat) : mX MX11_unpackNow n0 c0 s0 0 [some (.ref o), none] [] (S, μ, cx, cy) (iMI S cx cy) (bX11_unpackNow S μ o) := by
  unfold bX11_unpackNow
  refine x_aload_n (pc := 0) dX11_unpackNow_0 (i := 0) rfl rfl ?_
  refine x_iconst (pc := 1) (v := 0) dX11_unpackNow_1 (by decide) ?_
  refine x_bipush (pc := 2) (v := 10) dX11_unpackNow_2 (by decide) ?_
  refine x_bipush (pc := 4) (v := 40) dX11_unpackNow_4 (by decide) ?_
  refine x_callVi (pc := 6) (As := [.int (0 : Int32), .int (10 : Int32), .int (40 : Int32)]) (rest := []) (vx := fun a => a.1) (μf := fun a => a.2) fcX11 (mX11_empties S μ cx cy o (0 : Int32) (10 : Int32) (40 : Int32)) (fun _ => rfl) rfl (fun _ h => ifok h) dX11_unpackNow_6 q262 kX11_empties rfl ⟨by decide, by decide⟩ rfl (Nat.le_of_ble_eq_true rfl) (fun r1 => ?_)
  refine x_pop (pc := 9) dX11_unpackNow_9 rfl ?_
  refine x_aload_n (pc := 10) dX11_unpackNow_10 (i := 0) rfl rfl ?_
  refine x_gR (pc := 11) (k := 0) fcX11 dX11_unpackNow_11 q136 (by decide) rfl (fun v2 => ?_)
  refine x_iconst (pc := 14) (v := 0) dX11_unpackNow_14 (by decide) ?_
  refine x_aload_n (pc := 15) dX11_unpackNow_15 (i := 0) rfl rfl ?_
  refine x_gI (pc := 16) (k := 14) fcX11 dX11_unpackNow_16 q495 (by decide) rfl (fun v3 => ?_)
  refine x_stI (pc := 19) dX11_unpackNow_19 (fun m4 => ?_)
  refine x_iconst (pc := 20) (v := 0) dX11_unpackNow_20 (by decide) ?_
  refine x_istore_n (pc := 21) dX11_unpackNow_21 (i := 1) rfl (by decide) (l' := [some (.ref o), some (.int (0 : Int32))]) rfl ?_
  exact xX11_unpackNow_22 FU m4 o (0 : Int32) 
theorem mX11_unpackNow (S : mSh) (μ : mMm) (cx cy : Nat) (o : Nat) : mMet MX11_unpackNow [.ref o] (S, μ, cx, cy) (iMI S cx cy) (fX11_unpackNow S μ o) := mMet.of rfl (by decide) rfl (fun h => by cases h) (Nat.le_of_ble_eq_true rfl) (mX.ck (fun _ => xbX11_unpackNow o))
/-! SlideMillsModel.unpack()I -/
def lX11_unpack_17 (S : mSh) (μ : mMm) (x0 : Nat) (t0 : Int32) (t1 : Nat) : Option (Int32 × mMm) := (fX11_asks S μ t1 t0).bind fun r3 => if r3.1 = 0 then (some ((0 : Int32), r3.2)) else ((fX11_record S r3.2 x0).bind fun m4 => (fX11_unpackNow S m4 x0).bind fun r5 => some (r5.1, r5.2))
def bX11_unpack (S : mSh) (μ : mMm) (o : Nat) : Option (Int32 × mMm) := (fX11_unpacks S μ o).bind fun m1 => (gI S m1 o 11 12).bind fun v2 => if 0 ≤ v2 then (lX11_unpack_17 S m1 o (0 : Int32) o) else (lX11_unpack_17 S m1 o (1 : Int32) o)
def fX11_unpack (S : mSh) (μ : mMm) (o : Nat) : Option (Int32 × mMm) := if mok S o 11 = true then bX11_unpack S μ o else none
abbrev MX11_unpack : mM := ((yX11_unpack, cX11_unpack, 1, (some .int)), (3, 64), (false, false), RX11, eT)
theorem kX11_unpack : mCalV MX11_unpack RX11 0 := ⟨q486, q487, q5, q488, by decide +kernel⟩
set_option maxHeartbeats 4000000 in
theorem xX11_unpack_17 {n0 c0 s0 cx cy : Nat} {S : mSh} (μ : mMm) (x0 : Nat) (t0 : Int32) (t1 : Nat) : mX MX11_unpack n0 c0 s0 17 [some (.ref x0)] [.int t0, .ref t1] (S, μ, cx, cy) (iMI S cx cy) (lX11_unpack_17 S μ x0 t0 t1) := by
  unfold lX11_unpack_17
  refine x_callVi (pc := 17) (As := [.int t0]) (rest := []) (vx := fun a => a.1) (μf := fun a => a.2) fcX11 (mX11_asks S μ cx cy t1 t0) (fun _ => rfl) rfl (fun _ h => ifok h) dX11_unpack_17 q202 kX11_asks rfl ⟨by decide, by decide⟩ rfl (Nat.le_of_ble_eq_true rfl) (fun r3 => ?_)
  refine x_if_ne (pc := 20) (tgt := 25) dX11_unpack_20 (by decide) ?_ ?_
  · refine x_iconst (pc := 23) (v := 0) dX11_unpack_23 (by decide) ?_
    exact x_iret rfl dX11_unpack_24 rfl rfl
  · refine x_aload_n (pc := 25) dX11_unpack_25 (i := 0) rfl rfl ?_
    refine x_callVv (pc := 26) (As := []) (rest := []) (μf := fun a => a) fcX11 (mX11_record S r3.2 cx cy x0) (fun _ => rfl) rfl (fun _ h => ifok h) dX11_unpack_26 q211 kX11_record rfl ⟨by decide, by decide⟩ rfl (Nat.le_of_ble_eq_true rfl) (fun m4 => ?_)
    refine x_aload_n (pc := 29) dX11_unpack_29 (i := 0) rfl rfl ?_
    refine x_callVi (pc := 30) (As := []) (rest := []) (vx := fun a => a.1) (μf := fun a => a.2) fcX11 (mX11_unpackNow S m4 cx cy x0) (fun _ => rfl) rfl (fun _ h => ifok h) dX11_unpack_30 q504 kX11_unpackNow rfl ⟨by decide, by decide⟩ rfl (Nat.le_of_ble_eq_true rfl) (fun r5 => ?_)
    exact x_iret rfl dX11_unpack_33 rfl rfl
set_option maxHeartbeats 4000000 in
theorem xbX11_unpack {n0 c0 s0 cx cy : Nat} {S : mSh} {μ : mMm} (o : Nat) : mX MX11_unpack n0 c0 s0 0 [some (.ref o)] [] (S, μ, cx, cy) (iMI S cx cy) (bX11_unpack S μ o) := by
  unfold bX11_unpack
  refine x_aload_n (pc := 0) dX11_unpack_0 (i := 0) rfl rfl ?_
  refine x_callVv (pc := 1) (As := []) (rest := []) (μf := fun a => a) fcX11 (mX11_unpacks S μ cx cy o) (fun _ => rfl) rfl (fun _ h => ifok h) dX11_unpack_1 q490 kX11_unpacks rfl ⟨by decide, by decide⟩ rfl (Nat.le_of_ble_eq_true rfl) (fun m1 => ?_)
  refine x_aload_n (pc := 4) dX11_unpack_4 (i := 0) rfl rfl ?_
  refine x_aload_n (pc := 5) dX11_unpack_5 (i := 0) rfl rfl ?_
  refine x_gI (pc := 6) (k := 12) fcX11 dX11_unpack_6 q489 (by decide) rfl (fun v2 => ?_)
  refine x_if_ge (pc := 9) (tgt := 16) dX11_unpack_9 (by decide) ?_ ?_
  · refine x_iconst (pc := 16) (v := 0) dX11_unpack_16 (by decide) ?_
    exact xX11_unpack_17 m1 o (0 : Int32) o 
  · refine x_iconst (pc := 12) (v := 1) dX11_unpack_12 (by decide) ?_
    refine x_goto (pc := 13) (tgt := 17) dX11_unpack_13 (by decide) ?_
    exact xX11_unpack_17 m1 o (1 : Int32) o 
theorem mX11_unpack (S : mSh) (μ : mMm) (cx cy : Nat) (o : Nat) : mMet MX11_unpack [.ref o] (S, μ, cx, cy) (iMI S cx cy) (fX11_unpack S μ o) := mMet.of rfl (by decide) rfl (fun h => by cases h) (Nat.le_of_ble_eq_true rfl) (mX.ck (fun _ => xbX11_unpack o))
/-! SlideMillsModel.puts(II)I -/
def bX11_puts (S : mSh) (μ : mMm) (o : Nat) (p0 : Int32) (p1 : Int32) : Option (Int32 × mMm) := (gR S o 11 0).bind fun v1 => (gR S o 11 0).bind fun v2 => (ldI S μ v2 (6 : Int32)).bind fun v3 => (stI S μ v1 ((50 : Int32) + ((2 : Int32) * v3)) p0).bind fun m4 => (gR S o 11 0).bind fun v5 => (gR S o 11 0).bind fun v6 => (ldI S m4 v6 (6 : Int32)).bind fun v7 => (stI S m4 v5 (((50 : Int32) + ((2 : Int32) * v7)) + (1 : Int32)) p1).bind fun m8 => (gR S o 11 0).bind fun v9 => (ldI S m8 v9 (6 : Int32)).bind fun v10 => (stI S m8 v9 (6 : Int32) (v10 + (1 : Int32))).bind fun m11 => (gR S o 11 0).bind fun v12 => (ldI S m11 v12 (6 : Int32)).bind fun v13 => some (v13, m11)
def fX11_puts (S : mSh) (μ : mMm) (o : Nat) (p0 : Int32) (p1 : Int32) : Option (Int32 × mMm) := if mok S o 11 = true then bX11_puts S μ o p0 p1 else none
abbrev MX11_puts : mM := ((yX11_puts, cX11_puts, 3, (some .int)), (0, 0), (false, false), RX11, eT)
theorem kX11_puts : mCalV MX11_puts RX11 2 := ⟨q525, q526, q5, q527, by decide +kernel⟩
set_option maxHeartbeats 4000000 in
theorem xbX11_puts {n0 c0 s0 cx cy : Nat} {S : mSh} {μ : mMm} (o : Nat) (p0 : Int32) (p1 : Int32) : mX MX11_puts n0 c0 s0 0 [some (.ref o), some (.int p0), some (.int p1)] [] (S, μ, cx, cy) (iMI S cx cy) (bX11_puts S μ o p0 p1) := by
  unfold bX11_puts
  refine x_aload_n (pc := 0) dX11_puts_0 (i := 0) rfl rfl ?_
  refine x_gR (pc := 1) (k := 0) fcX11 dX11_puts_1 q136 (by decide) rfl (fun v1 => ?_)
  refine x_bipush (pc := 4) (v := 50) dX11_puts_4 (by decide) ?_
  refine x_iconst (pc := 6) (v := 2) dX11_puts_6 (by decide) ?_
  refine x_aload_n (pc := 7) dX11_puts_7 (i := 0) rfl rfl ?_
  refine x_gR (pc := 8) (k := 0) fcX11 dX11_puts_8 q136 (by decide) rfl (fun v2 => ?_)
  refine x_bipush (pc := 11) (v := 6) dX11_puts_11 (by decide) ?_
  refine x_ldI (pc := 13) dX11_puts_13 (fun v3 => ?_)
  refine x_imul (pc := 14) dX11_puts_14 ?_
  refine x_iadd (pc := 15) dX11_puts_15 ?_
  refine x_iload_n (pc := 16) dX11_puts_16 (i := 1) rfl rfl ?_
  refine x_stI (pc := 17) dX11_puts_17 (fun m4 => ?_)
  refine x_aload_n (pc := 18) dX11_puts_18 (i := 0) rfl rfl ?_
  refine x_gR (pc := 19) (k := 0) fcX11 dX11_puts_19 q136 (by decide) rfl (fun v5 => ?_)
  refine x_bipush (pc := 22) (v := 50) dX11_puts_22 (by decide) ?_
  refine x_iconst (pc := 24) (v := 2) dX11_puts_24 (by decide) ?_
  refine x_aload_n (pc := 25) dX11_puts_25 (i := 0) rfl rfl ?_
  refine x_gR (pc := 26) (k := 0) fcX11 dX11_puts_26 q136 (by decide) rfl (fun v6 => ?_)
  refine x_bipush (pc := 29) (v := 6) dX11_puts_29 (by decide) ?_
  refine x_ldI (pc := 31) dX11_puts_31 (fun v7 => ?_)
  refine x_imul (pc := 32) dX11_puts_32 ?_
  refine x_iadd (pc := 33) dX11_puts_33 ?_
  refine x_iconst (pc := 34) (v := 1) dX11_puts_34 (by decide) ?_
  refine x_iadd (pc := 35) dX11_puts_35 ?_
  refine x_iload_n (pc := 36) dX11_puts_36 (i := 2) rfl rfl ?_
  refine x_stI (pc := 37) dX11_puts_37 (fun m8 => ?_)
  refine x_aload_n (pc := 38) dX11_puts_38 (i := 0) rfl rfl ?_
  refine x_gR (pc := 39) (k := 0) fcX11 dX11_puts_39 q136 (by decide) rfl (fun v9 => ?_)
  refine x_bipush (pc := 42) (v := 6) dX11_puts_42 (by decide) ?_
  refine x_dup2 (pc := 44) dX11_puts_44 rfl rfl ?_
  refine x_ldI (pc := 45) dX11_puts_45 (fun v10 => ?_)
  refine x_iconst (pc := 46) (v := 1) dX11_puts_46 (by decide) ?_
  refine x_iadd (pc := 47) dX11_puts_47 ?_
  refine x_stI (pc := 48) dX11_puts_48 (fun m11 => ?_)
  refine x_aload_n (pc := 49) dX11_puts_49 (i := 0) rfl rfl ?_
  refine x_gR (pc := 50) (k := 0) fcX11 dX11_puts_50 q136 (by decide) rfl (fun v12 => ?_)
  refine x_bipush (pc := 53) (v := 6) dX11_puts_53 (by decide) ?_
  refine x_ldI (pc := 55) dX11_puts_55 (fun v13 => ?_)
  exact x_iret rfl dX11_puts_56 rfl rfl
theorem mX11_puts (S : mSh) (μ : mMm) (cx cy : Nat) (o : Nat) (p0 : Int32) (p1 : Int32) : mMet MX11_puts [.ref o, .int p0, .int p1] (S, μ, cx, cy) (iMI S cx cy) (fX11_puts S μ o p0 p1) := mMet.of rfl (by decide) rfl (fun h => by cases h) (Nat.le_of_ble_eq_true rfl) (mX.ck (fun _ => xbX11_puts o p0 p1))
/-! SlideMillsModel.addToken(I)I -/
def lX11_addToken_29 (S : mSh) (μ : mMm) (x0 : Nat) (x1 : Int32) (t0 : Int32) (t1 : Nat) : Option (Int32 × mMm) := (fX11_asksThen S μ t1 t0 (2 : Int32)).bind fun r5 => if r5.1 = 0 then (some ((0 : Int32), r5.2)) else ((fX11_record S r5.2 x0).bind fun m6 => (fX11_puts S m6 x0 (0 : Int32) x1).bind fun r7 => some (r7.1, r7.2))
def bX11_addToken (S : mSh) (μ : mMm) (o : Nat) (p0 : Int32) : Option (Int32 × mMm) := (fX11_in p0 (0 : Int32) (3 : Int32)).bind fun v1 => (fX11_asks S μ o v1).bind fun r2 => (gR S o 11 0).bind fun v3 => (ldI S r2.2 v3 (6 : Int32)).bind fun v4 => if (40 : Int32) ≤ v4 then (lX11_addToken_29 S r2.2 o p0 (0 : Int32) o) else (lX11_addToken_29 S r2.2 o p0 (1 : Int32) o)
def fX11_addToken (S : mSh) (μ : mMm) (o : Nat) (p0 : Int32) : Option (Int32 × mMm) := if mok S o 11 = true then bX11_addToken S μ o p0 else none
abbrev MX11_addToken : mM := ((yX11_addToken, cX11_addToken, 2, (some .int)), (1, 22), (false, false), RX11, eT)
theorem kX11_addToken : mCalV MX11_addToken RX11 1 := ⟨q521, q522, q5, q523, by decide +kernel⟩
set_option maxHeartbeats 4000000 in
theorem xX11_addToken_29 {n0 c0 s0 cx cy : Nat} {S : mSh} (μ : mMm) (x0 : Nat) (x1 : Int32) (t0 : Int32) (t1 : Nat) : mX MX11_addToken n0 c0 s0 29 [some (.ref x0), some (.int x1)] [.int t0, .ref t1] (S, μ, cx, cy) (iMI S cx cy) (lX11_addToken_29 S μ x0 x1 t0 t1) := by
  unfold lX11_addToken_29
  refine x_iconst (pc := 29) (v := 2) dX11_addToken_29 (by decide) ?_
  refine x_callVi (pc := 30) (As := [.int t0, .int (2 : Int32)]) (rest := []) (vx := fun a => a.1) (μf := fun a => a.2) fcX11 (mX11_asksThen S μ cx cy t1 t0 (2 : Int32)) (fun _ => rfl) rfl (fun _ h => ifok h) dX11_addToken_30 q207 kX11_asksThen rfl ⟨by decide, by decide⟩ rfl (Nat.le_of_ble_eq_true rfl) (fun r5 => ?_)
  refine x_if_ne (pc := 33) (tgt := 38) dX11_addToken_33 (by decide) ?_ ?_
  · refine x_iconst (pc := 36) (v := 0) dX11_addToken_36 (by decide) ?_
    exact x_iret rfl dX11_addToken_37 rfl rfl
  · refine x_aload_n (pc := 38) dX11_addToken_38 (i := 0) rfl rfl ?_
    refine x_callVv (pc := 39) (As := []) (rest := []) (μf := fun a => a) fcX11 (mX11_record S r5.2 cx cy x0) (fun _ => rfl) rfl (fun _ h => ifok h) dX11_addToken_39 q211 kX11_record rfl ⟨by decide, by decide⟩ rfl (Nat.le_of_ble_eq_true rfl) (fun m6 => ?_)
    refine x_aload_n (pc := 42) dX11_addToken_42 (i := 0) rfl rfl ?_
    refine x_iconst (pc := 43) (v := 0) dX11_addToken_43 (by decide) ?_
    refine x_iload_n (pc := 44) dX11_addToken_44 (i := 1) rfl rfl ?_
    refine x_callVi (pc := 45) (As := [.int (0 : Int32), .int x1]) (rest := []) (vx := fun a => a.1) (μf := fun a => a.2) fcX11 (mX11_puts S m6 cx cy x0 (0 : Int32) x1) (fun _ => rfl) rfl (fun _ h => ifok h) dX11_addToken_45 q524 kX11_puts rfl ⟨by decide, by decide⟩ rfl (Nat.le_of_ble_eq_true rfl) (fun r7 => ?_)
    exact x_iret rfl dX11_addToken_48 rfl rfl
set_option maxHeartbeats 4000000 in
theorem xbX11_addToken {n0 c0 s0 cx cy : Nat} {S : mSh} {μ : mMm} (o : Nat) (p0 : Int32) : mX MX11_addToken n0 c0 s0 0 [some (.ref o), some (.int p0)] [] (S, μ, cx, cy) (iMI S cx cy) (bX11_addToken S μ o p0) := by
  unfold bX11_addToken
  refine x_aload_n (pc := 0) dX11_addToken_0 (i := 0) rfl rfl ?_
  refine x_iload_n (pc := 1) dX11_addToken_1 (i := 1) rfl rfl ?_
  refine x_iconst (pc := 2) (v := 0) dX11_addToken_2 (by decide) ?_
  refine x_iconst (pc := 3) (v := 3) dX11_addToken_3 (by decide) ?_
  refine x_callSi (pc := 4) (As := [.int p0, .int (0 : Int32), .int (3 : Int32)]) (rest := [.ref o]) (vx := fun a => a) (μf := fun _ => μ) (mX11_in S μ cx cy p0 (0 : Int32) (3 : Int32)) (fun _ => rfl) rfl dX11_addToken_4 q199 kX11_in rfl ⟨by decide, by decide⟩ rfl (Nat.le_of_ble_eq_true rfl) (fun v1 => ?_)
  refine x_callVi (pc := 7) (As := [.int v1]) (rest := []) (vx := fun a => a.1) (μf := fun a => a.2) fcX11 (mX11_asks S μ cx cy o v1) (fun _ => rfl) rfl (fun _ h => ifok h) dX11_addToken_7 q202 kX11_asks rfl ⟨by decide, by decide⟩ rfl (Nat.le_of_ble_eq_true rfl) (fun r2 => ?_)
  refine x_pop (pc := 10) dX11_addToken_10 rfl ?_
  refine x_aload_n (pc := 11) dX11_addToken_11 (i := 0) rfl rfl ?_
  refine x_aload_n (pc := 12) dX11_addToken_12 (i := 0) rfl rfl ?_
  refine x_gR (pc := 13) (k := 0) fcX11 dX11_addToken_13 q136 (by decide) rfl (fun v3 => ?_)
  refine x_bipush (pc := 16) (v := 6) dX11_addToken_16 (by decide) ?_
  refine x_ldI (pc := 18) dX11_addToken_18 (fun v4 => ?_)
  refine x_bipush (pc := 19) (v := 40) dX11_addToken_19 (by decide) ?_
  refine x_icmp_ge (pc := 21) (tgt := 28) dX11_addToken_21 (by decide) ?_ ?_
  · refine x_iconst (pc := 28) (v := 0) dX11_addToken_28 (by decide) ?_
    exact xX11_addToken_29 r2.2 o p0 (0 : Int32) o 
  · refine x_iconst (pc := 24) (v := 1) dX11_addToken_24 (by decide) ?_
    refine x_goto (pc := 25) (tgt := 29) dX11_addToken_25 (by decide) ?_
    exact xX11_addToken_29 r2.2 o p0 (1 : Int32) o 
theorem mX11_addToken (S : mSh) (μ : mMm) (cx cy : Nat) (o : Nat) (p0 : Int32) : mMet MX11_addToken [.ref o, .int p0] (S, μ, cx, cy) (iMI S cx cy) (fX11_addToken S μ o p0) := mMet.of rfl (by decide) rfl (fun h => by cases h) (Nat.le_of_ble_eq_true rfl) (mX.ck (fun _ => xbX11_addToken o p0))
/-! SlideMillsModel.addRepeat(II)I -/
def lX11_addRepeat_48 (S : mSh) (μ : mMm) (x0 : Nat) (x1 : Int32) (x2 : Int32) (t0 : Int32) (t1 : Nat) : Option (Int32 × mMm) := (fX11_asksThen S μ t1 t0 (2 : Int32)).bind fun r5 => if r5.1 = 0 then (some ((0 : Int32), r5.2)) else ((fX11_record S r5.2 x0).bind fun m6 => (fX11_puts S m6 x0 x1 x2).bind fun r7 => some (r7.1, r7.2))
def lX11_addRepeat_26 (S : mSh) (μ : mMm) (x0 : Nat) (x1 : Int32) (x2 : Int32) (t0 : Int32) (t1 : Nat) : Option (Int32 × mMm) := (fX11_asks S μ t1 t0).bind fun r2 => (gR S x0 11 0).bind fun v3 => (ldI S r2.2 v3 (6 : Int32)).bind fun v4 => if (40 : Int32) ≤ v4 then (lX11_addRepeat_48 S r2.2 x0 x1 x2 (0 : Int32) x0) else (lX11_addRepeat_48 S r2.2 x0 x1 x2 (1 : Int32) x0)
def lX11_addRepeat_25 (S : mSh) (μ : mMm) (x0 : Nat) (x1 : Int32) (x2 : Int32) (t0 : Nat) : Option (Int32 × mMm) := lX11_addRepeat_26 S μ x0 x1 x2 (0 : Int32) t0
def bX11_addRepeat (S : mSh) (μ : mMm) (o : Nat) (p0 : Int32) (p1 : Int32) : Option (Int32 × mMm) := (fX11_in p0 (1 : Int32) (39 : Int32)).bind fun v1 => if v1 = 0 then (lX11_addRepeat_25 S μ o p0 p1 o) else ((fX11_in p1 (1 : Int32) (40 : Int32)).bind fun v8 => if v8 = 0 then (lX11_addRepeat_25 S μ o p0 p1 o) else (lX11_addRepeat_26 S μ o p0 p1 (1 : Int32) o))
def fX11_addRepeat (S : mSh) (μ : mMm) (o : Nat) (p0 : Int32) (p1 : Int32) : Option (Int32 × mMm) := if mok S o 11 = true then bX11_addRepeat S μ o p0 p1 else none
abbrev MX11_addRepeat : mM := ((yX11_addRepeat, cX11_addRepeat, 3, (some .int)), (1, 22), (false, false), RX11, eT)
theorem kX11_addRepeat : mCalV MX11_addRepeat RX11 2 := ⟨q536, q537, q5, q538, by decide +kernel⟩
set_option maxHeartbeats 4000000 in
theorem xX11_addRepeat_48 {n0 c0 s0 cx cy : Nat} {S : mSh} (μ : mMm) (x0 : Nat) (x1 : Int32) (x2 : Int32) (t0 : Int32) (t1 : Nat) : mX MX11_addRepeat n0 c0 s0 48 [some (.ref x0), some (.int x1), some (.int x2)] [.int t0, .ref t1] (S, μ, cx, cy) (iMI S cx cy) (lX11_addRepeat_48 S μ x0 x1 x2 t0 t1) := by
  unfold lX11_addRepeat_48
  refine x_iconst (pc := 48) (v := 2) dX11_addRepeat_48 (by decide) ?_
  refine x_callVi (pc := 49) (As := [.int t0, .int (2 : Int32)]) (rest := []) (vx := fun a => a.1) (μf := fun a => a.2) fcX11 (mX11_asksThen S μ cx cy t1 t0 (2 : Int32)) (fun _ => rfl) rfl (fun _ h => ifok h) dX11_addRepeat_49 q207 kX11_asksThen rfl ⟨by decide, by decide⟩ rfl (Nat.le_of_ble_eq_true rfl) (fun r5 => ?_)
  refine x_if_ne (pc := 52) (tgt := 57) dX11_addRepeat_52 (by decide) ?_ ?_
  · refine x_iconst (pc := 55) (v := 0) dX11_addRepeat_55 (by decide) ?_
    exact x_iret rfl dX11_addRepeat_56 rfl rfl
  · refine x_aload_n (pc := 57) dX11_addRepeat_57 (i := 0) rfl rfl ?_
    refine x_callVv (pc := 58) (As := []) (rest := []) (μf := fun a => a) fcX11 (mX11_record S r5.2 cx cy x0) (fun _ => rfl) rfl (fun _ h => ifok h) dX11_addRepeat_58 q211 kX11_record rfl ⟨by decide, by decide⟩ rfl (Nat.le_of_ble_eq_true rfl) (fun m6 => ?_)
    refine x_aload_n (pc := 61) dX11_addRepeat_61 (i := 0) rfl rfl ?_
    refine x_iload_n (pc := 62) dX11_addRepeat_62 (i := 1) rfl rfl ?_
    refine x_iload_n (pc := 63) dX11_addRepeat_63 (i := 2) rfl rfl ?_
    refine x_callVi (pc := 64) (As := [.int x1, .int x2]) (rest := []) (vx := fun a => a.1) (μf := fun a => a.2) fcX11 (mX11_puts S m6 cx cy x0 x1 x2) (fun _ => rfl) rfl (fun _ h => ifok h) dX11_addRepeat_64 q524 kX11_puts rfl ⟨by decide, by decide⟩ rfl (Nat.le_of_ble_eq_true rfl) (fun r7 => ?_)
    exact x_iret rfl dX11_addRepeat_67 rfl rfl
set_option maxHeartbeats 4000000 in
theorem xX11_addRepeat_26 {n0 c0 s0 cx cy : Nat} {S : mSh} (μ : mMm) (x0 : Nat) (x1 : Int32) (x2 : Int32) (t0 : Int32) (t1 : Nat) : mX MX11_addRepeat n0 c0 s0 26 [some (.ref x0), some (.int x1), some (.int x2)] [.int t0, .ref t1] (S, μ, cx, cy) (iMI S cx cy) (lX11_addRepeat_26 S μ x0 x1 x2 t0 t1) := by
  unfold lX11_addRepeat_26
  refine x_callVi (pc := 26) (As := [.int t0]) (rest := []) (vx := fun a => a.1) (μf := fun a => a.2) fcX11 (mX11_asks S μ cx cy t1 t0) (fun _ => rfl) rfl (fun _ h => ifok h) dX11_addRepeat_26 q202 kX11_asks rfl ⟨by decide, by decide⟩ rfl (Nat.le_of_ble_eq_true rfl) (fun r2 => ?_)
  refine x_pop (pc := 29) dX11_addRepeat_29 rfl ?_
  refine x_aload_n (pc := 30) dX11_addRepeat_30 (i := 0) rfl rfl ?_
  refine x_aload_n (pc := 31) dX11_addRepeat_31 (i := 0) rfl rfl ?_
  refine x_gR (pc := 32) (k := 0) fcX11 dX11_addRepeat_32 q136 (by decide) rfl (fun v3 => ?_)
  refine x_bipush (pc := 35) (v := 6) dX11_addRepeat_35 (by decide) ?_
  refine x_ldI (pc := 37) dX11_addRepeat_37 (fun v4 => ?_)
  refine x_bipush (pc := 38) (v := 40) dX11_addRepeat_38 (by decide) ?_
  refine x_icmp_ge (pc := 40) (tgt := 47) dX11_addRepeat_40 (by decide) ?_ ?_
  · refine x_iconst (pc := 47) (v := 0) dX11_addRepeat_47 (by decide) ?_
    exact xX11_addRepeat_48 r2.2 x0 x1 x2 (0 : Int32) x0 
  · refine x_iconst (pc := 43) (v := 1) dX11_addRepeat_43 (by decide) ?_
    refine x_goto (pc := 44) (tgt := 48) dX11_addRepeat_44 (by decide) ?_
    exact xX11_addRepeat_48 r2.2 x0 x1 x2 (1 : Int32) x0 
set_option maxHeartbeats 4000000 in
theorem xX11_addRepeat_25 {n0 c0 s0 cx cy : Nat} {S : mSh} (μ : mMm) (x0 : Nat) (x1 : Int32) (x2 : Int32) (t0 : Nat) : mX MX11_addRepeat n0 c0 s0 25 [some (.ref x0), some (.int x1), some (.int x2)] [.ref t0] (S, μ, cx, cy) (iMI S cx cy) (lX11_addRepeat_25 S μ x0 x1 x2 t0) := by
  unfold lX11_addRepeat_25
  refine x_iconst (pc := 25) (v := 0) dX11_addRepeat_25 (by decide) ?_
  exact xX11_addRepeat_26 μ x0 x1 x2 (0 : Int32) t0 
set_option maxHeartbeats 4000000 in
theorem xbX11_addRepeat {n0 c0 s0 cx cy : Nat} {S : mSh} {μ : mMm} (o : Nat) (p0 : Int32) (p1 : Int32) : mX MX11_addRepeat n0 c0 s0 0 [some (.ref o), some (.int p0), some (.int p1)] [] (S, μ, cx, cy) (iMI S cx cy) (bX11_addRepeat S μ o p0 p1) := by
  unfold bX11_addRepeat
  refine x_aload_n (pc := 0) dX11_addRepeat_0 (i := 0) rfl rfl ?_
  refine x_iload_n (pc := 1) dX11_addRepeat_1 (i := 1) rfl rfl ?_
  refine x_iconst (pc := 2) (v := 1) dX11_addRepeat_2 (by decide) ?_
  refine x_bipush (pc := 3) (v := 39) dX11_addRepeat_3 (by decide) ?_
  refine x_callSi (pc := 5) (As := [.int p0, .int (1 : Int32), .int (39 : Int32)]) (rest := [.ref o]) (vx := fun a => a) (μf := fun _ => μ) (mX11_in S μ cx cy p0 (1 : Int32) (39 : Int32)) (fun _ => rfl) rfl dX11_addRepeat_5 q199 kX11_in rfl ⟨by decide, by decide⟩ rfl (Nat.le_of_ble_eq_true rfl) (fun v1 => ?_)
  refine x_if_eq (pc := 8) (tgt := 25) dX11_addRepeat_8 (by decide) ?_ ?_
  · exact xX11_addRepeat_25 μ o p0 p1 o
  · refine x_iload_n (pc := 11) dX11_addRepeat_11 (i := 2) rfl rfl ?_
    refine x_iconst (pc := 12) (v := 1) dX11_addRepeat_12 (by decide) ?_
    refine x_bipush (pc := 13) (v := 40) dX11_addRepeat_13 (by decide) ?_
    refine x_callSi (pc := 15) (As := [.int p1, .int (1 : Int32), .int (40 : Int32)]) (rest := [.ref o]) (vx := fun a => a) (μf := fun _ => μ) (mX11_in S μ cx cy p1 (1 : Int32) (40 : Int32)) (fun _ => rfl) rfl dX11_addRepeat_15 q199 kX11_in rfl ⟨by decide, by decide⟩ rfl (Nat.le_of_ble_eq_true rfl) (fun v8 => ?_)
    refine x_if_eq (pc := 18) (tgt := 25) dX11_addRepeat_18 (by decide) ?_ ?_
    · exact xX11_addRepeat_25 μ o p0 p1 o
    · refine x_iconst (pc := 21) (v := 1) dX11_addRepeat_21 (by decide) ?_
      refine x_goto (pc := 22) (tgt := 26) dX11_addRepeat_22 (by decide) ?_
      exact xX11_addRepeat_26 μ o p0 p1 (1 : Int32) o 
theorem mX11_addRepeat (S : mSh) (μ : mMm) (cx cy : Nat) (o : Nat) (p0 : Int32) (p1 : Int32) : mMet MX11_addRepeat [.ref o, .int p0, .int p1] (S, μ, cx, cy) (iMI S cx cy) (fX11_addRepeat S μ o p0 p1) := mMet.of rfl (by decide) rfl (fun h => by cases h) (Nat.le_of_ble_eq_true rfl) (mX.ck (fun _ => xbX11_addRepeat o p0 p1))
/-! SlideMillsModel.takeLast()I -/
def lX11_takeLast_16 (S : mSh) (μ : mMm) (x0 : Nat) (t0 : Int32) (t1 : Nat) : Option (Int32 × mMm) := (fX11_asks S μ t1 t0).bind fun r3 => if r3.1 = 0 then (some ((0 : Int32), r3.2)) else ((fX11_record S r3.2 x0).bind fun m4 => (gR S x0 11 0).bind fun v5 => (ldI S m4 v5 (6 : Int32)).bind fun v6 => (stI S m4 v5 (6 : Int32) (v6 - (1 : Int32))).bind fun m7 => (gR S x0 11 0).bind fun v8 => (gR S x0 11 0).bind fun v9 => (ldI S m7 v9 (6 : Int32)).bind fun v10 => (stI S m7 v8 ((50 : Int32) + ((2 : Int32) * v10)) (0 : Int32)).bind fun m11 => (gR S x0 11 0).bind fun v12 => (gR S x0 11 0).bind fun v13 => (ldI S m11 v13 (6 : Int32)).bind fun v14 => (stI S m11 v12 (((50 : Int32) + ((2 : Int32) * v14)) + (1 : Int32)) (0 : Int32)).bind fun m15 => (gR S x0 11 0).bind fun v16 => (ldI S m15 v16 (6 : Int32)).bind fun v17 => some (v17, m15))
def bX11_takeLast (S : mSh) (μ : mMm) (o : Nat) : Option (Int32 × mMm) := (gR S o 11 0).bind fun v1 => (ldI S μ v1 (6 : Int32)).bind fun v2 => if v2 ≤ 0 then (lX11_takeLast_16 S μ o (0 : Int32) o) else (lX11_takeLast_16 S μ o (1 : Int32) o)
def fX11_takeLast (S : mSh) (μ : mMm) (o : Nat) : Option (Int32 × mMm) := if mok S o 11 = true then bX11_takeLast S μ o else none
abbrev MX11_takeLast : mM := ((yX11_takeLast, cX11_takeLast, 1, (some .int)), (1, 21), (false, false), RX11, eT)
theorem kX11_takeLast : mCalV MX11_takeLast RX11 0 := ⟨q547, q548, q5, q549, by decide +kernel⟩
set_option maxHeartbeats 4000000 in
theorem xX11_takeLast_16 {n0 c0 s0 cx cy : Nat} {S : mSh} (μ : mMm) (x0 : Nat) (t0 : Int32) (t1 : Nat) : mX MX11_takeLast n0 c0 s0 16 [some (.ref x0)] [.int t0, .ref t1] (S, μ, cx, cy) (iMI S cx cy) (lX11_takeLast_16 S μ x0 t0 t1) := by
  unfold lX11_takeLast_16
  refine x_callVi (pc := 16) (As := [.int t0]) (rest := []) (vx := fun a => a.1) (μf := fun a => a.2) fcX11 (mX11_asks S μ cx cy t1 t0) (fun _ => rfl) rfl (fun _ h => ifok h) dX11_takeLast_16 q202 kX11_asks rfl ⟨by decide, by decide⟩ rfl (Nat.le_of_ble_eq_true rfl) (fun r3 => ?_)
  refine x_if_ne (pc := 19) (tgt := 24) dX11_takeLast_19 (by decide) ?_ ?_
  · refine x_iconst (pc := 22) (v := 0) dX11_takeLast_22 (by decide) ?_
    exact x_iret rfl dX11_takeLast_23 rfl rfl
  · refine x_aload_n (pc := 24) dX11_takeLast_24 (i := 0) rfl rfl ?_
    refine x_callVv (pc := 25) (As := []) (rest := []) (μf := fun a => a) fcX11 (mX11_record S r3.2 cx cy x0) (fun _ => rfl) rfl (fun _ h => ifok h) dX11_takeLast_25 q211 kX11_record rfl ⟨by decide, by decide⟩ rfl (Nat.le_of_ble_eq_true rfl) (fun m4 => ?_)
    refine x_aload_n (pc := 28) dX11_takeLast_28 (i := 0) rfl rfl ?_
    refine x_gR (pc := 29) (k := 0) fcX11 dX11_takeLast_29 q136 (by decide) rfl (fun v5 => ?_)
    refine x_bipush (pc := 32) (v := 6) dX11_takeLast_32 (by decide) ?_
    refine x_dup2 (pc := 34) dX11_takeLast_34 rfl rfl ?_
    refine x_ldI (pc := 35) dX11_takeLast_35 (fun v6 => ?_)
    refine x_iconst (pc := 36) (v := 1) dX11_takeLast_36 (by decide) ?_
    refine x_isub (pc := 37) dX11_takeLast_37 ?_
    refine x_stI (pc := 38) dX11_takeLast_38 (fun m7 => ?_)
    refine x_aload_n (pc := 39) dX11_takeLast_39 (i := 0) rfl rfl ?_
    refine x_gR (pc := 40) (k := 0) fcX11 dX11_takeLast_40 q136 (by decide) rfl (fun v8 => ?_)
    refine x_bipush (pc := 43) (v := 50) dX11_takeLast_43 (by decide) ?_
    refine x_iconst (pc := 45) (v := 2) dX11_takeLast_45 (by decide) ?_
    refine x_aload_n (pc := 46) dX11_takeLast_46 (i := 0) rfl rfl ?_
    refine x_gR (pc := 47) (k := 0) fcX11 dX11_takeLast_47 q136 (by decide) rfl (fun v9 => ?_)
    refine x_bipush (pc := 50) (v := 6) dX11_takeLast_50 (by decide) ?_
    refine x_ldI (pc := 52) dX11_takeLast_52 (fun v10 => ?_)
    refine x_imul (pc := 53) dX11_takeLast_53 ?_
    refine x_iadd (pc := 54) dX11_takeLast_54 ?_
    refine x_iconst (pc := 55) (v := 0) dX11_takeLast_55 (by decide) ?_
    refine x_stI (pc := 56) dX11_takeLast_56 (fun m11 => ?_)
    refine x_aload_n (pc := 57) dX11_takeLast_57 (i := 0) rfl rfl ?_
    refine x_gR (pc := 58) (k := 0) fcX11 dX11_takeLast_58 q136 (by decide) rfl (fun v12 => ?_)
    refine x_bipush (pc := 61) (v := 50) dX11_takeLast_61 (by decide) ?_
    refine x_iconst (pc := 63) (v := 2) dX11_takeLast_63 (by decide) ?_
    refine x_aload_n (pc := 64) dX11_takeLast_64 (i := 0) rfl rfl ?_
    refine x_gR (pc := 65) (k := 0) fcX11 dX11_takeLast_65 q136 (by decide) rfl (fun v13 => ?_)
    refine x_bipush (pc := 68) (v := 6) dX11_takeLast_68 (by decide) ?_
    refine x_ldI (pc := 70) dX11_takeLast_70 (fun v14 => ?_)
    refine x_imul (pc := 71) dX11_takeLast_71 ?_
    refine x_iadd (pc := 72) dX11_takeLast_72 ?_
    refine x_iconst (pc := 73) (v := 1) dX11_takeLast_73 (by decide) ?_
    refine x_iadd (pc := 74) dX11_takeLast_74 ?_
    refine x_iconst (pc := 75) (v := 0) dX11_takeLast_75 (by decide) ?_
    refine x_stI (pc := 76) dX11_takeLast_76 (fun m15 => ?_)
    refine x_aload_n (pc := 77) dX11_takeLast_77 (i := 0) rfl rfl ?_
    refine x_gR (pc := 78) (k := 0) fcX11 dX11_takeLast_78 q136 (by decide) rfl (fun v16 => ?_)
    refine x_bipush (pc := 81) (v := 6) dX11_takeLast_81 (by decide) ?_
    refine x_ldI (pc := 83) dX11_takeLast_83 (fun v17 => ?_)
    exact x_iret rfl dX11_takeLast_84 rfl rfl
set_option maxHeartbeats 4000000 in
theorem xbX11_takeLast {n0 c0 s0 cx cy : Nat} {S : mSh} {μ : mMm} (o : Nat) : mX MX11_takeLast n0 c0 s0 0 [some (.ref o)] [] (S, μ, cx, cy) (iMI S cx cy) (bX11_takeLast S μ o) := by
  unfold bX11_takeLast
  refine x_aload_n (pc := 0) dX11_takeLast_0 (i := 0) rfl rfl ?_
  refine x_aload_n (pc := 1) dX11_takeLast_1 (i := 0) rfl rfl ?_
  refine x_gR (pc := 2) (k := 0) fcX11 dX11_takeLast_2 q136 (by decide) rfl (fun v1 => ?_)
  refine x_bipush (pc := 5) (v := 6) dX11_takeLast_5 (by decide) ?_
  refine x_ldI (pc := 7) dX11_takeLast_7 (fun v2 => ?_)
  refine x_if_le (pc := 8) (tgt := 15) dX11_takeLast_8 (by decide) ?_ ?_
  · refine x_iconst (pc := 15) (v := 0) dX11_takeLast_15 (by decide) ?_
    exact xX11_takeLast_16 μ o (0 : Int32) o 
  · refine x_iconst (pc := 11) (v := 1) dX11_takeLast_11 (by decide) ?_
    refine x_goto (pc := 12) (tgt := 16) dX11_takeLast_12 (by decide) ?_
    exact xX11_takeLast_16 μ o (1 : Int32) o 
theorem mX11_takeLast (S : mSh) (μ : mMm) (cx cy : Nat) (o : Nat) : mMet MX11_takeLast [.ref o] (S, μ, cx, cy) (iMI S cx cy) (fX11_takeLast S μ o) := mMet.of rfl (by decide) rfl (fun h => by cases h) (Nat.le_of_ble_eq_true rfl) (mX.ck (fun _ => xbX11_takeLast o))
/-! SlideMillsModel.emptySack()I -/
def bX11_emptySack (S : mSh) (μ : mMm) (o : Nat) : Option (Int32 × mMm) := (fX11_record S μ o).bind fun m1 => (fX11_empties S m1 o (6 : Int32) (50 : Int32) (80 : Int32)).bind fun r2 => (fX11_says S r2.2 o r2.1).bind fun r3 => some (r3.1, r3.2)
def fX11_emptySack (S : mSh) (μ : mMm) (o : Nat) : Option (Int32 × mMm) := if mok S o 11 = true then bX11_emptySack S μ o else none
abbrev MX11_emptySack : mM := ((yX11_emptySack, cX11_emptySack, 1, (some .int)), (1, 25), (false, false), RX11, eT)
theorem kX11_emptySack : mCalV MX11_emptySack RX11 0 := ⟨q556, q557, q5, q558, by decide +kernel⟩
set_option maxHeartbeats 4000000 in
theorem xbX11_emptySack {n0 c0 s0 cx cy : Nat} {S : mSh} {μ : mMm} (o : Nat) : mX MX11_emptySack n0 c0 s0 0 [some (.ref o)] [] (S, μ, cx, cy) (iMI S cx cy) (bX11_emptySack S μ o) := by
  unfold bX11_emptySack
  refine x_aload_n (pc := 0) dX11_emptySack_0 (i := 0) rfl rfl ?_
  refine x_callVv (pc := 1) (As := []) (rest := []) (μf := fun a => a) fcX11 (mX11_record S μ cx cy o) (fun _ => rfl) rfl (fun _ h => ifok h) dX11_emptySack_1 q211 kX11_record rfl ⟨by decide, by decide⟩ rfl (Nat.le_of_ble_eq_true rfl) (fun m1 => ?_)
  refine x_aload_n (pc := 4) dX11_emptySack_4 (i := 0) rfl rfl ?_
  refine x_aload_n (pc := 5) dX11_emptySack_5 (i := 0) rfl rfl ?_
  refine x_bipush (pc := 6) (v := 6) dX11_emptySack_6 (by decide) ?_
  refine x_bipush (pc := 8) (v := 50) dX11_emptySack_8 (by decide) ?_
  refine x_bipush (pc := 10) (v := 80) dX11_emptySack_10 (by decide) ?_
  refine x_callVi (pc := 12) (As := [.int (6 : Int32), .int (50 : Int32), .int (80 : Int32)]) (rest := [.ref o]) (vx := fun a => a.1) (μf := fun a => a.2) fcX11 (mX11_empties S m1 cx cy o (6 : Int32) (50 : Int32) (80 : Int32)) (fun _ => rfl) rfl (fun _ h => ifok h) dX11_emptySack_12 q262 kX11_empties rfl ⟨by decide, by decide⟩ rfl (Nat.le_of_ble_eq_true rfl) (fun r2 => ?_)
  refine x_callVi (pc := 15) (As := [.int r2.1]) (rest := []) (vx := fun a => a.1) (μf := fun a => a.2) fcX11 (mX11_says S r2.2 cx cy o r2.1) (fun _ => rfl) rfl (fun _ h => ifok h) dX11_emptySack_15 q266 kX11_says rfl ⟨by decide, by decide⟩ rfl (Nat.le_of_ble_eq_true rfl) (fun r3 => ?_)
  exact x_iret rfl dX11_emptySack_18 rfl rfl
theorem mX11_emptySack (S : mSh) (μ : mMm) (cx cy : Nat) (o : Nat) : mMet MX11_emptySack [.ref o] (S, μ, cx, cy) (iMI S cx cy) (fX11_emptySack S μ o) := mMet.of rfl (by decide) rfl (fun h => by cases h) (Nat.le_of_ble_eq_true rfl) (mX.ck (fun _ => xbX11_emptySack o))
/-! SlideMillsModel.append(I)I -/
def lX11_append_28 (S : mSh) (μ : mMm) (x0 : Nat) (x1 : Int32) (t0 : Int32) (t1 : Nat) : Option (Int32 × mMm) := (fX11_asksThen S μ t1 t0 (2 : Int32)).bind fun r4 => if r4.1 = 0 then (some ((0 : Int32), r4.2)) else ((gR S x0 11 9).bind fun v5 => (gI S r4.2 x0 11 10).bind fun v6 => (stC S r4.2 v5 v6 ((x1.toUInt32 % 65536).toInt32)).bind fun m7 => (gI S m7 x0 11 10).bind fun v8 => (pI S m7 x0 11 10 (v8 + (1 : Int32))).bind fun m9 => (gI S m9 x0 11 10).bind fun v10 => some (v10, m9))
def bX11_append (S : mSh) (μ : mMm) (o : Nat) (p0 : Int32) : Option (Int32 × mMm) := (fX11_in p0 (33 : Int32) (126 : Int32)).bind fun v1 => (fX11_asks S μ o v1).bind fun r2 => (gI S r2.2 o 11 10).bind fun v3 => if (60 : Int32) ≤ v3 then (lX11_append_28 S r2.2 o p0 (0 : Int32) o) else (lX11_append_28 S r2.2 o p0 (1 : Int32) o)
def fX11_append (S : mSh) (μ : mMm) (o : Nat) (p0 : Int32) : Option (Int32 × mMm) := if mok S o 11 = true then bX11_append S μ o p0 else none
abbrev MX11_append : mM := ((yX11_append, cX11_append, 2, (some .int)), (1, 22), (false, false), RX11, eT)
theorem kX11_append : mCalV MX11_append RX11 1 := ⟨q572, q573, q5, q574, by decide +kernel⟩
set_option maxHeartbeats 4000000 in
theorem xX11_append_28 {n0 c0 s0 cx cy : Nat} {S : mSh} (μ : mMm) (x0 : Nat) (x1 : Int32) (t0 : Int32) (t1 : Nat) : mX MX11_append n0 c0 s0 28 [some (.ref x0), some (.int x1)] [.int t0, .ref t1] (S, μ, cx, cy) (iMI S cx cy) (lX11_append_28 S μ x0 x1 t0 t1) := by
  unfold lX11_append_28
  refine x_iconst (pc := 28) (v := 2) dX11_append_28 (by decide) ?_
  refine x_callVi (pc := 29) (As := [.int t0, .int (2 : Int32)]) (rest := []) (vx := fun a => a.1) (μf := fun a => a.2) fcX11 (mX11_asksThen S μ cx cy t1 t0 (2 : Int32)) (fun _ => rfl) rfl (fun _ h => ifok h) dX11_append_29 q207 kX11_asksThen rfl ⟨by decide, by decide⟩ rfl (Nat.le_of_ble_eq_true rfl) (fun r4 => ?_)
  refine x_if_ne (pc := 32) (tgt := 37) dX11_append_32 (by decide) ?_ ?_
  · refine x_iconst (pc := 35) (v := 0) dX11_append_35 (by decide) ?_
    exact x_iret rfl dX11_append_36 rfl rfl
  · refine x_aload_n (pc := 37) dX11_append_37 (i := 0) rfl rfl ?_
    refine x_gR (pc := 38) (k := 9) fcX11 dX11_append_38 q143 (by decide) rfl (fun v5 => ?_)
    refine x_aload_n (pc := 41) dX11_append_41 (i := 0) rfl rfl ?_
    refine x_gI (pc := 42) (k := 10) fcX11 dX11_append_42 q575 (by decide) rfl (fun v6 => ?_)
    refine x_iload_n (pc := 45) dX11_append_45 (i := 1) rfl rfl ?_
    refine x_i2c (pc := 46) dX11_append_46 ?_
    refine x_stC (pc := 47) dX11_append_47 (fun m7 => ?_)
    refine x_aload_n (pc := 48) dX11_append_48 (i := 0) rfl rfl ?_
    refine x_dup (pc := 49) dX11_append_49 rfl ?_
    refine x_gI (pc := 50) (k := 10) fcX11 dX11_append_50 q575 (by decide) rfl (fun v8 => ?_)
    refine x_iconst (pc := 53) (v := 1) dX11_append_53 (by decide) ?_
    refine x_iadd (pc := 54) dX11_append_54 ?_
    refine x_pI (pc := 55) (k := 10) fcX11 dX11_append_55 q575 (by decide) rfl rfl rfl rfl (fun m9 => ?_)
    refine x_aload_n (pc := 58) dX11_append_58 (i := 0) rfl rfl ?_
    refine x_gI (pc := 59) (k := 10) fcX11 dX11_append_59 q575 (by decide) rfl (fun v10 => ?_)
    exact x_iret rfl dX11_append_62 rfl rfl
set_option maxHeartbeats 4000000 in
theorem xbX11_append {n0 c0 s0 cx cy : Nat} {S : mSh} {μ : mMm} (o : Nat) (p0 : Int32) : mX MX11_append n0 c0 s0 0 [some (.ref o), some (.int p0)] [] (S, μ, cx, cy) (iMI S cx cy) (bX11_append S μ o p0) := by
  unfold bX11_append
  refine x_aload_n (pc := 0) dX11_append_0 (i := 0) rfl rfl ?_
  refine x_iload_n (pc := 1) dX11_append_1 (i := 1) rfl rfl ?_
  refine x_bipush (pc := 2) (v := 33) dX11_append_2 (by decide) ?_
  refine x_bipush (pc := 4) (v := 126) dX11_append_4 (by decide) ?_
  refine x_callSi (pc := 6) (As := [.int p0, .int (33 : Int32), .int (126 : Int32)]) (rest := [.ref o]) (vx := fun a => a) (μf := fun _ => μ) (mX11_in S μ cx cy p0 (33 : Int32) (126 : Int32)) (fun _ => rfl) rfl dX11_append_6 q199 kX11_in rfl ⟨by decide, by decide⟩ rfl (Nat.le_of_ble_eq_true rfl) (fun v1 => ?_)
  refine x_callVi (pc := 9) (As := [.int v1]) (rest := []) (vx := fun a => a.1) (μf := fun a => a.2) fcX11 (mX11_asks S μ cx cy o v1) (fun _ => rfl) rfl (fun _ h => ifok h) dX11_append_9 q202 kX11_asks rfl ⟨by decide, by decide⟩ rfl (Nat.le_of_ble_eq_true rfl) (fun r2 => ?_)
  refine x_pop (pc := 12) dX11_append_12 rfl ?_
  refine x_aload_n (pc := 13) dX11_append_13 (i := 0) rfl rfl ?_
  refine x_aload_n (pc := 14) dX11_append_14 (i := 0) rfl rfl ?_
  refine x_gI (pc := 15) (k := 10) fcX11 dX11_append_15 q575 (by decide) rfl (fun v3 => ?_)
  refine x_bipush (pc := 18) (v := 60) dX11_append_18 (by decide) ?_
  refine x_icmp_ge (pc := 20) (tgt := 27) dX11_append_20 (by decide) ?_ ?_
  · refine x_iconst (pc := 27) (v := 0) dX11_append_27 (by decide) ?_
    exact xX11_append_28 r2.2 o p0 (0 : Int32) o 
  · refine x_iconst (pc := 23) (v := 1) dX11_append_23 (by decide) ?_
    refine x_goto (pc := 24) (tgt := 28) dX11_append_24 (by decide) ?_
    exact xX11_append_28 r2.2 o p0 (1 : Int32) o 
theorem mX11_append (S : mSh) (μ : mMm) (cx cy : Nat) (o : Nat) (p0 : Int32) : mMet MX11_append [.ref o, .int p0] (S, μ, cx, cy) (iMI S cx cy) (fX11_append S μ o p0) := mMet.of rfl (by decide) rfl (fun h => by cases h) (Nat.le_of_ble_eq_true rfl) (mX.ck (fun _ => xbX11_append o p0))
/-! SlideMillsModel.clearBuffer()I -/
def bX11_clearBuffer (S : mSh) (μ : mMm) (o : Nat) : Option (Int32 × mMm) := (gI S μ o 11 10).bind fun v1 => (pI S μ o 11 10 (0 : Int32)).bind fun m2 => (fX11_says S m2 o v1).bind fun r3 => some (r3.1, r3.2)
def fX11_clearBuffer (S : mSh) (μ : mMm) (o : Nat) : Option (Int32 × mMm) := if mok S o 11 = true then bX11_clearBuffer S μ o else none
abbrev MX11_clearBuffer : mM := ((yX11_clearBuffer, cX11_clearBuffer, 2, (some .int)), (1, 21), (false, false), RX11, eT)
theorem kX11_clearBuffer : mCalV MX11_clearBuffer RX11 0 := ⟨q585, q586, q5, q587, by decide +kernel⟩
set_option maxHeartbeats 4000000 in
theorem xbX11_clearBuffer {n0 c0 s0 cx cy : Nat} {S : mSh} {μ : mMm} (o : Nat) : mX MX11_clearBuffer n0 c0 s0 0 [some (.ref o), none] [] (S, μ, cx, cy) (iMI S cx cy) (bX11_clearBuffer S μ o) := by
  unfold bX11_clearBuffer
  refine x_aload_n (pc := 0) dX11_clearBuffer_0 (i := 0) rfl rfl ?_
  refine x_gI (pc := 1) (k := 10) fcX11 dX11_clearBuffer_1 q575 (by decide) rfl (fun v1 => ?_)
  refine x_istore_n (pc := 4) dX11_clearBuffer_4 (i := 1) rfl (by decide) (l' := [some (.ref o), some (.int v1)]) rfl ?_
  refine x_aload_n (pc := 5) dX11_clearBuffer_5 (i := 0) rfl rfl ?_
  refine x_iconst (pc := 6) (v := 0) dX11_clearBuffer_6 (by decide) ?_
  refine x_pI (pc := 7) (k := 10) fcX11 dX11_clearBuffer_7 q575 (by decide) rfl rfl rfl rfl (fun m2 => ?_)
  refine x_aload_n (pc := 10) dX11_clearBuffer_10 (i := 0) rfl rfl ?_
  refine x_iload_n (pc := 11) dX11_clearBuffer_11 (i := 1) rfl rfl ?_
  refine x_callVi (pc := 12) (As := [.int v1]) (rest := []) (vx := fun a => a.1) (μf := fun a => a.2) fcX11 (mX11_says S m2 cx cy o v1) (fun _ => rfl) rfl (fun _ h => ifok h) dX11_clearBuffer_12 q266 kX11_says rfl ⟨by decide, by decide⟩ rfl (Nat.le_of_ble_eq_true rfl) (fun r3 => ?_)
  exact x_iret rfl dX11_clearBuffer_15 rfl rfl
theorem mX11_clearBuffer (S : mSh) (μ : mMm) (cx cy : Nat) (o : Nat) : mMet MX11_clearBuffer [.ref o] (S, μ, cx, cy) (iMI S cx cy) (fX11_clearBuffer S μ o) := mMet.of rfl (by decide) rfl (fun h => by cases h) (Nat.le_of_ble_eq_true rfl) (mX.ck (fun _ => xbX11_clearBuffer o))
/-! SlideMillsModel.sign()I -/
def bX11_sign (S : mSh) (μ : mMm) (o : Nat) : Option (Int32) := (gI S μ o 11 17).bind fun v1 => (gI S μ o 11 10).bind fun v2 => if v2 ≤ v1 then (some (-1 : Int32)) else ((gR S o 11 9).bind fun v3 => (gI S μ o 11 17).bind fun v4 => (ldC S μ v3 v4).bind fun v5 => some v5)
def fX11_sign (S : mSh) (μ : mMm) (o : Nat) : Option (Int32) := if mok S o 11 = true then bX11_sign S μ o else none
abbrev MX11_sign : mM := ((yX11_sign, cX11_sign, 1, (some .int)), (0, 0), (false, false), RX11, eT)
theorem kX11_sign : mCalV MX11_sign RX11 0 := ⟨q640, q641, q5, q642, by decide +kernel⟩
set_option maxHeartbeats 4000000 in
theorem xbX11_sign {n0 c0 s0 cx cy : Nat} {S : mSh} {μ : mMm} (o : Nat) : mX MX11_sign n0 c0 s0 0 [some (.ref o)] [] (S, μ, cx, cy) (iPI S μ cx cy) (bX11_sign S μ o) := by
  unfold bX11_sign
  refine x_aload_n (pc := 0) dX11_sign_0 (i := 0) rfl rfl ?_
  refine x_gI (pc := 1) (k := 17) fcX11 dX11_sign_1 q633 (by decide) rfl (fun v1 => ?_)
  refine x_aload_n (pc := 4) dX11_sign_4 (i := 0) rfl rfl ?_
  refine x_gI (pc := 5) (k := 10) fcX11 dX11_sign_5 q575 (by decide) rfl (fun v2 => ?_)
  refine x_icmp_ge (pc := 8) (tgt := 23) dX11_sign_8 (by decide) ?_ ?_
  · refine x_iconst (pc := 23) (v := -1) dX11_sign_23 (by decide) ?_
    exact x_iret rfl dX11_sign_24 rfl rfl
  · refine x_aload_n (pc := 11) dX11_sign_11 (i := 0) rfl rfl ?_
    refine x_gR (pc := 12) (k := 9) fcX11 dX11_sign_12 q143 (by decide) rfl (fun v3 => ?_)
    refine x_aload_n (pc := 15) dX11_sign_15 (i := 0) rfl rfl ?_
    refine x_gI (pc := 16) (k := 17) fcX11 dX11_sign_16 q633 (by decide) rfl (fun v4 => ?_)
    refine x_ldC (pc := 19) dX11_sign_19 (fun v5 => ?_)
    refine x_goto (pc := 20) (tgt := 24) dX11_sign_20 (by decide) ?_
    exact x_iret rfl dX11_sign_24 rfl rfl
theorem mX11_sign (S : mSh) (μ : mMm) (cx cy : Nat) (o : Nat) : mMet MX11_sign [.ref o] (S, μ, cx, cy) (iPI S μ cx cy) (fX11_sign S μ o) := mMet.of rfl (by decide) rfl (fun h => by cases h) (Nat.le_of_ble_eq_true rfl) (mX.ck (fun _ => xbX11_sign o))
/-! SlideMillsModel.needs(Z)V -/
def lX11_needs_20 (S : mSh) (μ : mMm) (x0 : Nat) (t0 : Int32) (t1 : Nat) : Option (mMm) := (pI S μ t1 11 18 t0).bind fun m3 => (gI S m3 x0 11 17).bind fun v4 => (pI S m3 x0 11 17 (v4 + (1 : Int32))).bind fun m5 => some m5
def bX11_needs (S : mSh) (μ : mMm) (o : Nat) (p0 : Int32) : Option (mMm) := (gI S μ o 11 18).bind fun v1 => if 0 ≤ v1 then (some μ) else (if p0 = 0 then ((gI S μ o 11 17).bind fun v2 => lX11_needs_20 S μ o v2 o) else (lX11_needs_20 S μ o (-1 : Int32) o))
def fX11_needs (S : mSh) (μ : mMm) (o : Nat) (p0 : Int32) : Option (mMm) := if mok S o 11 = true then bX11_needs S μ o p0 else none
abbrev MX11_needs : mM := ((yX11_needs, cX11_needs, 2, none), (0, 0), (false, false), RX11, eT)
theorem kX11_needs : mCalV MX11_needs RX11 1 := ⟨q644, q645, q5, q646, by decide +kernel⟩
set_option maxHeartbeats 4000000 in
theorem xX11_needs_20 {n0 c0 s0 cx cy : Nat} {S : mSh} (μ : mMm) (x0 : Nat) (t0 : Int32) (t1 : Nat) (d1 : Option Value) : mX MX11_needs n0 c0 s0 20 [some (.ref x0), d1] [.int t0, .ref t1] (S, μ, cx, cy) (iMV S cx cy) (lX11_needs_20 S μ x0 t0 t1) := by
  unfold lX11_needs_20
  refine x_pI (pc := 20) (k := 18) fcX11 dX11_needs_20 q634 (by decide) rfl rfl rfl rfl (fun m3 => ?_)
  refine x_aload_n (pc := 23) dX11_needs_23 (i := 0) rfl rfl ?_
  refine x_dup (pc := 24) dX11_needs_24 rfl ?_
  refine x_gI (pc := 25) (k := 17) fcX11 dX11_needs_25 q633 (by decide) rfl (fun v4 => ?_)
  refine x_iconst (pc := 28) (v := 1) dX11_needs_28 (by decide) ?_
  refine x_iadd (pc := 29) dX11_needs_29 ?_
  refine x_pI (pc := 30) (k := 17) fcX11 dX11_needs_30 q633 (by decide) rfl rfl rfl rfl (fun m5 => ?_)
  exact x_ret rfl dX11_needs_33 rfl
set_option maxHeartbeats 4000000 in
theorem xbX11_needs {n0 c0 s0 cx cy : Nat} {S : mSh} {μ : mMm} (o : Nat) (p0 : Int32) : mX MX11_needs n0 c0 s0 0 [some (.ref o), some (.int p0)] [] (S, μ, cx, cy) (iMV S cx cy) (bX11_needs S μ o p0) := by
  unfold bX11_needs
  refine x_aload_n (pc := 0) dX11_needs_0 (i := 0) rfl rfl ?_
  refine x_gI (pc := 1) (k := 18) fcX11 dX11_needs_1 q634 (by decide) rfl (fun v1 => ?_)
  refine x_if_ge (pc := 4) (tgt := 33) dX11_needs_4 (by decide) ?_ ?_
  · exact x_ret rfl dX11_needs_33 rfl
  · refine x_aload_n (pc := 7) dX11_needs_7 (i := 0) rfl rfl ?_
    refine x_iload_n (pc := 8) dX11_needs_8 (i := 1) rfl rfl ?_
    refine x_if_eq (pc := 9) (tgt := 16) dX11_needs_9 (by decide) ?_ ?_
    · refine x_aload_n (pc := 16) dX11_needs_16 (i := 0) rfl rfl ?_
      refine x_gI (pc := 17) (k := 17) fcX11 dX11_needs_17 q633 (by decide) rfl (fun v2 => ?_)
      exact xX11_needs_20 μ o v2 o _
    · refine x_iconst (pc := 12) (v := -1) dX11_needs_12 (by decide) ?_
      refine x_goto (pc := 13) (tgt := 20) dX11_needs_13 (by decide) ?_
      exact xX11_needs_20 μ o (-1 : Int32) o _
theorem mX11_needs (S : mSh) (μ : mMm) (cx cy : Nat) (o : Nat) (p0 : Int32) : mMet MX11_needs [.ref o, .int p0] (S, μ, cx, cy) (iMV S cx cy) (fX11_needs S μ o p0) := mMet.of rfl (by decide) rfl (fun h => by cases h) (Nat.le_of_ble_eq_true rfl) (mX.ck (fun _ => xbX11_needs o p0))
/-! SlideMillsModel.number(I)I -/
def lX11_number_74 (k21 : mMm → Nat → Int32 → Int32 → Int32 → Option (Int32 × mMm)) (S : mSh) (μ : mMm) (x0 : Nat) (x1 : Int32) (x2 : Int32) (x3 : Int32) : Option (Int32 × mMm) := k21 μ x0 x1 x2 (x3 + (1 : Int32))
def lX11_number_71 (k21 : mMm → Nat → Int32 → Int32 → Int32 → Option (Int32 × mMm)) (S : mSh) (μ : mMm) (x0 : Nat) (x1 : Int32) (x2 : Int32) (x3 : Int32) (t0 : Int32) (t1 : Nat) : Option (Int32 × mMm) := (fX11_needs S μ t1 t0).bind fun m8 => lX11_number_74 k21 S m8 x0 x1 x2 x3
def lX11_number_21 (S : mSh) : Nat → mMm → Nat → Int32 → Int32 → Int32 → Option (Int32 × mMm)
  | 0, _, _, _, _, _ => none
  | n + 1, μ, x0, x1, x2, x3 => if (2 : Int32) ≤ x3 then (some (x2, μ)) else ((gI S μ x0 11 18).bind fun v4 => if 0 ≤ v4 then (lX11_number_74 (lX11_number_21 S n) S μ x0 x1 x2 x3) else ((fX11_sign S μ x0).bind fun v5 => (fX11_in v5 (48 : Int32) (57 : Int32)).bind fun v6 => if v6 = 0 then (lX11_number_74 (lX11_number_21 S n) S μ x0 x1 x2 x3) else ((fX11_sign S μ x0).bind fun v7 => if x1 < ((((10 : Int32) * x2) + v7) - (48 : Int32)) then (lX11_number_71 (lX11_number_21 S n) S μ x0 x1 ((((10 : Int32) * x2) + v7) - (48 : Int32)) x3 (0 : Int32) x0) else (lX11_number_71 (lX11_number_21 S n) S μ x0 x1 ((((10 : Int32) * x2) + v7) - (48 : Int32)) x3 (1 : Int32) x0))))
def bX11_number (S : mSh) (μ : mMm) (o : Nat) (p0 : Int32) : Option (Int32 × mMm) := (fX11_sign S μ o).bind fun v1 => (fX11_in (v1 - (48 : Int32)) (1 : Int32) (9 : Int32)).bind fun v2 => (fX11_needs S μ o v2).bind fun m3 => lX11_number_21 S FU m3 o p0 (v1 - (48 : Int32)) (0 : Int32)
def fX11_number (S : mSh) (μ : mMm) (o : Nat) (p0 : Int32) : Option (Int32 × mMm) := if mok S o 11 = true then bX11_number S μ o p0 else none
abbrev MX11_number : mM := ((yX11_number, cX11_number, 4, (some .int)), (1, 22), (false, false), RX11, eT)
theorem kX11_number : mCalV MX11_number RX11 1 := ⟨q648, q649, q5, q650, by decide +kernel⟩
set_option maxHeartbeats 4000000 in
theorem xX11_number_74 {n0 c0 s0 cx cy : Nat} {S : mSh} {k21 : mMm → Nat → Int32 → Int32 → Int32 → Option (Int32 × mMm)} (hk21 : ∀ (μ : mMm) (x0 : Nat) (x1 : Int32) (x2 : Int32) (x3 : Int32), mX MX11_number n0 c0 s0 21 [some (.ref x0), some (.int x1), some (.int x2), some (.int x3)] [] (S, μ, cx, cy) (iMI S cx cy) (k21 μ x0 x1 x2 x3)) (μ : mMm) (x0 : Nat) (x1 : Int32) (x2 : Int32) (x3 : Int32) : mX MX11_number n0 c0 s0 74 [some (.ref x0), some (.int x1), some (.int x2), some (.int x3)] [] (S, μ, cx, cy) (iMI S cx cy) (lX11_number_74 k21 S μ x0 x1 x2 x3) := by
  unfold lX11_number_74
  refine x_iinc (pc := 74) (v := x3 + (1 : Int32)) dX11_number_74 rfl (by rw [show Int32.ofInt (1) = (1 : Int32) from by decide]) (by decide) (l' := [some (.ref x0), some (.int x1), some (.int x2), some (.int (x3 + (1 : Int32)))]) rfl ?_
  refine x_goto (pc := 77) (tgt := 21) dX11_number_77 (by decide) ?_
  exact hk21 μ x0 x1 x2 (x3 + (1 : Int32)) 
set_option maxHeartbeats 4000000 in
theorem xX11_number_71 {n0 c0 s0 cx cy : Nat} {S : mSh} {k21 : mMm → Nat → Int32 → Int32 → Int32 → Option (Int32 × mMm)} (hk21 : ∀ (μ : mMm) (x0 : Nat) (x1 : Int32) (x2 : Int32) (x3 : Int32), mX MX11_number n0 c0 s0 21 [some (.ref x0), some (.int x1), some (.int x2), some (.int x3)] [] (S, μ, cx, cy) (iMI S cx cy) (k21 μ x0 x1 x2 x3)) (μ : mMm) (x0 : Nat) (x1 : Int32) (x2 : Int32) (x3 : Int32) (t0 : Int32) (t1 : Nat) : mX MX11_number n0 c0 s0 71 [some (.ref x0), some (.int x1), some (.int x2), some (.int x3)] [.int t0, .ref t1] (S, μ, cx, cy) (iMI S cx cy) (lX11_number_71 k21 S μ x0 x1 x2 x3 t0 t1) := by
  unfold lX11_number_71
  refine x_callVv (pc := 71) (As := [.int t0]) (rest := []) (μf := fun a => a) fcX11 (mX11_needs S μ cx cy t1 t0) (fun _ => rfl) rfl (fun _ h => ifok h) dX11_number_71 q643 kX11_needs rfl ⟨by decide, by decide⟩ rfl (Nat.le_of_ble_eq_true rfl) (fun m8 => ?_)
  exact xX11_number_74 (k21 := k21) hk21 m8 x0 x1 x2 x3 
set_option maxHeartbeats 4000000 in
theorem xX11_number_21 {n0 c0 s0 cx cy : Nat} {S : mSh} : ∀ (n : Nat) (μ : mMm) (x0 : Nat) (x1 : Int32) (x2 : Int32) (x3 : Int32), mX MX11_number n0 c0 s0 21 [some (.ref x0), some (.int x1), some (.int x2), some (.int x3)] [] (S, μ, cx, cy) (iMI S cx cy) (lX11_number_21 S n μ x0 x1 x2 x3) := by
  intro n
  induction n with
  | zero => intros; exact x_none
  | succ n ih =>
    intro μ x0 x1 x2 x3
    unfold lX11_number_21
    refine x_iload_n (pc := 21) dX11_number_21 (i := 3) rfl rfl ?_
    refine x_iconst (pc := 22) (v := 2) dX11_number_22 (by decide) ?_
    refine x_icmp_ge (pc := 23) (tgt := 80) dX11_number_23 (by decide) ?_ ?_
    · refine x_iload_n (pc := 80) dX11_number_80 (i := 2) rfl rfl ?_
      exact x_iret rfl dX11_number_81 rfl rfl
    · refine x_aload_n (pc := 26) dX11_number_26 (i := 0) rfl rfl ?_
      refine x_gI (pc := 27) (k := 18) fcX11 dX11_number_27 q634 (by decide) rfl (fun v4 => ?_)
      refine x_if_ge (pc := 30) (tgt := 74) dX11_number_30 (by decide) ?_ ?_
      · exact xX11_number_74 (k21 := (lX11_number_21 S n)) ih μ x0 x1 x2 x3
      · refine x_aload_n (pc := 33) dX11_number_33 (i := 0) rfl rfl ?_
        refine x_callVi (pc := 34) (As := []) (rest := []) (vx := fun a => a) (μf := fun _ => μ) fcX11 (mX11_sign S μ cx cy x0) (fun _ => rfl) rfl (fun _ h => ifok h) dX11_number_34 q639 kX11_sign rfl ⟨by decide, by decide⟩ rfl (Nat.le_of_ble_eq_true rfl) (fun v5 => ?_)
        refine x_bipush (pc := 37) (v := 48) dX11_number_37 (by decide) ?_
        refine x_bipush (pc := 39) (v := 57) dX11_number_39 (by decide) ?_
        refine x_callSi (pc := 41) (As := [.int v5, .int (48 : Int32), .int (57 : Int32)]) (rest := []) (vx := fun a => a) (μf := fun _ => μ) (mX11_in S μ cx cy v5 (48 : Int32) (57 : Int32)) (fun _ => rfl) rfl dX11_number_41 q199 kX11_in rfl ⟨by decide, by decide⟩ rfl (Nat.le_of_ble_eq_true rfl) (fun v6 => ?_)
        refine x_if_eq (pc := 44) (tgt := 74) dX11_number_44 (by decide) ?_ ?_
        · exact xX11_number_74 (k21 := (lX11_number_21 S n)) ih μ x0 x1 x2 x3
        · refine x_bipush (pc := 47) (v := 10) dX11_number_47 (by decide) ?_
          refine x_iload_n (pc := 49) dX11_number_49 (i := 2) rfl rfl ?_
          refine x_imul (pc := 50) dX11_number_50 ?_
          refine x_aload_n (pc := 51) dX11_number_51 (i := 0) rfl rfl ?_
          refine x_callVi (pc := 52) (As := []) (rest := [.int ((10 : Int32) * x2)]) (vx := fun a => a) (μf := fun _ => μ) fcX11 (mX11_sign S μ cx cy x0) (fun _ => rfl) rfl (fun _ h => ifok h) dX11_number_52 q639 kX11_sign rfl ⟨by decide, by decide⟩ rfl (Nat.le_of_ble_eq_true rfl) (fun v7 => ?_)
          refine x_iadd (pc := 55) dX11_number_55 ?_
          refine x_bipush (pc := 56) (v := 48) dX11_number_56 (by decide) ?_
          refine x_isub (pc := 58) dX11_number_58 ?_
          refine x_istore_n (pc := 59) dX11_number_59 (i := 2) rfl (by decide) (l' := [some (.ref x0), some (.int x1), some (.int ((((10 : Int32) * x2) + v7) - (48 : Int32))), some (.int x3)]) rfl ?_
          refine x_aload_n (pc := 60) dX11_number_60 (i := 0) rfl rfl ?_
          refine x_iload_n (pc := 61) dX11_number_61 (i := 2) rfl rfl ?_
          refine x_iload_n (pc := 62) dX11_number_62 (i := 1) rfl rfl ?_
          refine x_icmp_gt (pc := 63) (tgt := 70) dX11_number_63 (by decide) ?_ ?_
          · refine x_iconst (pc := 70) (v := 0) dX11_number_70 (by decide) ?_
            exact xX11_number_71 (k21 := (lX11_number_21 S n)) ih μ x0 x1 ((((10 : Int32) * x2) + v7) - (48 : Int32)) x3 (0 : Int32) x0 
          · refine x_iconst (pc := 66) (v := 1) dX11_number_66 (by decide) ?_
            refine x_goto (pc := 67) (tgt := 71) dX11_number_67 (by decide) ?_
            exact xX11_number_71 (k21 := (lX11_number_21 S n)) ih μ x0 x1 ((((10 : Int32) * x2) + v7) - (48 : Int32)) x3 (1 : Int32) x0 
set_option maxHeartbeats 4000000 in
theorem xbX11_number {n0 c0 s0 cx cy : Nat} {S : mSh} {μ : mMm} (o : Nat) (p0 : Int32) : mX MX11_number n0 c0 s0 0 [some (.ref o), some (.int p0), none, none] [] (S, μ, cx, cy) (iMI S cx cy) (bX11_number S μ o p0) := by
  unfold bX11_number
  refine x_aload_n (pc := 0) dX11_number_0 (i := 0) rfl rfl ?_
  refine x_callVi (pc := 1) (As := []) (rest := []) (vx := fun a => a) (μf := fun _ => μ) fcX11 (mX11_sign S μ cx cy o) (fun _ => rfl) rfl (fun _ h => ifok h) dX11_number_1 q639 kX11_sign rfl ⟨by decide, by decide⟩ rfl (Nat.le_of_ble_eq_true rfl) (fun v1 => ?_)
  refine x_bipush (pc := 4) (v := 48) dX11_number_4 (by decide) ?_
  refine x_isub (pc := 6) dX11_number_6 ?_
  refine x_istore_n (pc := 7) dX11_number_7 (i := 2) rfl (by decide) (l' := [some (.ref o), some (.int p0), some (.int (v1 - (48 : Int32))), none]) rfl ?_
  refine x_aload_n (pc := 8) dX11_number_8 (i := 0) rfl rfl ?_
  refine x_iload_n (pc := 9) dX11_number_9 (i := 2) rfl rfl ?_
  refine x_iconst (pc := 10) (v := 1) dX11_number_10 (by decide) ?_
  refine x_bipush (pc := 11) (v := 9) dX11_number_11 (by decide) ?_
  refine x_callSi (pc := 13) (As := [.int (v1 - (48 : Int32)), .int (1 : Int32), .int (9 : Int32)]) (rest := [.ref o]) (vx := fun a => a) (μf := fun _ => μ) (mX11_in S μ cx cy (v1 - (48 : Int32)) (1 : Int32) (9 : Int32)) (fun _ => rfl) rfl dX11_number_13 q199 kX11_in rfl ⟨by decide, by decide⟩ rfl (Nat.le_of_ble_eq_true rfl) (fun v2 => ?_)
  refine x_callVv (pc := 16) (As := [.int v2]) (rest := []) (μf := fun a => a) fcX11 (mX11_needs S μ cx cy o v2) (fun _ => rfl) rfl (fun _ h => ifok h) dX11_number_16 q643 kX11_needs rfl ⟨by decide, by decide⟩ rfl (Nat.le_of_ble_eq_true rfl) (fun m3 => ?_)
  refine x_iconst (pc := 19) (v := 0) dX11_number_19 (by decide) ?_
  refine x_istore_n (pc := 20) dX11_number_20 (i := 3) rfl (by decide) (l' := [some (.ref o), some (.int p0), some (.int (v1 - (48 : Int32))), some (.int (0 : Int32))]) rfl ?_
  exact xX11_number_21 FU m3 o p0 (v1 - (48 : Int32)) (0 : Int32) 
theorem mX11_number (S : mSh) (μ : mMm) (cx cy : Nat) (o : Nat) (p0 : Int32) : mMet MX11_number [.ref o, .int p0] (S, μ, cx, cy) (iMI S cx cy) (fX11_number S μ o p0) := mMet.of rfl (by decide) rfl (fun h => by cases h) (Nat.le_of_ble_eq_true rfl) (mX.ck (fun _ => xbX11_number o p0))
/-! SlideMillsModel.readPart()V -/
def lX11_readPart_281 (S : mSh) (μ : mMm) (x0 : Nat) : Option (mMm) := (gI S μ x0 11 16).bind fun v9 => (pI S μ x0 11 16 (v9 + (1 : Int32))).bind fun m10 => some m10
def lX11_readPart_264 (S : mSh) (μ : mMm) (x0 : Nat) (x1 : Int32) (t0 : Int32) (t1 : Nat) : Option (mMm) := (fX11_needs S μ t1 t0).bind fun m15 => (gR S x0 11 15).bind fun v16 => (fX11_number S m15 x0 (40 : Int32)).bind fun r17 => (stI S r17.2 v16 (x1 + (2 : Int32)) r17.1).bind fun m18 => lX11_readPart_281 S m18 x0
def lX11_readPart_229 (S : mSh) (μ : mMm) (x0 : Nat) (x1 : Int32) (x2 : Int32) : Option (mMm) := if x2 = (114 : Int32) then ((gR S x0 11 15).bind fun v11 => (fX11_number S μ x0 (39 : Int32)).bind fun r12 => (stI S r12.2 v11 (x1 + (1 : Int32)) r12.1).bind fun m13 => (fX11_sign S m13 x0).bind fun v14 => if v14 = (44 : Int32) then (lX11_readPart_264 S m13 x0 x1 (1 : Int32) x0) else (lX11_readPart_264 S m13 x0 x1 (0 : Int32) x0)) else (lX11_readPart_281 S μ x0)
def lX11_readPart_191 (S : mSh) (μ : mMm) (x0 : Nat) (x1 : Int32) (x2 : Int32) : Option (mMm) := if x2 = (108 : Int32) then ((gR S x0 11 15).bind fun v19 => (fX11_sign S μ x0).bind fun v20 => (stI S μ v19 (x1 + (1 : Int32)) (v20 - (97 : Int32))).bind fun m21 => (gR S x0 11 15).bind fun v22 => (ldI S m21 v22 (x1 + (1 : Int32))).bind fun v23 => (fX11_in v23 (0 : Int32) (3 : Int32)).bind fun v24 => (fX11_needs S m21 x0 v24).bind fun m25 => lX11_readPart_229 S m25 x0 x1 x2) else (lX11_readPart_229 S μ x0 x1 x2)
def lX11_readPart_153 (S : mSh) (μ : mMm) (x0 : Nat) (x1 : Int32) (x2 : Int32) : Option (mMm) := if x2 = (112 : Int32) then ((gR S x0 11 15).bind fun v26 => (fX11_sign S μ x0).bind fun v27 => (stI S μ v26 (x1 + (1 : Int32)) (v27 - (48 : Int32))).bind fun m28 => (gR S x0 11 15).bind fun v29 => (ldI S m28 v29 (x1 + (1 : Int32))).bind fun v30 => (fX11_in v30 (0 : Int32) (2 : Int32)).bind fun v31 => (fX11_needs S m28 x0 v31).bind fun m32 => lX11_readPart_191 S m32 x0 x1 x2) else (lX11_readPart_191 S μ x0 x1 x2)
def lX11_readPart_132 (S : mSh) (μ : mMm) (x0 : Nat) (x1 : Int32) (x2 : Int32) : Option (mMm) := (gR S x0 11 15).bind fun v37 => (gI S μ x0 11 17).bind fun v38 => (gR S x0 11 15).bind fun v39 => (ldI S μ v39 (x1 + (1 : Int32))).bind fun v40 => (stI S μ v37 (x1 + (2 : Int32)) (v38 - v40)).bind fun m41 => lX11_readPart_153 S m41 x0 x1 x2
def lX11_readPart_103 (S : mSh) : Nat → mMm → Nat → Int32 → Int32 → Option (mMm)
  | 0, _, _, _, _ => none
  | n + 1, μ, x0, x1, x2 => (gI S μ x0 11 18).bind fun v36 => if 0 ≤ v36 then (lX11_readPart_132 S μ x0 x1 x2) else ((fX11_sign S μ x0).bind fun v42 => (fX11_in v42 (97 : Int32) (100 : Int32)).bind fun v43 => if v43 = 0 then (lX11_readPart_132 S μ x0 x1 x2) else ((fX11_needs S μ x0 (1 : Int32)).bind fun m44 => lX11_readPart_103 S n m44 x0 x1 x2))
def lX11_readPart_60 (S : mSh) (μ : mMm) (x0 : Nat) (x1 : Int32) (x2 : Int32) (t0 : Int32) (t1 : Nat) : Option (mMm) := (fX11_needs S μ t1 t0).bind fun m3 => (gR S x0 11 15).bind fun v4 => (stI S m3 v4 x1 x2).bind fun m5 => (gR S x0 11 15).bind fun v6 => (gI S m5 x0 11 17).bind fun v7 => (stI S m5 v6 (x1 + (1 : Int32)) v7).bind fun m8 => if x2 = (43 : Int32) then ((fX11_sign S m8 x0).bind fun v33 => (fX11_in v33 (97 : Int32) (100 : Int32)).bind fun v34 => (fX11_needs S m8 x0 v34).bind fun m35 => lX11_readPart_103 S FU m35 x0 x1 x2) else (lX11_readPart_153 S m8 x0 x1 x2)
def lX11_readPart_55 (S : mSh) (μ : mMm) (x0 : Nat) (x1 : Int32) (x2 : Int32) (t0 : Nat) : Option (mMm) := lX11_readPart_60 S μ x0 x1 x2 (1 : Int32) t0
def bX11_readPart (S : mSh) (μ : mMm) (o : Nat) : Option (mMm) := (gI S μ o 11 16).bind fun v1 => (fX11_sign S μ o).bind fun v2 => if v2 = (43 : Int32) then (lX11_readPart_55 S μ o ((3 : Int32) * v1) v2 o) else (if v2 = (45 : Int32) then (lX11_readPart_55 S μ o ((3 : Int32) * v1) v2 o) else (if v2 = (112 : Int32) then (lX11_readPart_55 S μ o ((3 : Int32) * v1) v2 o) else (if v2 = (117 : Int32) then (lX11_readPart_55 S μ o ((3 : Int32) * v1) v2 o) else (if v2 = (101 : Int32) then (lX11_readPart_55 S μ o ((3 : Int32) * v1) v2 o) else (if v2 = (108 : Int32) then (lX11_readPart_55 S μ o ((3 : Int32) * v1) v2 o) else (if v2 = (114 : Int32) then (lX11_readPart_55 S μ o ((3 : Int32) * v1) v2 o) else (lX11_readPart_60 S μ o ((3 : Int32) * v1) v2 (0 : Int32) o)))))))
def fX11_readPart (S : mSh) (μ : mMm) (o : Nat) : Option (mMm) := if mok S o 11 = true then bX11_readPart S μ o else none
abbrev MX11_readPart : mM := ((yX11_readPart, cX11_readPart, 3, none), (2, 45), (false, false), RX11, eT)
theorem kX11_readPart : mCalV MX11_readPart RX11 0 := ⟨q636, q637, q5, q638, by decide +kernel⟩
set_option maxHeartbeats 4000000 in
theorem xX11_readPart_281 {n0 c0 s0 cx cy : Nat} {S : mSh} (μ : mMm) (x0 : Nat) (d1 : Option Value) (d2 : Option Value) : mX MX11_readPart n0 c0 s0 281 [some (.ref x0), d1, d2] [] (S, μ, cx, cy) (iMV S cx cy) (lX11_readPart_281 S μ x0) := by
  unfold lX11_readPart_281
  refine x_aload_n (pc := 281) dX11_readPart_281 (i := 0) rfl rfl ?_
  refine x_dup (pc := 282) dX11_readPart_282 rfl ?_
  refine x_gI (pc := 283) (k := 16) fcX11 dX11_readPart_283 q632 (by decide) rfl (fun v9 => ?_)
  refine x_iconst (pc := 286) (v := 1) dX11_readPart_286 (by decide) ?_
  refine x_iadd (pc := 287) dX11_readPart_287 ?_
  refine x_pI (pc := 288) (k := 16) fcX11 dX11_readPart_288 q632 (by decide) rfl rfl rfl rfl (fun m10 => ?_)
  exact x_ret rfl dX11_readPart_291 rfl
set_option maxHeartbeats 4000000 in
theorem xX11_readPart_264 {n0 c0 s0 cx cy : Nat} {S : mSh} (μ : mMm) (x0 : Nat) (x1 : Int32) (t0 : Int32) (t1 : Nat) (d2 : Option Value) : mX MX11_readPart n0 c0 s0 264 [some (.ref x0), some (.int x1), d2] [.int t0, .ref t1] (S, μ, cx, cy) (iMV S cx cy) (lX11_readPart_264 S μ x0 x1 t0 t1) := by
  unfold lX11_readPart_264
  refine x_callVv (pc := 264) (As := [.int t0]) (rest := []) (μf := fun a => a) fcX11 (mX11_needs S μ cx cy t1 t0) (fun _ => rfl) rfl (fun _ h => ifok h) dX11_readPart_264 q643 kX11_needs rfl ⟨by decide, by decide⟩ rfl (Nat.le_of_ble_eq_true rfl) (fun m15 => ?_)
  refine x_aload_n (pc := 267) dX11_readPart_267 (i := 0) rfl rfl ?_
  refine x_gR (pc := 268) (k := 15) fcX11 dX11_readPart_268 q144 (by decide) rfl (fun v16 => ?_)
  refine x_iload_n (pc := 271) dX11_readPart_271 (i := 1) rfl rfl ?_
  refine x_iconst (pc := 272) (v := 2) dX11_readPart_272 (by decide) ?_
  refine x_iadd (pc := 273) dX11_readPart_273 ?_
  refine x_aload_n (pc := 274) dX11_readPart_274 (i := 0) rfl rfl ?_
  refine x_bipush (pc := 275) (v := 40) dX11_readPart_275 (by decide) ?_
  refine x_callVi (pc := 277) (As := [.int (40 : Int32)]) (rest := [.int (x1 + (2 : Int32)), .ref v16]) (vx := fun a => a.1) (μf := fun a => a.2) fcX11 (mX11_number S m15 cx cy x0 (40 : Int32)) (fun _ => rfl) rfl (fun _ h => ifok h) dX11_readPart_277 q647 kX11_number rfl ⟨by decide, by decide⟩ rfl (Nat.le_of_ble_eq_true rfl) (fun r17 => ?_)
  refine x_stI (pc := 280) dX11_readPart_280 (fun m18 => ?_)
  exact xX11_readPart_281 m18 x0 _ _
set_option maxHeartbeats 4000000 in
theorem xX11_readPart_229 {n0 c0 s0 cx cy : Nat} {S : mSh} (μ : mMm) (x0 : Nat) (x1 : Int32) (x2 : Int32) : mX MX11_readPart n0 c0 s0 229 [some (.ref x0), some (.int x1), some (.int x2)] [] (S, μ, cx, cy) (iMV S cx cy) (lX11_readPart_229 S μ x0 x1 x2) := by
  unfold lX11_readPart_229
  refine x_iload_n (pc := 229) dX11_readPart_229 (i := 2) rfl rfl ?_
  refine x_bipush (pc := 230) (v := 114) dX11_readPart_230 (by decide) ?_
  refine x_icmp_ne (pc := 232) (tgt := 281) dX11_readPart_232 (by decide) ?_ ?_
  · refine x_aload_n (pc := 235) dX11_readPart_235 (i := 0) rfl rfl ?_
    refine x_gR (pc := 236) (k := 15) fcX11 dX11_readPart_236 q144 (by decide) rfl (fun v11 => ?_)
    refine x_iload_n (pc := 239) dX11_readPart_239 (i := 1) rfl rfl ?_
    refine x_iconst (pc := 240) (v := 1) dX11_readPart_240 (by decide) ?_
    refine x_iadd (pc := 241) dX11_readPart_241 ?_
    refine x_aload_n (pc := 242) dX11_readPart_242 (i := 0) rfl rfl ?_
    refine x_bipush (pc := 243) (v := 39) dX11_readPart_243 (by decide) ?_
    refine x_callVi (pc := 245) (As := [.int (39 : Int32)]) (rest := [.int (x1 + (1 : Int32)), .ref v11]) (vx := fun a => a.1) (μf := fun a => a.2) fcX11 (mX11_number S μ cx cy x0 (39 : Int32)) (fun _ => rfl) rfl (fun _ h => ifok h) dX11_readPart_245 q647 kX11_number rfl ⟨by decide, by decide⟩ rfl (Nat.le_of_ble_eq_true rfl) (fun r12 => ?_)
    refine x_stI (pc := 248) dX11_readPart_248 (fun m13 => ?_)
    refine x_aload_n (pc := 249) dX11_readPart_249 (i := 0) rfl rfl ?_
    refine x_aload_n (pc := 250) dX11_readPart_250 (i := 0) rfl rfl ?_
    refine x_callVi (pc := 251) (As := []) (rest := [.ref x0]) (vx := fun a => a) (μf := fun _ => m13) fcX11 (mX11_sign S m13 cx cy x0) (fun _ => rfl) rfl (fun _ h => ifok h) dX11_readPart_251 q639 kX11_sign rfl ⟨by decide, by decide⟩ rfl (Nat.le_of_ble_eq_true rfl) (fun v14 => ?_)
    refine x_bipush (pc := 254) (v := 44) dX11_readPart_254 (by decide) ?_
    refine x_icmp_ne (pc := 256) (tgt := 263) dX11_readPart_256 (by decide) ?_ ?_
    · refine x_iconst (pc := 259) (v := 1) dX11_readPart_259 (by decide) ?_
      refine x_goto (pc := 260) (tgt := 264) dX11_readPart_260 (by decide) ?_
      exact xX11_readPart_264 m13 x0 x1 (1 : Int32) x0 _
    · refine x_iconst (pc := 263) (v := 0) dX11_readPart_263 (by decide) ?_
      exact xX11_readPart_264 m13 x0 x1 (0 : Int32) x0 _
  · exact xX11_readPart_281 μ x0 _ _
set_option maxHeartbeats 4000000 in
theorem xX11_readPart_191 {n0 c0 s0 cx cy : Nat} {S : mSh} (μ : mMm) (x0 : Nat) (x1 : Int32) (x2 : Int32) : mX MX11_readPart n0 c0 s0 191 [some (.ref x0), some (.int x1), some (.int x2)] [] (S, μ, cx, cy) (iMV S cx cy) (lX11_readPart_191 S μ x0 x1 x2) := by
  unfold lX11_readPart_191
  refine x_iload_n (pc := 191) dX11_readPart_191 (i := 2) rfl rfl ?_
  refine x_bipush (pc := 192) (v := 108) dX11_readPart_192 (by decide) ?_
  refine x_icmp_ne (pc := 194) (tgt := 229) dX11_readPart_194 (by decide) ?_ ?_
  · refine x_aload_n (pc := 197) dX11_readPart_197 (i := 0) rfl rfl ?_
    refine x_gR (pc := 198) (k := 15) fcX11 dX11_readPart_198 q144 (by decide) rfl (fun v19 => ?_)
    refine x_iload_n (pc := 201) dX11_readPart_201 (i := 1) rfl rfl ?_
    refine x_iconst (pc := 202) (v := 1) dX11_readPart_202 (by decide) ?_
    refine x_iadd (pc := 203) dX11_readPart_203 ?_
    refine x_aload_n (pc := 204) dX11_readPart_204 (i := 0) rfl rfl ?_
    refine x_callVi (pc := 205) (As := []) (rest := [.int (x1 + (1 : Int32)), .ref v19]) (vx := fun a => a) (μf := fun _ => μ) fcX11 (mX11_sign S μ cx cy x0) (fun _ => rfl) rfl (fun _ h => ifok h) dX11_readPart_205 q639 kX11_sign rfl ⟨by decide, by decide⟩ rfl (Nat.le_of_ble_eq_true rfl) (fun v20 => ?_)
    refine x_bipush (pc := 208) (v := 97) dX11_readPart_208 (by decide) ?_
    refine x_isub (pc := 210) dX11_readPart_210 ?_
    refine x_stI (pc := 211) dX11_readPart_211 (fun m21 => ?_)
    refine x_aload_n (pc := 212) dX11_readPart_212 (i := 0) rfl rfl ?_
    refine x_aload_n (pc := 213) dX11_readPart_213 (i := 0) rfl rfl ?_
    refine x_gR (pc := 214) (k := 15) fcX11 dX11_readPart_214 q144 (by decide) rfl (fun v22 => ?_)
    refine x_iload_n (pc := 217) dX11_readPart_217 (i := 1) rfl rfl ?_
    refine x_iconst (pc := 218) (v := 1) dX11_readPart_218 (by decide) ?_
    refine x_iadd (pc := 219) dX11_readPart_219 ?_
    refine x_ldI (pc := 220) dX11_readPart_220 (fun v23 => ?_)
    refine x_iconst (pc := 221) (v := 0) dX11_readPart_221 (by decide) ?_
    refine x_iconst (pc := 222) (v := 3) dX11_readPart_222 (by decide) ?_
    refine x_callSi (pc := 223) (As := [.int v23, .int (0 : Int32), .int (3 : Int32)]) (rest := [.ref x0]) (vx := fun a => a) (μf := fun _ => m21) (mX11_in S m21 cx cy v23 (0 : Int32) (3 : Int32)) (fun _ => rfl) rfl dX11_readPart_223 q199 kX11_in rfl ⟨by decide, by decide⟩ rfl (Nat.le_of_ble_eq_true rfl) (fun v24 => ?_)
    refine x_callVv (pc := 226) (As := [.int v24]) (rest := []) (μf := fun a => a) fcX11 (mX11_needs S m21 cx cy x0 v24) (fun _ => rfl) rfl (fun _ h => ifok h) dX11_readPart_226 q643 kX11_needs rfl ⟨by decide, by decide⟩ rfl (Nat.le_of_ble_eq_true rfl) (fun m25 => ?_)
    exact xX11_readPart_229 m25 x0 x1 x2 
  · exact xX11_readPart_229 μ x0 x1 x2
set_option maxHeartbeats 4000000 in
theorem xX11_readPart_153 {n0 c0 s0 cx cy : Nat} {S : mSh} (μ : mMm) (x0 : Nat) (x1 : Int32) (x2 : Int32) : mX MX11_readPart n0 c0 s0 153 [some (.ref x0), some (.int x1), some (.int x2)] [] (S, μ, cx, cy) (iMV S cx cy) (lX11_readPart_153 S μ x0 x1 x2) := by
  unfold lX11_readPart_153
  refine x_iload_n (pc := 153) dX11_readPart_153 (i := 2) rfl rfl ?_
  refine x_bipush (pc := 154) (v := 112) dX11_readPart_154 (by decide) ?_
  refine x_icmp_ne (pc := 156) (tgt := 191) dX11_readPart_156 (by decide) ?_ ?_
  · refine x_aload_n (pc := 159) dX11_readPart_159 (i := 0) rfl rfl ?_
    refine x_gR (pc := 160) (k := 15) fcX11 dX11_readPart_160 q144 (by decide) rfl (fun v26 => ?_)
    refine x_iload_n (pc := 163) dX11_readPart_163 (i := 1) rfl rfl ?_
    refine x_iconst (pc := 164) (v := 1) dX11_readPart_164 (by decide) ?_
    refine x_iadd (pc := 165) dX11_readPart_165 ?_
    refine x_aload_n (pc := 166) dX11_readPart_166 (i := 0) rfl rfl ?_
    refine x_callVi (pc := 167) (As := []) (rest := [.int (x1 + (1 : Int32)), .ref v26]) (vx := fun a => a) (μf := fun _ => μ) fcX11 (mX11_sign S μ cx cy x0) (fun _ => rfl) rfl (fun _ h => ifok h) dX11_readPart_167 q639 kX11_sign rfl ⟨by decide, by decide⟩ rfl (Nat.le_of_ble_eq_true rfl) (fun v27 => ?_)
    refine x_bipush (pc := 170) (v := 48) dX11_readPart_170 (by decide) ?_
    refine x_isub (pc := 172) dX11_readPart_172 ?_
    refine x_stI (pc := 173) dX11_readPart_173 (fun m28 => ?_)
    refine x_aload_n (pc := 174) dX11_readPart_174 (i := 0) rfl rfl ?_
    refine x_aload_n (pc := 175) dX11_readPart_175 (i := 0) rfl rfl ?_
    refine x_gR (pc := 176) (k := 15) fcX11 dX11_readPart_176 q144 (by decide) rfl (fun v29 => ?_)
    refine x_iload_n (pc := 179) dX11_readPart_179 (i := 1) rfl rfl ?_
    refine x_iconst (pc := 180) (v := 1) dX11_readPart_180 (by decide) ?_
    refine x_iadd (pc := 181) dX11_readPart_181 ?_
    refine x_ldI (pc := 182) dX11_readPart_182 (fun v30 => ?_)
    refine x_iconst (pc := 183) (v := 0) dX11_readPart_183 (by decide) ?_
    refine x_iconst (pc := 184) (v := 2) dX11_readPart_184 (by decide) ?_
    refine x_callSi (pc := 185) (As := [.int v30, .int (0 : Int32), .int (2 : Int32)]) (rest := [.ref x0]) (vx := fun a => a) (μf := fun _ => m28) (mX11_in S m28 cx cy v30 (0 : Int32) (2 : Int32)) (fun _ => rfl) rfl dX11_readPart_185 q199 kX11_in rfl ⟨by decide, by decide⟩ rfl (Nat.le_of_ble_eq_true rfl) (fun v31 => ?_)
    refine x_callVv (pc := 188) (As := [.int v31]) (rest := []) (μf := fun a => a) fcX11 (mX11_needs S m28 cx cy x0 v31) (fun _ => rfl) rfl (fun _ h => ifok h) dX11_readPart_188 q643 kX11_needs rfl ⟨by decide, by decide⟩ rfl (Nat.le_of_ble_eq_true rfl) (fun m32 => ?_)
    exact xX11_readPart_191 m32 x0 x1 x2 
  · exact xX11_readPart_191 μ x0 x1 x2
set_option maxHeartbeats 4000000 in
theorem xX11_readPart_132 {n0 c0 s0 cx cy : Nat} {S : mSh} (μ : mMm) (x0 : Nat) (x1 : Int32) (x2 : Int32) : mX MX11_readPart n0 c0 s0 132 [some (.ref x0), some (.int x1), some (.int x2)] [] (S, μ, cx, cy) (iMV S cx cy) (lX11_readPart_132 S μ x0 x1 x2) := by
  unfold lX11_readPart_132
  refine x_aload_n (pc := 132) dX11_readPart_132 (i := 0) rfl rfl ?_
  refine x_gR (pc := 133) (k := 15) fcX11 dX11_readPart_133 q144 (by decide) rfl (fun v37 => ?_)
  refine x_iload_n (pc := 136) dX11_readPart_136 (i := 1) rfl rfl ?_
  refine x_iconst (pc := 137) (v := 2) dX11_readPart_137 (by decide) ?_
  refine x_iadd (pc := 138) dX11_readPart_138 ?_
  refine x_aload_n (pc := 139) dX11_readPart_139 (i := 0) rfl rfl ?_
  refine x_gI (pc := 140) (k := 17) fcX11 dX11_readPart_140 q633 (by decide) rfl (fun v38 => ?_)
  refine x_aload_n (pc := 143) dX11_readPart_143 (i := 0) rfl rfl ?_
  refine x_gR (pc := 144) (k := 15) fcX11 dX11_readPart_144 q144 (by decide) rfl (fun v39 => ?_)
  refine x_iload_n (pc := 147) dX11_readPart_147 (i := 1) rfl rfl ?_
  refine x_iconst (pc := 148) (v := 1) dX11_readPart_148 (by decide) ?_
  refine x_iadd (pc := 149) dX11_readPart_149 ?_
  refine x_ldI (pc := 150) dX11_readPart_150 (fun v40 => ?_)
  refine x_isub (pc := 151) dX11_readPart_151 ?_
  refine x_stI (pc := 152) dX11_readPart_152 (fun m41 => ?_)
  exact xX11_readPart_153 m41 x0 x1 x2 
set_option maxHeartbeats 4000000 in
theorem xX11_readPart_103 {n0 c0 s0 cx cy : Nat} {S : mSh} : ∀ (n : Nat) (μ : mMm) (x0 : Nat) (x1 : Int32) (x2 : Int32), mX MX11_readPart n0 c0 s0 103 [some (.ref x0), some (.int x1), some (.int x2)] [] (S, μ, cx, cy) (iMV S cx cy) (lX11_readPart_103 S n μ x0 x1 x2) := by
  intro n
  induction n with
  | zero => intros; exact x_none
  | succ n ih =>
    intro μ x0 x1 x2
    unfold lX11_readPart_103
    refine x_aload_n (pc := 103) dX11_readPart_103 (i := 0) rfl rfl ?_
    refine x_gI (pc := 104) (k := 18) fcX11 dX11_readPart_104 q634 (by decide) rfl (fun v36 => ?_)
    refine x_if_ge (pc := 107) (tgt := 132) dX11_readPart_107 (by decide) ?_ ?_
    · exact xX11_readPart_132 μ x0 x1 x2
    · refine x_aload_n (pc := 110) dX11_readPart_110 (i := 0) rfl rfl ?_
      refine x_callVi (pc := 111) (As := []) (rest := []) (vx := fun a => a) (μf := fun _ => μ) fcX11 (mX11_sign S μ cx cy x0) (fun _ => rfl) rfl (fun _ h => ifok h) dX11_readPart_111 q639 kX11_sign rfl ⟨by decide, by decide⟩ rfl (Nat.le_of_ble_eq_true rfl) (fun v42 => ?_)
      refine x_bipush (pc := 114) (v := 97) dX11_readPart_114 (by decide) ?_
      refine x_bipush (pc := 116) (v := 100) dX11_readPart_116 (by decide) ?_
      refine x_callSi (pc := 118) (As := [.int v42, .int (97 : Int32), .int (100 : Int32)]) (rest := []) (vx := fun a => a) (μf := fun _ => μ) (mX11_in S μ cx cy v42 (97 : Int32) (100 : Int32)) (fun _ => rfl) rfl dX11_readPart_118 q199 kX11_in rfl ⟨by decide, by decide⟩ rfl (Nat.le_of_ble_eq_true rfl) (fun v43 => ?_)
      refine x_if_eq (pc := 121) (tgt := 132) dX11_readPart_121 (by decide) ?_ ?_
      · exact xX11_readPart_132 μ x0 x1 x2
      · refine x_aload_n (pc := 124) dX11_readPart_124 (i := 0) rfl rfl ?_
        refine x_iconst (pc := 125) (v := 1) dX11_readPart_125 (by decide) ?_
        refine x_callVv (pc := 126) (As := [.int (1 : Int32)]) (rest := []) (μf := fun a => a) fcX11 (mX11_needs S μ cx cy x0 (1 : Int32)) (fun _ => rfl) rfl (fun _ h => ifok h) dX11_readPart_126 q643 kX11_needs rfl ⟨by decide, by decide⟩ rfl (Nat.le_of_ble_eq_true rfl) (fun m44 => ?_)
        refine x_goto (pc := 129) (tgt := 103) dX11_readPart_129 (by decide) ?_
        exact ih m44 x0 x1 x2 
set_option maxHeartbeats 4000000 in
theorem xX11_readPart_60 {n0 c0 s0 cx cy : Nat} {S : mSh} (μ : mMm) (x0 : Nat) (x1 : Int32) (x2 : Int32) (t0 : Int32) (t1 : Nat) : mX MX11_readPart n0 c0 s0 60 [some (.ref x0), some (.int x1), some (.int x2)] [.int t0, .ref t1] (S, μ, cx, cy) (iMV S cx cy) (lX11_readPart_60 S μ x0 x1 x2 t0 t1) := by
  unfold lX11_readPart_60
  refine x_callVv (pc := 60) (As := [.int t0]) (rest := []) (μf := fun a => a) fcX11 (mX11_needs S μ cx cy t1 t0) (fun _ => rfl) rfl (fun _ h => ifok h) dX11_readPart_60 q643 kX11_needs rfl ⟨by decide, by decide⟩ rfl (Nat.le_of_ble_eq_true rfl) (fun m3 => ?_)
  refine x_aload_n (pc := 63) dX11_readPart_63 (i := 0) rfl rfl ?_
  refine x_gR (pc := 64) (k := 15) fcX11 dX11_readPart_64 q144 (by decide) rfl (fun v4 => ?_)
  refine x_iload_n (pc := 67) dX11_readPart_67 (i := 1) rfl rfl ?_
  refine x_iload_n (pc := 68) dX11_readPart_68 (i := 2) rfl rfl ?_
  refine x_stI (pc := 69) dX11_readPart_69 (fun m5 => ?_)
  refine x_aload_n (pc := 70) dX11_readPart_70 (i := 0) rfl rfl ?_
  refine x_gR (pc := 71) (k := 15) fcX11 dX11_readPart_71 q144 (by decide) rfl (fun v6 => ?_)
  refine x_iload_n (pc := 74) dX11_readPart_74 (i := 1) rfl rfl ?_
  refine x_iconst (pc := 75) (v := 1) dX11_readPart_75 (by decide) ?_
  refine x_iadd (pc := 76) dX11_readPart_76 ?_
  refine x_aload_n (pc := 77) dX11_readPart_77 (i := 0) rfl rfl ?_
  refine x_gI (pc := 78) (k := 17) fcX11 dX11_readPart_78 q633 (by decide) rfl (fun v7 => ?_)
  refine x_stI (pc := 81) dX11_readPart_81 (fun m8 => ?_)
  refine x_iload_n (pc := 82) dX11_readPart_82 (i := 2) rfl rfl ?_
  refine x_bipush (pc := 83) (v := 43) dX11_readPart_83 (by decide) ?_
  refine x_icmp_ne (pc := 85) (tgt := 153) dX11_readPart_85 (by decide) ?_ ?_
  · refine x_aload_n (pc := 88) dX11_readPart_88 (i := 0) rfl rfl ?_
    refine x_aload_n (pc := 89) dX11_readPart_89 (i := 0) rfl rfl ?_
    refine x_callVi (pc := 90) (As := []) (rest := [.ref x0]) (vx := fun a => a) (μf := fun _ => m8) fcX11 (mX11_sign S m8 cx cy x0) (fun _ => rfl) rfl (fun _ h => ifok h) dX11_readPart_90 q639 kX11_sign rfl ⟨by decide, by decide⟩ rfl (Nat.le_of_ble_eq_true rfl) (fun v33 => ?_)
    refine x_bipush (pc := 93) (v := 97) dX11_readPart_93 (by decide) ?_
    refine x_bipush (pc := 95) (v := 100) dX11_readPart_95 (by decide) ?_
    refine x_callSi (pc := 97) (As := [.int v33, .int (97 : Int32), .int (100 : Int32)]) (rest := [.ref x0]) (vx := fun a => a) (μf := fun _ => m8) (mX11_in S m8 cx cy v33 (97 : Int32) (100 : Int32)) (fun _ => rfl) rfl dX11_readPart_97 q199 kX11_in rfl ⟨by decide, by decide⟩ rfl (Nat.le_of_ble_eq_true rfl) (fun v34 => ?_)
    refine x_callVv (pc := 100) (As := [.int v34]) (rest := []) (μf := fun a => a) fcX11 (mX11_needs S m8 cx cy x0 v34) (fun _ => rfl) rfl (fun _ h => ifok h) dX11_readPart_100 q643 kX11_needs rfl ⟨by decide, by decide⟩ rfl (Nat.le_of_ble_eq_true rfl) (fun m35 => ?_)
    exact xX11_readPart_103 FU m35 x0 x1 x2 
  · exact xX11_readPart_153 m8 x0 x1 x2
set_option maxHeartbeats 4000000 in
theorem xX11_readPart_55 {n0 c0 s0 cx cy : Nat} {S : mSh} (μ : mMm) (x0 : Nat) (x1 : Int32) (x2 : Int32) (t0 : Nat) : mX MX11_readPart n0 c0 s0 55 [some (.ref x0), some (.int x1), some (.int x2)] [.ref t0] (S, μ, cx, cy) (iMV S cx cy) (lX11_readPart_55 S μ x0 x1 x2 t0) := by
  unfold lX11_readPart_55
  refine x_iconst (pc := 55) (v := 1) dX11_readPart_55 (by decide) ?_
  refine x_goto (pc := 56) (tgt := 60) dX11_readPart_56 (by decide) ?_
  exact xX11_readPart_60 μ x0 x1 x2 (1 : Int32) t0 
set_option maxHeartbeats 4000000 in
theorem xbX11_readPart {n0 c0 s0 cx cy : Nat} {S : mSh} {μ : mMm} (o : Nat) : mX MX11_readPart n0 c0 s0 0 [some (.ref o), none, none] [] (S, μ, cx, cy) (iMV S cx cy) (bX11_readPart S μ o) := by
  unfold bX11_readPart
  refine x_iconst (pc := 0) (v := 3) dX11_readPart_0 (by decide) ?_
  refine x_aload_n (pc := 1) dX11_readPart_1 (i := 0) rfl rfl ?_
  refine x_gI (pc := 2) (k := 16) fcX11 dX11_readPart_2 q632 (by decide) rfl (fun v1 => ?_)
  refine x_imul (pc := 5) dX11_readPart_5 ?_
  refine x_istore_n (pc := 6) dX11_readPart_6 (i := 1) rfl (by decide) (l' := [some (.ref o), some (.int ((3 : Int32) * v1)), none]) rfl ?_
  refine x_aload_n (pc := 7) dX11_readPart_7 (i := 0) rfl rfl ?_
  refine x_callVi (pc := 8) (As := []) (rest := []) (vx := fun a => a) (μf := fun _ => μ) fcX11 (mX11_sign S μ cx cy o) (fun _ => rfl) rfl (fun _ h => ifok h) dX11_readPart_8 q639 kX11_sign rfl ⟨by decide, by decide⟩ rfl (Nat.le_of_ble_eq_true rfl) (fun v2 => ?_)
  refine x_istore_n (pc := 11) dX11_readPart_11 (i := 2) rfl (by decide) (l' := [some (.ref o), some (.int ((3 : Int32) * v1)), some (.int v2)]) rfl ?_
  refine x_aload_n (pc := 12) dX11_readPart_12 (i := 0) rfl rfl ?_
  refine x_iload_n (pc := 13) dX11_readPart_13 (i := 2) rfl rfl ?_
  refine x_bipush (pc := 14) (v := 43) dX11_readPart_14 (by decide) ?_
  refine x_icmp_eq (pc := 16) (tgt := 55) dX11_readPart_16 (by decide) ?_ ?_
  · exact xX11_readPart_55 μ o ((3 : Int32) * v1) v2 o
  · refine x_iload_n (pc := 19) dX11_readPart_19 (i := 2) rfl rfl ?_
    refine x_bipush (pc := 20) (v := 45) dX11_readPart_20 (by decide) ?_
    refine x_icmp_eq (pc := 22) (tgt := 55) dX11_readPart_22 (by decide) ?_ ?_
    · exact xX11_readPart_55 μ o ((3 : Int32) * v1) v2 o
    · refine x_iload_n (pc := 25) dX11_readPart_25 (i := 2) rfl rfl ?_
      refine x_bipush (pc := 26) (v := 112) dX11_readPart_26 (by decide) ?_
      refine x_icmp_eq (pc := 28) (tgt := 55) dX11_readPart_28 (by decide) ?_ ?_
      · exact xX11_readPart_55 μ o ((3 : Int32) * v1) v2 o
      · refine x_iload_n (pc := 31) dX11_readPart_31 (i := 2) rfl rfl ?_
        refine x_bipush (pc := 32) (v := 117) dX11_readPart_32 (by decide) ?_
        refine x_icmp_eq (pc := 34) (tgt := 55) dX11_readPart_34 (by decide) ?_ ?_
        · exact xX11_readPart_55 μ o ((3 : Int32) * v1) v2 o
        · refine x_iload_n (pc := 37) dX11_readPart_37 (i := 2) rfl rfl ?_
          refine x_bipush (pc := 38) (v := 101) dX11_readPart_38 (by decide) ?_
          refine x_icmp_eq (pc := 40) (tgt := 55) dX11_readPart_40 (by decide) ?_ ?_
          · exact xX11_readPart_55 μ o ((3 : Int32) * v1) v2 o
          · refine x_iload_n (pc := 43) dX11_readPart_43 (i := 2) rfl rfl ?_
            refine x_bipush (pc := 44) (v := 108) dX11_readPart_44 (by decide) ?_
            refine x_icmp_eq (pc := 46) (tgt := 55) dX11_readPart_46 (by decide) ?_ ?_
            · exact xX11_readPart_55 μ o ((3 : Int32) * v1) v2 o
            · refine x_iload_n (pc := 49) dX11_readPart_49 (i := 2) rfl rfl ?_
              refine x_bipush (pc := 50) (v := 114) dX11_readPart_50 (by decide) ?_
              refine x_icmp_ne (pc := 52) (tgt := 59) dX11_readPart_52 (by decide) ?_ ?_
              · exact xX11_readPart_55 μ o ((3 : Int32) * v1) v2 o
              · refine x_iconst (pc := 59) (v := 0) dX11_readPart_59 (by decide) ?_
                exact xX11_readPart_60 μ o ((3 : Int32) * v1) v2 (0 : Int32) o 
theorem mX11_readPart (S : mSh) (μ : mMm) (cx cy : Nat) (o : Nat) : mMet MX11_readPart [.ref o] (S, μ, cx, cy) (iMV S cx cy) (fX11_readPart S μ o) := mMet.of rfl (by decide) rfl (fun h => by cases h) (Nat.le_of_ble_eq_true rfl) (mX.ck (fun _ => xbX11_readPart o))
/-! SlideMillsModel.reads()I -/
def lX11_reads_83 (k17 : mMm → Nat → Int32 → Option (Int32 × mMm)) (S : mSh) (μ : mMm) (x0 : Nat) (t0 : Int32) : Option (Int32 × mMm) := k17 μ x0 t0
def lX11_reads_68 (k17 : mMm → Nat → Int32 → Option (Int32 × mMm)) (S : mSh) (μ : mMm) (x0 : Nat) (t0 : Int32) (t1 : Nat) : Option (Int32 × mMm) := (fX11_needs S μ t1 t0).bind fun m8 => (gI S m8 x0 11 18).bind fun v9 => if 0 ≤ v9 then (lX11_reads_83 k17 S m8 x0 (0 : Int32)) else (lX11_reads_83 k17 S m8 x0 (1 : Int32))
def lX11_reads_48 (k17 : mMm → Nat → Int32 → Option (Int32 × mMm)) (S : mSh) (μ : mMm) (x0 : Nat) (t0 : Int32) : Option (Int32 × mMm) := if t0 = 0 then (k17 μ x0 t0) else ((fX11_sign S μ x0).bind fun v7 => if v7 = (59 : Int32) then (lX11_reads_68 k17 S μ x0 (1 : Int32) x0) else (lX11_reads_68 k17 S μ x0 (0 : Int32) x0))
def lX11_reads_47 (k17 : mMm → Nat → Int32 → Option (Int32 × mMm)) (S : mSh) (μ : mMm) (x0 : Nat) : Option (Int32 × mMm) := lX11_reads_48 k17 S μ x0 (0 : Int32)
def lX11_reads_17 (S : mSh) : Nat → mMm → Nat → Int32 → Option (Int32 × mMm)
  | 0, _, _, _ => none
  | n + 1, μ, x0, x1 => if x1 = 0 then ((gI S μ x0 11 18).bind fun v4 => some (v4, μ)) else ((fX11_readPart S μ x0).bind fun m5 => (gI S m5 x0 11 18).bind fun v6 => if 0 ≤ v6 then (lX11_reads_47 (lX11_reads_17 S n) S m5 x0) else ((gI S m5 x0 11 17).bind fun v10 => (gI S m5 x0 11 10).bind fun v11 => if v11 ≤ v10 then (lX11_reads_47 (lX11_reads_17 S n) S m5 x0) else (lX11_reads_48 (lX11_reads_17 S n) S m5 x0 (1 : Int32))))
def bX11_reads (S : mSh) (μ : mMm) (o : Nat) : Option (Int32 × mMm) := (pI S μ o 11 16 (0 : Int32)).bind fun m1 => (pI S m1 o 11 17 (0 : Int32)).bind fun m2 => (pI S m2 o 11 18 (-1 : Int32)).bind fun m3 => lX11_reads_17 S FU m3 o (1 : Int32)
def fX11_reads (S : mSh) (μ : mMm) (o : Nat) : Option (Int32 × mMm) := if mok S o 11 = true then bX11_reads S μ o else none
abbrev MX11_reads : mM := ((yX11_reads, cX11_reads, 2, (some .int)), (3, 67), (false, false), RX11, eT)
theorem kX11_reads : mCalV MX11_reads RX11 0 := ⟨q629, q630, q5, q631, by decide +kernel⟩
set_option maxHeartbeats 4000000 in
theorem xX11_reads_83 {n0 c0 s0 cx cy : Nat} {S : mSh} {k17 : mMm → Nat → Int32 → Option (Int32 × mMm)} (hk17 : ∀ (μ : mMm) (x0 : Nat) (x1 : Int32), mX MX11_reads n0 c0 s0 17 [some (.ref x0), some (.int x1)] [] (S, μ, cx, cy) (iMI S cx cy) (k17 μ x0 x1)) (μ : mMm) (x0 : Nat) (t0 : Int32) (d1 : Option Value) : mX MX11_reads n0 c0 s0 83 [some (.ref x0), d1] [.int t0] (S, μ, cx, cy) (iMI S cx cy) (lX11_reads_83 k17 S μ x0 t0) := by
  unfold lX11_reads_83
  refine x_istore_n (pc := 83) dX11_reads_83 (i := 1) rfl (by decide) (l' := [some (.ref x0), some (.int t0)]) rfl ?_
  refine x_goto (pc := 84) (tgt := 17) dX11_reads_84 (by decide) ?_
  exact hk17 μ x0 t0 
set_option maxHeartbeats 4000000 in
theorem xX11_reads_68 {n0 c0 s0 cx cy : Nat} {S : mSh} {k17 : mMm → Nat → Int32 → Option (Int32 × mMm)} (hk17 : ∀ (μ : mMm) (x0 : Nat) (x1 : Int32), mX MX11_reads n0 c0 s0 17 [some (.ref x0), some (.int x1)] [] (S, μ, cx, cy) (iMI S cx cy) (k17 μ x0 x1)) (μ : mMm) (x0 : Nat) (t0 : Int32) (t1 : Nat) (d1 : Option Value) : mX MX11_reads n0 c0 s0 68 [some (.ref x0), d1] [.int t0, .ref t1] (S, μ, cx, cy) (iMI S cx cy) (lX11_reads_68 k17 S μ x0 t0 t1) := by
  unfold lX11_reads_68
  refine x_callVv (pc := 68) (As := [.int t0]) (rest := []) (μf := fun a => a) fcX11 (mX11_needs S μ cx cy t1 t0) (fun _ => rfl) rfl (fun _ h => ifok h) dX11_reads_68 q643 kX11_needs rfl ⟨by decide, by decide⟩ rfl (Nat.le_of_ble_eq_true rfl) (fun m8 => ?_)
  refine x_aload_n (pc := 71) dX11_reads_71 (i := 0) rfl rfl ?_
  refine x_gI (pc := 72) (k := 18) fcX11 dX11_reads_72 q634 (by decide) rfl (fun v9 => ?_)
  refine x_if_ge (pc := 75) (tgt := 82) dX11_reads_75 (by decide) ?_ ?_
  · refine x_iconst (pc := 82) (v := 0) dX11_reads_82 (by decide) ?_
    exact xX11_reads_83 (k17 := k17) hk17 m8 x0 (0 : Int32) _
  · refine x_iconst (pc := 78) (v := 1) dX11_reads_78 (by decide) ?_
    refine x_goto (pc := 79) (tgt := 83) dX11_reads_79 (by decide) ?_
    exact xX11_reads_83 (k17 := k17) hk17 m8 x0 (1 : Int32) _
set_option maxHeartbeats 4000000 in
theorem xX11_reads_48 {n0 c0 s0 cx cy : Nat} {S : mSh} {k17 : mMm → Nat → Int32 → Option (Int32 × mMm)} (hk17 : ∀ (μ : mMm) (x0 : Nat) (x1 : Int32), mX MX11_reads n0 c0 s0 17 [some (.ref x0), some (.int x1)] [] (S, μ, cx, cy) (iMI S cx cy) (k17 μ x0 x1)) (μ : mMm) (x0 : Nat) (t0 : Int32) (d1 : Option Value) : mX MX11_reads n0 c0 s0 48 [some (.ref x0), d1] [.int t0] (S, μ, cx, cy) (iMI S cx cy) (lX11_reads_48 k17 S μ x0 t0) := by
  unfold lX11_reads_48
  refine x_istore_n (pc := 48) dX11_reads_48 (i := 1) rfl (by decide) (l' := [some (.ref x0), some (.int t0)]) rfl ?_
  refine x_iload_n (pc := 49) dX11_reads_49 (i := 1) rfl rfl ?_
  refine x_if_eq (pc := 50) (tgt := 17) dX11_reads_50 (by decide) ?_ ?_
  · exact hk17 μ x0 t0
  · refine x_aload_n (pc := 53) dX11_reads_53 (i := 0) rfl rfl ?_
    refine x_aload_n (pc := 54) dX11_reads_54 (i := 0) rfl rfl ?_
    refine x_callVi (pc := 55) (As := []) (rest := [.ref x0]) (vx := fun a => a) (μf := fun _ => μ) fcX11 (mX11_sign S μ cx cy x0) (fun _ => rfl) rfl (fun _ h => ifok h) dX11_reads_55 q639 kX11_sign rfl ⟨by decide, by decide⟩ rfl (Nat.le_of_ble_eq_true rfl) (fun v7 => ?_)
    refine x_bipush (pc := 58) (v := 59) dX11_reads_58 (by decide) ?_
    refine x_icmp_ne (pc := 60) (tgt := 67) dX11_reads_60 (by decide) ?_ ?_
    · refine x_iconst (pc := 63) (v := 1) dX11_reads_63 (by decide) ?_
      refine x_goto (pc := 64) (tgt := 68) dX11_reads_64 (by decide) ?_
      exact xX11_reads_68 (k17 := k17) hk17 μ x0 (1 : Int32) x0 _
    · refine x_iconst (pc := 67) (v := 0) dX11_reads_67 (by decide) ?_
      exact xX11_reads_68 (k17 := k17) hk17 μ x0 (0 : Int32) x0 _
set_option maxHeartbeats 4000000 in
theorem xX11_reads_47 {n0 c0 s0 cx cy : Nat} {S : mSh} {k17 : mMm → Nat → Int32 → Option (Int32 × mMm)} (hk17 : ∀ (μ : mMm) (x0 : Nat) (x1 : Int32), mX MX11_reads n0 c0 s0 17 [some (.ref x0), some (.int x1)] [] (S, μ, cx, cy) (iMI S cx cy) (k17 μ x0 x1)) (μ : mMm) (x0 : Nat) (d1 : Option Value) : mX MX11_reads n0 c0 s0 47 [some (.ref x0), d1] [] (S, μ, cx, cy) (iMI S cx cy) (lX11_reads_47 k17 S μ x0) := by
  unfold lX11_reads_47
  refine x_iconst (pc := 47) (v := 0) dX11_reads_47 (by decide) ?_
  exact xX11_reads_48 (k17 := k17) hk17 μ x0 (0 : Int32) _
set_option maxHeartbeats 4000000 in
theorem xX11_reads_17 {n0 c0 s0 cx cy : Nat} {S : mSh} : ∀ (n : Nat) (μ : mMm) (x0 : Nat) (x1 : Int32), mX MX11_reads n0 c0 s0 17 [some (.ref x0), some (.int x1)] [] (S, μ, cx, cy) (iMI S cx cy) (lX11_reads_17 S n μ x0 x1) := by
  intro n
  induction n with
  | zero => intros; exact x_none
  | succ n ih =>
    intro μ x0 x1
    unfold lX11_reads_17
    refine x_iload_n (pc := 17) dX11_reads_17 (i := 1) rfl rfl ?_
    refine x_if_eq (pc := 18) (tgt := 87) dX11_reads_18 (by decide) ?_ ?_
    · refine x_aload_n (pc := 87) dX11_reads_87 (i := 0) rfl rfl ?_
      refine x_gI (pc := 88) (k := 18) fcX11 dX11_reads_88 q634 (by decide) rfl (fun v4 => ?_)
      exact x_iret rfl dX11_reads_91 rfl rfl
    · refine x_aload_n (pc := 21) dX11_reads_21 (i := 0) rfl rfl ?_
      refine x_callVv (pc := 22) (As := []) (rest := []) (μf := fun a => a) fcX11 (mX11_readPart S μ cx cy x0) (fun _ => rfl) rfl (fun _ h => ifok h) dX11_reads_22 q635 kX11_readPart rfl ⟨by decide, by decide⟩ rfl (Nat.le_of_ble_eq_true rfl) (fun m5 => ?_)
      refine x_aload_n (pc := 25) dX11_reads_25 (i := 0) rfl rfl ?_
      refine x_gI (pc := 26) (k := 18) fcX11 dX11_reads_26 q634 (by decide) rfl (fun v6 => ?_)
      refine x_if_ge (pc := 29) (tgt := 47) dX11_reads_29 (by decide) ?_ ?_
      · exact xX11_reads_47 (k17 := (lX11_reads_17 S n)) ih m5 x0 _
      · refine x_aload_n (pc := 32) dX11_reads_32 (i := 0) rfl rfl ?_
        refine x_gI (pc := 33) (k := 17) fcX11 dX11_reads_33 q633 (by decide) rfl (fun v10 => ?_)
        refine x_aload_n (pc := 36) dX11_reads_36 (i := 0) rfl rfl ?_
        refine x_gI (pc := 37) (k := 10) fcX11 dX11_reads_37 q575 (by decide) rfl (fun v11 => ?_)
        refine x_icmp_ge (pc := 40) (tgt := 47) dX11_reads_40 (by decide) ?_ ?_
        · exact xX11_reads_47 (k17 := (lX11_reads_17 S n)) ih m5 x0 _
        · refine x_iconst (pc := 43) (v := 1) dX11_reads_43 (by decide) ?_
          refine x_goto (pc := 44) (tgt := 48) dX11_reads_44 (by decide) ?_
          exact xX11_reads_48 (k17 := (lX11_reads_17 S n)) ih m5 x0 (1 : Int32) _
set_option maxHeartbeats 4000000 in
theorem xbX11_reads {n0 c0 s0 cx cy : Nat} {S : mSh} {μ : mMm} (o : Nat) : mX MX11_reads n0 c0 s0 0 [some (.ref o), none] [] (S, μ, cx, cy) (iMI S cx cy) (bX11_reads S μ o) := by
  unfold bX11_reads
  refine x_aload_n (pc := 0) dX11_reads_0 (i := 0) rfl rfl ?_
  refine x_iconst (pc := 1) (v := 0) dX11_reads_1 (by decide) ?_
  refine x_pI (pc := 2) (k := 16) fcX11 dX11_reads_2 q632 (by decide) rfl rfl rfl rfl (fun m1 => ?_)
  refine x_aload_n (pc := 5) dX11_reads_5 (i := 0) rfl rfl ?_
  refine x_iconst (pc := 6) (v := 0) dX11_reads_6 (by decide) ?_
  refine x_pI (pc := 7) (k := 17) fcX11 dX11_reads_7 q633 (by decide) rfl rfl rfl rfl (fun m2 => ?_)
  refine x_aload_n (pc := 10) dX11_reads_10 (i := 0) rfl rfl ?_
  refine x_iconst (pc := 11) (v := -1) dX11_reads_11 (by decide) ?_
  refine x_pI (pc := 12) (k := 18) fcX11 dX11_reads_12 q634 (by decide) rfl rfl rfl rfl (fun m3 => ?_)
  refine x_iconst (pc := 15) (v := 1) dX11_reads_15 (by decide) ?_
  refine x_istore_n (pc := 16) dX11_reads_16 (i := 1) rfl (by decide) (l' := [some (.ref o), some (.int (1 : Int32))]) rfl ?_
  exact xX11_reads_17 FU m3 o (1 : Int32) 
theorem mX11_reads (S : mSh) (μ : mMm) (cx cy : Nat) (o : Nat) : mMet MX11_reads [.ref o] (S, μ, cx, cy) (iMI S cx cy) (fX11_reads S μ o) := mMet.of rfl (by decide) rfl (fun h => by cases h) (Nat.le_of_ble_eq_true rfl) (mX.ck (fun _ => xbX11_reads o))
/-! SlideMillsModel.firstError()I -/
def lX11_firstError_18 (S : mSh) (μ : mMm) (t0 : Int32) (t1 : Nat) : Option (Int32 × mMm) := (fX11_says S μ t1 t0).bind fun r2 => some (r2.1, r2.2)
def bX11_firstError (S : mSh) (μ : mMm) (o : Nat) : Option (Int32 × mMm) := (fX11_reads S μ o).bind fun r1 => if 0 ≤ r1.1 then (lX11_firstError_18 S r1.2 r1.1 o) else ((gI S r1.2 o 11 10).bind fun v3 => lX11_firstError_18 S r1.2 v3 o)
def fX11_firstError (S : mSh) (μ : mMm) (o : Nat) : Option (Int32 × mMm) := if mok S o 11 = true then bX11_firstError S μ o else none
abbrev MX11_firstError : mM := ((yX11_firstError, cX11_firstError, 2, (some .int)), (4, 88), (false, false), RX11, eT)
theorem kX11_firstError : mCalV MX11_firstError RX11 0 := ⟨q625, q626, q5, q627, by decide +kernel⟩
set_option maxHeartbeats 4000000 in
theorem xX11_firstError_18 {n0 c0 s0 cx cy : Nat} {S : mSh} (μ : mMm) (t0 : Int32) (t1 : Nat) (d0 : Option Value) (d1 : Option Value) : mX MX11_firstError n0 c0 s0 18 [d0, d1] [.int t0, .ref t1] (S, μ, cx, cy) (iMI S cx cy) (lX11_firstError_18 S μ t0 t1) := by
  unfold lX11_firstError_18
  refine x_callVi (pc := 18) (As := [.int t0]) (rest := []) (vx := fun a => a.1) (μf := fun a => a.2) fcX11 (mX11_says S μ cx cy t1 t0) (fun _ => rfl) rfl (fun _ h => ifok h) dX11_firstError_18 q266 kX11_says rfl ⟨by decide, by decide⟩ rfl (Nat.le_of_ble_eq_true rfl) (fun r2 => ?_)
  exact x_iret rfl dX11_firstError_21 rfl rfl
set_option maxHeartbeats 4000000 in
theorem xbX11_firstError {n0 c0 s0 cx cy : Nat} {S : mSh} {μ : mMm} (o : Nat) : mX MX11_firstError n0 c0 s0 0 [some (.ref o), none] [] (S, μ, cx, cy) (iMI S cx cy) (bX11_firstError S μ o) := by
  unfold bX11_firstError
  refine x_aload_n (pc := 0) dX11_firstError_0 (i := 0) rfl rfl ?_
  refine x_callVi (pc := 1) (As := []) (rest := []) (vx := fun a => a.1) (μf := fun a => a.2) fcX11 (mX11_reads S μ cx cy o) (fun _ => rfl) rfl (fun _ h => ifok h) dX11_firstError_1 q628 kX11_reads rfl ⟨by decide, by decide⟩ rfl (Nat.le_of_ble_eq_true rfl) (fun r1 => ?_)
  refine x_istore_n (pc := 4) dX11_firstError_4 (i := 1) rfl (by decide) (l' := [some (.ref o), some (.int r1.1)]) rfl ?_
  refine x_aload_n (pc := 5) dX11_firstError_5 (i := 0) rfl rfl ?_
  refine x_iload_n (pc := 6) dX11_firstError_6 (i := 1) rfl rfl ?_
  refine x_if_ge (pc := 7) (tgt := 17) dX11_firstError_7 (by decide) ?_ ?_
  · refine x_iload_n (pc := 17) dX11_firstError_17 (i := 1) rfl rfl ?_
    exact xX11_firstError_18 r1.2 r1.1 o _ _
  · refine x_aload_n (pc := 10) dX11_firstError_10 (i := 0) rfl rfl ?_
    refine x_gI (pc := 11) (k := 10) fcX11 dX11_firstError_11 q575 (by decide) rfl (fun v3 => ?_)
    refine x_goto (pc := 14) (tgt := 18) dX11_firstError_14 (by decide) ?_
    exact xX11_firstError_18 r1.2 v3 o _ _
theorem mX11_firstError (S : mSh) (μ : mMm) (cx cy : Nat) (o : Nat) : mMet MX11_firstError [.ref o] (S, μ, cx, cy) (iMI S cx cy) (fX11_firstError S μ o) := mMet.of rfl (by decide) rfl (fun h => by cases h) (Nat.le_of_ble_eq_true rfl) (mX.ck (fun _ => xbX11_firstError o))
/-! SlideMillsModel.whyNot(III)I -/
def lX11_whyNot_54 (S : mSh) (μ : mMm) (x0 : Nat) : Option (Int32 × mMm) := (gR S x0 11 0).bind fun v1 => (ldI S μ v1 (6 : Int32)).bind fun v2 => if v2 = (40 : Int32) then (some ((4 : Int32), μ)) else (some ((0 : Int32), μ))
def bX11_whyNot (S : mSh) (μ : mMm) (o : Nat) (p0 : Int32) (p1 : Int32) (p2 : Int32) : Option (Int32 × mMm) := if p0 = (117 : Int32) then ((fX11_unpacks S μ o).bind fun m5 => (gI S m5 o 11 13).bind fun v6 => some (v6, m5)) else (if p0 = (43 : Int32) then ((gR S o 11 0).bind fun v3 => (ldI S μ v3 (0 : Int32)).bind fun v4 => if (v4 + p2) ≤ (40 : Int32) then (some ((0 : Int32), μ)) else (some ((3 : Int32), μ))) else (if p0 = (108 : Int32) then (lX11_whyNot_54 S μ o) else (if p0 = (114 : Int32) then (lX11_whyNot_54 S μ o) else (some ((0 : Int32), μ)))))
def fX11_whyNot (S : mSh) (μ : mMm) (o : Nat) (p0 : Int32) (p1 : Int32) (p2 : Int32) : Option (Int32 × mMm) := if mok S o 11 = true then bX11_whyNot S μ o p0 p1 p2 else none
abbrev MX11_whyNot : mM := ((yX11_whyNot, cX11_whyNot, 4, (some .int)), (3, 64), (false, false), RX11, eT)
theorem kX11_whyNot : mCalV MX11_whyNot RX11 3 := ⟨q699, q700, q5, q701, by decide +kernel⟩
set_option maxHeartbeats 4000000 in
theorem xX11_whyNot_54 {n0 c0 s0 cx cy : Nat} {S : mSh} (μ : mMm) (x0 : Nat) (d1 : Option Value) (d2 : Option Value) (d3 : Option Value) : mX MX11_whyNot n0 c0 s0 54 [some (.ref x0), d1, d2, d3] [] (S, μ, cx, cy) (iMI S cx cy) (lX11_whyNot_54 S μ x0) := by
  unfold lX11_whyNot_54
  refine x_aload_n (pc := 54) dX11_whyNot_54 (i := 0) rfl rfl ?_
  refine x_gR (pc := 55) (k := 0) fcX11 dX11_whyNot_55 q136 (by decide) rfl (fun v1 => ?_)
  refine x_bipush (pc := 58) (v := 6) dX11_whyNot_58 (by decide) ?_
  refine x_ldI (pc := 60) dX11_whyNot_60 (fun v2 => ?_)
  refine x_bipush (pc := 61) (v := 40) dX11_whyNot_61 (by decide) ?_
  refine x_icmp_ne (pc := 63) (tgt := 70) dX11_whyNot_63 (by decide) ?_ ?_
  · refine x_iconst (pc := 66) (v := 4) dX11_whyNot_66 (by decide) ?_
    refine x_goto (pc := 67) (tgt := 75) dX11_whyNot_67 (by decide) ?_
    exact x_iret rfl dX11_whyNot_75 rfl rfl
  · refine x_iconst (pc := 70) (v := 0) dX11_whyNot_70 (by decide) ?_
    refine x_goto (pc := 71) (tgt := 75) dX11_whyNot_71 (by decide) ?_
    exact x_iret rfl dX11_whyNot_75 rfl rfl
set_option maxHeartbeats 4000000 in
theorem xbX11_whyNot {n0 c0 s0 cx cy : Nat} {S : mSh} {μ : mMm} (o : Nat) (p0 : Int32) (p1 : Int32) (p2 : Int32) : mX MX11_whyNot n0 c0 s0 0 [some (.ref o), some (.int p0), some (.int p1), some (.int p2)] [] (S, μ, cx, cy) (iMI S cx cy) (bX11_whyNot S μ o p0 p1 p2) := by
  unfold bX11_whyNot
  refine x_iload_n (pc := 0) dX11_whyNot_0 (i := 1) rfl rfl ?_
  refine x_bipush (pc := 1) (v := 117) dX11_whyNot_1 (by decide) ?_
  refine x_icmp_ne (pc := 3) (tgt := 15) dX11_whyNot_3 (by decide) ?_ ?_
  · refine x_aload_n (pc := 6) dX11_whyNot_6 (i := 0) rfl rfl ?_
    refine x_callVv (pc := 7) (As := []) (rest := []) (μf := fun a => a) fcX11 (mX11_unpacks S μ cx cy o) (fun _ => rfl) rfl (fun _ h => ifok h) dX11_whyNot_7 q490 kX11_unpacks rfl ⟨by decide, by decide⟩ rfl (Nat.le_of_ble_eq_true rfl) (fun m5 => ?_)
    refine x_aload_n (pc := 10) dX11_whyNot_10 (i := 0) rfl rfl ?_
    refine x_gI (pc := 11) (k := 13) fcX11 dX11_whyNot_11 q494 (by decide) rfl (fun v6 => ?_)
    exact x_iret rfl dX11_whyNot_14 rfl rfl
  · refine x_iload_n (pc := 15) dX11_whyNot_15 (i := 1) rfl rfl ?_
    refine x_bipush (pc := 16) (v := 43) dX11_whyNot_16 (by decide) ?_
    refine x_icmp_ne (pc := 18) (tgt := 42) dX11_whyNot_18 (by decide) ?_ ?_
    · refine x_aload_n (pc := 21) dX11_whyNot_21 (i := 0) rfl rfl ?_
      refine x_gR (pc := 22) (k := 0) fcX11 dX11_whyNot_22 q136 (by decide) rfl (fun v3 => ?_)
      refine x_iconst (pc := 25) (v := 0) dX11_whyNot_25 (by decide) ?_
      refine x_ldI (pc := 26) dX11_whyNot_26 (fun v4 => ?_)
      refine x_iload_n (pc := 27) dX11_whyNot_27 (i := 3) rfl rfl ?_
      refine x_iadd (pc := 28) dX11_whyNot_28 ?_
      refine x_bipush (pc := 29) (v := 40) dX11_whyNot_29 (by decide) ?_
      refine x_icmp_le (pc := 31) (tgt := 38) dX11_whyNot_31 (by decide) ?_ ?_
      · refine x_iconst (pc := 38) (v := 0) dX11_whyNot_38 (by decide) ?_
        refine x_goto (pc := 39) (tgt := 75) dX11_whyNot_39 (by decide) ?_
        exact x_iret rfl dX11_whyNot_75 rfl rfl
      · refine x_iconst (pc := 34) (v := 3) dX11_whyNot_34 (by decide) ?_
        refine x_goto (pc := 35) (tgt := 75) dX11_whyNot_35 (by decide) ?_
        exact x_iret rfl dX11_whyNot_75 rfl rfl
    · refine x_iload_n (pc := 42) dX11_whyNot_42 (i := 1) rfl rfl ?_
      refine x_bipush (pc := 43) (v := 108) dX11_whyNot_43 (by decide) ?_
      refine x_icmp_eq (pc := 45) (tgt := 54) dX11_whyNot_45 (by decide) ?_ ?_
      · exact xX11_whyNot_54 μ o _ _ _
      · refine x_iload_n (pc := 48) dX11_whyNot_48 (i := 1) rfl rfl ?_
        refine x_bipush (pc := 49) (v := 114) dX11_whyNot_49 (by decide) ?_
        refine x_icmp_ne (pc := 51) (tgt := 74) dX11_whyNot_51 (by decide) ?_ ?_
        · exact xX11_whyNot_54 μ o _ _ _
        · refine x_iconst (pc := 74) (v := 0) dX11_whyNot_74 (by decide) ?_
          exact x_iret rfl dX11_whyNot_75 rfl rfl
theorem mX11_whyNot (S : mSh) (μ : mMm) (cx cy : Nat) (o : Nat) (p0 : Int32) (p1 : Int32) (p2 : Int32) : mMet MX11_whyNot [.ref o, .int p0, .int p1, .int p2] (S, μ, cx, cy) (iMI S cx cy) (fX11_whyNot S μ o p0 p1 p2) := mMet.of rfl (by decide) rfl (fun h => by cases h) (Nat.le_of_ble_eq_true rfl) (mX.ck (fun _ => xbX11_whyNot o p0 p1 p2))
/-! SlideMillsModel.does(III)V -/
def lX11_does_151 (S : mSh) (μ : mMm) (t0 : Int32) (t1 : Int32) (t2 : Nat) : Option (mMm) := (fX11_puts S μ t2 t1 t0).bind fun r1 => some r1.2
def lX11_does_140 (S : mSh) (μ : mMm) (x1 : Int32) (x2 : Int32) (x3 : Int32) (t0 : Int32) (t1 : Nat) : Option (mMm) := if x1 = (114 : Int32) then (lX11_does_151 S μ x3 t0 t1) else (lX11_does_151 S μ x2 t0 t1)
def lX11_does_9 (S : mSh) : Nat → mMm → Nat → Int32 → Int32 → Int32 → Option (mMm)
  | 0, _, _, _, _, _ => none
  | n + 1, μ, x0, x2, x3, x4 => if (x2 + x3) ≤ x4 then (some μ) else ((gR S x0 11 0).bind fun v6 => (gR S x0 11 0).bind fun v7 => (ldI S μ v7 (0 : Int32)).bind fun v8 => (gR S x0 11 9).bind fun v9 => (ldC S μ v9 x4).bind fun v10 => (stI S μ v6 ((10 : Int32) + v8) (v10 - (97 : Int32))).bind fun m11 => (gR S x0 11 0).bind fun v12 => (ldI S m11 v12 (0 : Int32)).bind fun v13 => (stI S m11 v12 (0 : Int32) (v13 + (1 : Int32))).bind fun m14 => lX11_does_9 S n m14 x0 x2 x3 (x4 + (1 : Int32)))
def bX11_does (S : mSh) (μ : mMm) (o : Nat) (p0 : Int32) (p1 : Int32) (p2 : Int32) : Option (mMm) := if p0 = (43 : Int32) then (lX11_does_9 S FU μ o p1 p2 p1) else (if p0 = (45 : Int32) then ((fX11_empties S μ o (0 : Int32) (10 : Int32) (40 : Int32)).bind fun r5 => some r5.2) else (if p0 = (112 : Int32) then ((fX11_packNow S μ o p1).bind fun r4 => some r4.2) else (if p0 = (117 : Int32) then ((fX11_unpackNow S μ o).bind fun r3 => some r3.2) else (if p0 = (101 : Int32) then ((fX11_empties S μ o (6 : Int32) (50 : Int32) (80 : Int32)).bind fun r2 => some r2.2) else (if p0 = (114 : Int32) then (lX11_does_140 S μ p0 p1 p2 p1 o) else (lX11_does_140 S μ p0 p1 p2 (0 : Int32) o))))))
def fX11_does (S : mSh) (μ : mMm) (o : Nat) (p0 : Int32) (p1 : Int32) (p2 : Int32) : Option (mMm) := if mok S o 11 = true then bX11_does S μ o p0 p1 p2 else none
abbrev MX11_does : mM := ((yX11_does, cX11_does, 5, none), (5, 118), (false, false), RX11, eT)
theorem kX11_does : mCalV MX11_does RX11 3 := ⟨q703, q704, q5, q705, by decide +kernel⟩
set_option maxHeartbeats 4000000 in
theorem xX11_does_151 {n0 c0 s0 cx cy : Nat} {S : mSh} (μ : mMm) (t0 : Int32) (t1 : Int32) (t2 : Nat) (d0 : Option Value) (d1 : Option Value) (d2 : Option Value) (d3 : Option Value) (d4 : Option Value) : mX MX11_does n0 c0 s0 151 [d0, d1, d2, d3, d4] [.int t0, .int t1, .ref t2] (S, μ, cx, cy) (iMV S cx cy) (lX11_does_151 S μ t0 t1 t2) := by
  unfold lX11_does_151
  refine x_callVi (pc := 151) (As := [.int t1, .int t0]) (rest := []) (vx := fun a => a.1) (μf := fun a => a.2) fcX11 (mX11_puts S μ cx cy t2 t1 t0) (fun _ => rfl) rfl (fun _ h => ifok h) dX11_does_151 q524 kX11_puts rfl ⟨by decide, by decide⟩ rfl (Nat.le_of_ble_eq_true rfl) (fun r1 => ?_)
  refine x_pop (pc := 154) dX11_does_154 rfl ?_
  exact x_ret rfl dX11_does_155 rfl
set_option maxHeartbeats 4000000 in
theorem xX11_does_140 {n0 c0 s0 cx cy : Nat} {S : mSh} (μ : mMm) (x1 : Int32) (x2 : Int32) (x3 : Int32) (t0 : Int32) (t1 : Nat) (d0 : Option Value) (d4 : Option Value) : mX MX11_does n0 c0 s0 140 [d0, some (.int x1), some (.int x2), some (.int x3), d4] [.int t0, .ref t1] (S, μ, cx, cy) (iMV S cx cy) (lX11_does_140 S μ x1 x2 x3 t0 t1) := by
  unfold lX11_does_140
  refine x_iload_n (pc := 140) dX11_does_140 (i := 1) rfl rfl ?_
  refine x_bipush (pc := 141) (v := 114) dX11_does_141 (by decide) ?_
  refine x_icmp_ne (pc := 143) (tgt := 150) dX11_does_143 (by decide) ?_ ?_
  · refine x_iload_n (pc := 146) dX11_does_146 (i := 3) rfl rfl ?_
    refine x_goto (pc := 147) (tgt := 151) dX11_does_147 (by decide) ?_
    exact xX11_does_151 μ x3 t0 t1 _ _ _ _ _
  · refine x_iload_n (pc := 150) dX11_does_150 (i := 2) rfl rfl ?_
    exact xX11_does_151 μ x2 t0 t1 _ _ _ _ _
set_option maxHeartbeats 4000000 in
theorem xX11_does_9 {n0 c0 s0 cx cy : Nat} {S : mSh} : ∀ (n : Nat) (μ : mMm) (x0 : Nat) (x2 : Int32) (x3 : Int32) (x4 : Int32) (d1 : Option Value), mX MX11_does n0 c0 s0 9 [some (.ref x0), d1, some (.int x2), some (.int x3), some (.int x4)] [] (S, μ, cx, cy) (iMV S cx cy) (lX11_does_9 S n μ x0 x2 x3 x4) := by
  intro n
  induction n with
  | zero => intros; exact x_none
  | succ n ih =>
    intro μ x0 x2 x3 x4 d1
    unfold lX11_does_9
    refine x_iload (pc := 9) dX11_does_9 rfl ?_
    refine x_iload_n (pc := 11) dX11_does_11 (i := 2) rfl rfl ?_
    refine x_iload_n (pc := 12) dX11_does_12 (i := 3) rfl rfl ?_
    refine x_iadd (pc := 13) dX11_does_13 ?_
    refine x_icmp_ge (pc := 14) (tgt := 57) dX11_does_14 (by decide) ?_ ?_
    · refine x_goto (pc := 57) (tgt := 155) dX11_does_57 (by decide) ?_
      exact x_ret rfl dX11_does_155 rfl
    · refine x_aload_n (pc := 17) dX11_does_17 (i := 0) rfl rfl ?_
      refine x_gR (pc := 18) (k := 0) fcX11 dX11_does_18 q136 (by decide) rfl (fun v6 => ?_)
      refine x_bipush (pc := 21) (v := 10) dX11_does_21 (by decide) ?_
      refine x_aload_n (pc := 23) dX11_does_23 (i := 0) rfl rfl ?_
      refine x_gR (pc := 24) (k := 0) fcX11 dX11_does_24 q136 (by decide) rfl (fun v7 => ?_)
      refine x_iconst (pc := 27) (v := 0) dX11_does_27 (by decide) ?_
      refine x_ldI (pc := 28) dX11_does_28 (fun v8 => ?_)
      refine x_iadd (pc := 29) dX11_does_29 ?_
      refine x_aload_n (pc := 30) dX11_does_30 (i := 0) rfl rfl ?_
      refine x_gR (pc := 31) (k := 9) fcX11 dX11_does_31 q143 (by decide) rfl (fun v9 => ?_)
      refine x_iload (pc := 34) dX11_does_34 rfl ?_
      refine x_ldC (pc := 36) dX11_does_36 (fun v10 => ?_)
      refine x_bipush (pc := 37) (v := 97) dX11_does_37 (by decide) ?_
      refine x_isub (pc := 39) dX11_does_39 ?_
      refine x_stI (pc := 40) dX11_does_40 (fun m11 => ?_)
      refine x_aload_n (pc := 41) dX11_does_41 (i := 0) rfl rfl ?_
      refine x_gR (pc := 42) (k := 0) fcX11 dX11_does_42 q136 (by decide) rfl (fun v12 => ?_)
      refine x_iconst (pc := 45) (v := 0) dX11_does_45 (by decide) ?_
      refine x_dup2 (pc := 46) dX11_does_46 rfl rfl ?_
      refine x_ldI (pc := 47) dX11_does_47 (fun v13 => ?_)
      refine x_iconst (pc := 48) (v := 1) dX11_does_48 (by decide) ?_
      refine x_iadd (pc := 49) dX11_does_49 ?_
      refine x_stI (pc := 50) dX11_does_50 (fun m14 => ?_)
      refine x_iinc (pc := 51) (v := x4 + (1 : Int32)) dX11_does_51 rfl (by rw [show Int32.ofInt (1) = (1 : Int32) from by decide]) (by decide) (l' := [some (.ref x0), d1, some (.int x2), some (.int x3), some (.int (x4 + (1 : Int32)))]) rfl ?_
      refine x_goto (pc := 54) (tgt := 9) dX11_does_54 (by decide) ?_
      exact ih m14 x0 x2 x3 (x4 + (1 : Int32)) _
set_option maxHeartbeats 4000000 in
theorem xbX11_does {n0 c0 s0 cx cy : Nat} {S : mSh} {μ : mMm} (o : Nat) (p0 : Int32) (p1 : Int32) (p2 : Int32) : mX MX11_does n0 c0 s0 0 [some (.ref o), some (.int p0), some (.int p1), some (.int p2), none] [] (S, μ, cx, cy) (iMV S cx cy) (bX11_does S μ o p0 p1 p2) := by
  unfold bX11_does
  refine x_iload_n (pc := 0) dX11_does_0 (i := 1) rfl rfl ?_
  refine x_bipush (pc := 1) (v := 43) dX11_does_1 (by decide) ?_
  refine x_icmp_ne (pc := 3) (tgt := 60) dX11_does_3 (by decide) ?_ ?_
  · refine x_iload_n (pc := 6) dX11_does_6 (i := 2) rfl rfl ?_
    refine x_istore (pc := 7) dX11_does_7 (by decide) (l' := [some (.ref o), some (.int p0), some (.int p1), some (.int p2), some (.int p1)]) rfl ?_
    exact xX11_does_9 FU μ o p1 p2 p1 _
  · refine x_iload_n (pc := 60) dX11_does_60 (i := 1) rfl rfl ?_
    refine x_bipush (pc := 61) (v := 45) dX11_does_61 (by decide) ?_
    refine x_icmp_ne (pc := 63) (tgt := 79) dX11_does_63 (by decide) ?_ ?_
    · refine x_aload_n (pc := 66) dX11_does_66 (i := 0) rfl rfl ?_
      refine x_iconst (pc := 67) (v := 0) dX11_does_67 (by decide) ?_
      refine x_bipush (pc := 68) (v := 10) dX11_does_68 (by decide) ?_
      refine x_bipush (pc := 70) (v := 40) dX11_does_70 (by decide) ?_
      refine x_callVi (pc := 72) (As := [.int (0 : Int32), .int (10 : Int32), .int (40 : Int32)]) (rest := []) (vx := fun a => a.1) (μf := fun a => a.2) fcX11 (mX11_empties S μ cx cy o (0 : Int32) (10 : Int32) (40 : Int32)) (fun _ => rfl) rfl (fun _ h => ifok h) dX11_does_72 q262 kX11_empties rfl ⟨by decide, by decide⟩ rfl (Nat.le_of_ble_eq_true rfl) (fun r5 => ?_)
      refine x_pop (pc := 75) dX11_does_75 rfl ?_
      refine x_goto (pc := 76) (tgt := 155) dX11_does_76 (by decide) ?_
      exact x_ret rfl dX11_does_155 rfl
    · refine x_iload_n (pc := 79) dX11_does_79 (i := 1) rfl rfl ?_
      refine x_bipush (pc := 80) (v := 112) dX11_does_80 (by decide) ?_
      refine x_icmp_ne (pc := 82) (tgt := 94) dX11_does_82 (by decide) ?_ ?_
      · refine x_aload_n (pc := 85) dX11_does_85 (i := 0) rfl rfl ?_
        refine x_iload_n (pc := 86) dX11_does_86 (i := 2) rfl rfl ?_
        refine x_callVi (pc := 87) (As := [.int p1]) (rest := []) (vx := fun a => a.1) (μf := fun a => a.2) fcX11 (mX11_packNow S μ cx cy o p1) (fun _ => rfl) rfl (fun _ h => ifok h) dX11_does_87 q423 kX11_packNow rfl ⟨by decide, by decide⟩ rfl (Nat.le_of_ble_eq_true rfl) (fun r4 => ?_)
        refine x_pop (pc := 90) dX11_does_90 rfl ?_
        refine x_goto (pc := 91) (tgt := 155) dX11_does_91 (by decide) ?_
        exact x_ret rfl dX11_does_155 rfl
      · refine x_iload_n (pc := 94) dX11_does_94 (i := 1) rfl rfl ?_
        refine x_bipush (pc := 95) (v := 117) dX11_does_95 (by decide) ?_
        refine x_icmp_ne (pc := 97) (tgt := 108) dX11_does_97 (by decide) ?_ ?_
        · refine x_aload_n (pc := 100) dX11_does_100 (i := 0) rfl rfl ?_
          refine x_callVi (pc := 101) (As := []) (rest := []) (vx := fun a => a.1) (μf := fun a => a.2) fcX11 (mX11_unpackNow S μ cx cy o) (fun _ => rfl) rfl (fun _ h => ifok h) dX11_does_101 q504 kX11_unpackNow rfl ⟨by decide, by decide⟩ rfl (Nat.le_of_ble_eq_true rfl) (fun r3 => ?_)
          refine x_pop (pc := 104) dX11_does_104 rfl ?_
          refine x_goto (pc := 105) (tgt := 155) dX11_does_105 (by decide) ?_
          exact x_ret rfl dX11_does_155 rfl
        · refine x_iload_n (pc := 108) dX11_does_108 (i := 1) rfl rfl ?_
          refine x_bipush (pc := 109) (v := 101) dX11_does_109 (by decide) ?_
          refine x_icmp_ne (pc := 111) (tgt := 128) dX11_does_111 (by decide) ?_ ?_
          · refine x_aload_n (pc := 114) dX11_does_114 (i := 0) rfl rfl ?_
            refine x_bipush (pc := 115) (v := 6) dX11_does_115 (by decide) ?_
            refine x_bipush (pc := 117) (v := 50) dX11_does_117 (by decide) ?_
            refine x_bipush (pc := 119) (v := 80) dX11_does_119 (by decide) ?_
            refine x_callVi (pc := 121) (As := [.int (6 : Int32), .int (50 : Int32), .int (80 : Int32)]) (rest := []) (vx := fun a => a.1) (μf := fun a => a.2) fcX11 (mX11_empties S μ cx cy o (6 : Int32) (50 : Int32) (80 : Int32)) (fun _ => rfl) rfl (fun _ h => ifok h) dX11_does_121 q262 kX11_empties rfl ⟨by decide, by decide⟩ rfl (Nat.le_of_ble_eq_true rfl) (fun r2 => ?_)
            refine x_pop (pc := 124) dX11_does_124 rfl ?_
            refine x_goto (pc := 125) (tgt := 155) dX11_does_125 (by decide) ?_
            exact x_ret rfl dX11_does_155 rfl
          · refine x_aload_n (pc := 128) dX11_does_128 (i := 0) rfl rfl ?_
            refine x_iload_n (pc := 129) dX11_does_129 (i := 1) rfl rfl ?_
            refine x_bipush (pc := 130) (v := 114) dX11_does_130 (by decide) ?_
            refine x_icmp_ne (pc := 132) (tgt := 139) dX11_does_132 (by decide) ?_ ?_
            · refine x_iload_n (pc := 135) dX11_does_135 (i := 2) rfl rfl ?_
              refine x_goto (pc := 136) (tgt := 140) dX11_does_136 (by decide) ?_
              exact xX11_does_140 μ p0 p1 p2 p1 o _ _
            · refine x_iconst (pc := 139) (v := 0) dX11_does_139 (by decide) ?_
              exact xX11_does_140 μ p0 p1 p2 (0 : Int32) o _ _
theorem mX11_does (S : mSh) (μ : mMm) (cx cy : Nat) (o : Nat) (p0 : Int32) (p1 : Int32) (p2 : Int32) : mMet MX11_does [.ref o, .int p0, .int p1, .int p2] (S, μ, cx, cy) (iMV S cx cy) (fX11_does S μ o p0 p1 p2) := mMet.of rfl (by decide) rfl (fun h => by cases h) (Nat.le_of_ble_eq_true rfl) (mX.ck (fun _ => xbX11_does o p0 p1 p2))
/-! SlideMillsModel.work()I -/
def lX11_work_147 (S : mSh) (μ : mMm) (x0 : Nat) (x1 : Int32) (x2 : Int32) (t0 : Int32) (t1 : Int32) (t2 : Nat) : Option (Int32 × mMm) := (stI S μ t2 t1 t0).bind fun m8 => (gR S x0 11 0).bind fun v9 => (stI S m8 v9 (9 : Int32) x2).bind fun m10 => (pI S m10 x0 11 10 (0 : Int32)).bind fun m11 => some (x1, m11)
def lX11_work_131 (S : mSh) (μ : mMm) (x0 : Nat) (x1 : Int32) (x2 : Int32) (t0 : Int32) (t1 : Int32) (t2 : Nat) : Option (Int32 × mMm) := (stI S μ t2 t1 t0).bind fun m6 => (gR S x0 11 0).bind fun v7 => if x2 ≤ 0 then (lX11_work_147 S m6 x0 x1 x2 (0 : Int32) (8 : Int32) v7) else (lX11_work_147 S m6 x0 x1 x2 x1 (8 : Int32) v7)
def lX11_work_116 (S : mSh) (μ : mMm) (x0 : Nat) (x1 : Int32) (x2 : Int32) : Option (Int32 × mMm) := (gR S x0 11 0).bind fun v5 => if x2 ≤ 0 then (lX11_work_131 S μ x0 x1 x2 (0 : Int32) (7 : Int32) v5) else (lX11_work_131 S μ x0 x1 x2 (1 : Int32) (7 : Int32) v5)
def lX11_work_29 (S : mSh) : Nat → mMm → Nat → Int32 → Int32 → Option (Int32 × mMm)
  | 0, _, _, _, _ => none
  | n + 1, μ, x0, x1, x2 => (gI S μ x0 11 16).bind fun v4 => if v4 ≤ x1 then (lX11_work_116 S μ x0 x1 x2) else (if x2 = 0 then ((gR S x0 11 15).bind fun v12 => (ldI S μ v12 ((3 : Int32) * x1)).bind fun v13 => (gR S x0 11 15).bind fun v14 => (ldI S μ v14 (((3 : Int32) * x1) + (1 : Int32))).bind fun v15 => (gR S x0 11 15).bind fun v16 => (ldI S μ v16 (((3 : Int32) * x1) + (2 : Int32))).bind fun v17 => (fX11_whyNot S μ x0 v13 v15 v17).bind fun r18 => if r18.1 = 0 then ((gR S x0 11 15).bind fun v19 => (ldI S r18.2 v19 ((3 : Int32) * x1)).bind fun v20 => (gR S x0 11 15).bind fun v21 => (ldI S r18.2 v21 (((3 : Int32) * x1) + (1 : Int32))).bind fun v22 => (gR S x0 11 15).bind fun v23 => (ldI S r18.2 v23 (((3 : Int32) * x1) + (2 : Int32))).bind fun v24 => (fX11_does S r18.2 x0 v20 v22 v24).bind fun m25 => lX11_work_29 S n m25 x0 (x1 + (1 : Int32)) r18.1) else (lX11_work_29 S n r18.2 x0 x1 r18.1)) else (lX11_work_116 S μ x0 x1 x2))
def lX11_work_13 (S : mSh) (μ : mMm) (x0 : Nat) (t0 : Int32) (t1 : Nat) : Option (Int32 × mMm) := (fX11_asks S μ t1 t0).bind fun r2 => if r2.1 = 0 then (some ((0 : Int32), r2.2)) else ((fX11_record S r2.2 x0).bind fun m3 => lX11_work_29 S FU m3 x0 (0 : Int32) (0 : Int32))
def bX11_work (S : mSh) (μ : mMm) (o : Nat) : Option (Int32 × mMm) := (fX11_reads S μ o).bind fun r1 => if 0 ≤ r1.1 then (lX11_work_13 S r1.2 o (0 : Int32) o) else (lX11_work_13 S r1.2 o (1 : Int32) o)
def fX11_work (S : mSh) (μ : mMm) (o : Nat) : Option (Int32 × mMm) := if mok S o 11 = true then bX11_work S μ o else none
abbrev MX11_work : mM := ((yX11_work, cX11_work, 3, (some .int)), (6, 142), (false, false), RX11, eT)
theorem kX11_work : mCalV MX11_work RX11 0 := ⟨q695, q696, q5, q697, by decide +kernel⟩
set_option maxHeartbeats 4000000 in
theorem xX11_work_147 {n0 c0 s0 cx cy : Nat} {S : mSh} (μ : mMm) (x0 : Nat) (x1 : Int32) (x2 : Int32) (t0 : Int32) (t1 : Int32) (t2 : Nat) : mX MX11_work n0 c0 s0 147 [some (.ref x0), some (.int x1), some (.int x2)] [.int t0, .int t1, .ref t2] (S, μ, cx, cy) (iMI S cx cy) (lX11_work_147 S μ x0 x1 x2 t0 t1 t2) := by
  unfold lX11_work_147
  refine x_stI (pc := 147) dX11_work_147 (fun m8 => ?_)
  refine x_aload_n (pc := 148) dX11_work_148 (i := 0) rfl rfl ?_
  refine x_gR (pc := 149) (k := 0) fcX11 dX11_work_149 q136 (by decide) rfl (fun v9 => ?_)
  refine x_bipush (pc := 152) (v := 9) dX11_work_152 (by decide) ?_
  refine x_iload_n (pc := 154) dX11_work_154 (i := 2) rfl rfl ?_
  refine x_stI (pc := 155) dX11_work_155 (fun m10 => ?_)
  refine x_aload_n (pc := 156) dX11_work_156 (i := 0) rfl rfl ?_
  refine x_iconst (pc := 157) (v := 0) dX11_work_157 (by decide) ?_
  refine x_pI (pc := 158) (k := 10) fcX11 dX11_work_158 q575 (by decide) rfl rfl rfl rfl (fun m11 => ?_)
  refine x_iload_n (pc := 161) dX11_work_161 (i := 1) rfl rfl ?_
  exact x_iret rfl dX11_work_162 rfl rfl
set_option maxHeartbeats 4000000 in
theorem xX11_work_131 {n0 c0 s0 cx cy : Nat} {S : mSh} (μ : mMm) (x0 : Nat) (x1 : Int32) (x2 : Int32) (t0 : Int32) (t1 : Int32) (t2 : Nat) : mX MX11_work n0 c0 s0 131 [some (.ref x0), some (.int x1), some (.int x2)] [.int t0, .int t1, .ref t2] (S, μ, cx, cy) (iMI S cx cy) (lX11_work_131 S μ x0 x1 x2 t0 t1 t2) := by
  unfold lX11_work_131
  refine x_stI (pc := 131) dX11_work_131 (fun m6 => ?_)
  refine x_aload_n (pc := 132) dX11_work_132 (i := 0) rfl rfl ?_
  refine x_gR (pc := 133) (k := 0) fcX11 dX11_work_133 q136 (by decide) rfl (fun v7 => ?_)
  refine x_bipush (pc := 136) (v := 8) dX11_work_136 (by decide) ?_
  refine x_iload_n (pc := 138) dX11_work_138 (i := 2) rfl rfl ?_
  refine x_if_le (pc := 139) (tgt := 146) dX11_work_139 (by decide) ?_ ?_
  · refine x_iconst (pc := 146) (v := 0) dX11_work_146 (by decide) ?_
    exact xX11_work_147 m6 x0 x1 x2 (0 : Int32) (8 : Int32) v7 
  · refine x_iload_n (pc := 142) dX11_work_142 (i := 1) rfl rfl ?_
    refine x_goto (pc := 143) (tgt := 147) dX11_work_143 (by decide) ?_
    exact xX11_work_147 m6 x0 x1 x2 x1 (8 : Int32) v7 
set_option maxHeartbeats 4000000 in
theorem xX11_work_116 {n0 c0 s0 cx cy : Nat} {S : mSh} (μ : mMm) (x0 : Nat) (x1 : Int32) (x2 : Int32) : mX MX11_work n0 c0 s0 116 [some (.ref x0), some (.int x1), some (.int x2)] [] (S, μ, cx, cy) (iMI S cx cy) (lX11_work_116 S μ x0 x1 x2) := by
  unfold lX11_work_116
  refine x_aload_n (pc := 116) dX11_work_116 (i := 0) rfl rfl ?_
  refine x_gR (pc := 117) (k := 0) fcX11 dX11_work_117 q136 (by decide) rfl (fun v5 => ?_)
  refine x_bipush (pc := 120) (v := 7) dX11_work_120 (by decide) ?_
  refine x_iload_n (pc := 122) dX11_work_122 (i := 2) rfl rfl ?_
  refine x_if_le (pc := 123) (tgt := 130) dX11_work_123 (by decide) ?_ ?_
  · refine x_iconst (pc := 130) (v := 0) dX11_work_130 (by decide) ?_
    exact xX11_work_131 μ x0 x1 x2 (0 : Int32) (7 : Int32) v5 
  · refine x_iconst (pc := 126) (v := 1) dX11_work_126 (by decide) ?_
    refine x_goto (pc := 127) (tgt := 131) dX11_work_127 (by decide) ?_
    exact xX11_work_131 μ x0 x1 x2 (1 : Int32) (7 : Int32) v5 
set_option maxHeartbeats 4000000 in
theorem xX11_work_29 {n0 c0 s0 cx cy : Nat} {S : mSh} : ∀ (n : Nat) (μ : mMm) (x0 : Nat) (x1 : Int32) (x2 : Int32), mX MX11_work n0 c0 s0 29 [some (.ref x0), some (.int x1), some (.int x2)] [] (S, μ, cx, cy) (iMI S cx cy) (lX11_work_29 S n μ x0 x1 x2) := by
  intro n
  induction n with
  | zero => intros; exact x_none
  | succ n ih =>
    intro μ x0 x1 x2
    unfold lX11_work_29
    refine x_iload_n (pc := 29) dX11_work_29 (i := 1) rfl rfl ?_
    refine x_aload_n (pc := 30) dX11_work_30 (i := 0) rfl rfl ?_
    refine x_gI (pc := 31) (k := 16) fcX11 dX11_work_31 q632 (by decide) rfl (fun v4 => ?_)
    refine x_icmp_ge (pc := 34) (tgt := 116) dX11_work_34 (by decide) ?_ ?_
    · exact xX11_work_116 μ x0 x1 x2
    · refine x_iload_n (pc := 37) dX11_work_37 (i := 2) rfl rfl ?_
      refine x_if_ne (pc := 38) (tgt := 116) dX11_work_38 (by decide) ?_ ?_
      · refine x_aload_n (pc := 41) dX11_work_41 (i := 0) rfl rfl ?_
        refine x_aload_n (pc := 42) dX11_work_42 (i := 0) rfl rfl ?_
        refine x_gR (pc := 43) (k := 15) fcX11 dX11_work_43 q144 (by decide) rfl (fun v12 => ?_)
        refine x_iconst (pc := 46) (v := 3) dX11_work_46 (by decide) ?_
        refine x_iload_n (pc := 47) dX11_work_47 (i := 1) rfl rfl ?_
        refine x_imul (pc := 48) dX11_work_48 ?_
        refine x_ldI (pc := 49) dX11_work_49 (fun v13 => ?_)
        refine x_aload_n (pc := 50) dX11_work_50 (i := 0) rfl rfl ?_
        refine x_gR (pc := 51) (k := 15) fcX11 dX11_work_51 q144 (by decide) rfl (fun v14 => ?_)
        refine x_iconst (pc := 54) (v := 3) dX11_work_54 (by decide) ?_
        refine x_iload_n (pc := 55) dX11_work_55 (i := 1) rfl rfl ?_
        refine x_imul (pc := 56) dX11_work_56 ?_
        refine x_iconst (pc := 57) (v := 1) dX11_work_57 (by decide) ?_
        refine x_iadd (pc := 58) dX11_work_58 ?_
        refine x_ldI (pc := 59) dX11_work_59 (fun v15 => ?_)
        refine x_aload_n (pc := 60) dX11_work_60 (i := 0) rfl rfl ?_
        refine x_gR (pc := 61) (k := 15) fcX11 dX11_work_61 q144 (by decide) rfl (fun v16 => ?_)
        refine x_iconst (pc := 64) (v := 3) dX11_work_64 (by decide) ?_
        refine x_iload_n (pc := 65) dX11_work_65 (i := 1) rfl rfl ?_
        refine x_imul (pc := 66) dX11_work_66 ?_
        refine x_iconst (pc := 67) (v := 2) dX11_work_67 (by decide) ?_
        refine x_iadd (pc := 68) dX11_work_68 ?_
        refine x_ldI (pc := 69) dX11_work_69 (fun v17 => ?_)
        refine x_callVi (pc := 70) (As := [.int v13, .int v15, .int v17]) (rest := []) (vx := fun a => a.1) (μf := fun a => a.2) fcX11 (mX11_whyNot S μ cx cy x0 v13 v15 v17) (fun _ => rfl) rfl (fun _ h => ifok h) dX11_work_70 q698 kX11_whyNot rfl ⟨by decide, by decide⟩ rfl (Nat.le_of_ble_eq_true rfl) (fun r18 => ?_)
        refine x_istore_n (pc := 73) dX11_work_73 (i := 2) rfl (by decide) (l' := [some (.ref x0), some (.int x1), some (.int r18.1)]) rfl ?_
        refine x_iload_n (pc := 74) dX11_work_74 (i := 2) rfl rfl ?_
        refine x_if_ne (pc := 75) (tgt := 29) dX11_work_75 (by decide) ?_ ?_
        · refine x_aload_n (pc := 78) dX11_work_78 (i := 0) rfl rfl ?_
          refine x_aload_n (pc := 79) dX11_work_79 (i := 0) rfl rfl ?_
          refine x_gR (pc := 80) (k := 15) fcX11 dX11_work_80 q144 (by decide) rfl (fun v19 => ?_)
          refine x_iconst (pc := 83) (v := 3) dX11_work_83 (by decide) ?_
          refine x_iload_n (pc := 84) dX11_work_84 (i := 1) rfl rfl ?_
          refine x_imul (pc := 85) dX11_work_85 ?_
          refine x_ldI (pc := 86) dX11_work_86 (fun v20 => ?_)
          refine x_aload_n (pc := 87) dX11_work_87 (i := 0) rfl rfl ?_
          refine x_gR (pc := 88) (k := 15) fcX11 dX11_work_88 q144 (by decide) rfl (fun v21 => ?_)
          refine x_iconst (pc := 91) (v := 3) dX11_work_91 (by decide) ?_
          refine x_iload_n (pc := 92) dX11_work_92 (i := 1) rfl rfl ?_
          refine x_imul (pc := 93) dX11_work_93 ?_
          refine x_iconst (pc := 94) (v := 1) dX11_work_94 (by decide) ?_
          refine x_iadd (pc := 95) dX11_work_95 ?_
          refine x_ldI (pc := 96) dX11_work_96 (fun v22 => ?_)
          refine x_aload_n (pc := 97) dX11_work_97 (i := 0) rfl rfl ?_
          refine x_gR (pc := 98) (k := 15) fcX11 dX11_work_98 q144 (by decide) rfl (fun v23 => ?_)
          refine x_iconst (pc := 101) (v := 3) dX11_work_101 (by decide) ?_
          refine x_iload_n (pc := 102) dX11_work_102 (i := 1) rfl rfl ?_
          refine x_imul (pc := 103) dX11_work_103 ?_
          refine x_iconst (pc := 104) (v := 2) dX11_work_104 (by decide) ?_
          refine x_iadd (pc := 105) dX11_work_105 ?_
          refine x_ldI (pc := 106) dX11_work_106 (fun v24 => ?_)
          refine x_callVv (pc := 107) (As := [.int v20, .int v22, .int v24]) (rest := []) (μf := fun a => a) fcX11 (mX11_does S r18.2 cx cy x0 v20 v22 v24) (fun _ => rfl) rfl (fun _ h => ifok h) dX11_work_107 q702 kX11_does rfl ⟨by decide, by decide⟩ rfl (Nat.le_of_ble_eq_true rfl) (fun m25 => ?_)
          refine x_iinc (pc := 110) (v := x1 + (1 : Int32)) dX11_work_110 rfl (by rw [show Int32.ofInt (1) = (1 : Int32) from by decide]) (by decide) (l' := [some (.ref x0), some (.int (x1 + (1 : Int32))), some (.int r18.1)]) rfl ?_
          refine x_goto (pc := 113) (tgt := 29) dX11_work_113 (by decide) ?_
          exact ih m25 x0 (x1 + (1 : Int32)) r18.1 
        · exact ih r18.2 x0 x1 r18.1
      · exact xX11_work_116 μ x0 x1 x2
set_option maxHeartbeats 4000000 in
theorem xX11_work_13 {n0 c0 s0 cx cy : Nat} {S : mSh} (μ : mMm) (x0 : Nat) (t0 : Int32) (t1 : Nat) (d1 : Option Value) (d2 : Option Value) : mX MX11_work n0 c0 s0 13 [some (.ref x0), d1, d2] [.int t0, .ref t1] (S, μ, cx, cy) (iMI S cx cy) (lX11_work_13 S μ x0 t0 t1) := by
  unfold lX11_work_13
  refine x_callVi (pc := 13) (As := [.int t0]) (rest := []) (vx := fun a => a.1) (μf := fun a => a.2) fcX11 (mX11_asks S μ cx cy t1 t0) (fun _ => rfl) rfl (fun _ h => ifok h) dX11_work_13 q202 kX11_asks rfl ⟨by decide, by decide⟩ rfl (Nat.le_of_ble_eq_true rfl) (fun r2 => ?_)
  refine x_if_ne (pc := 16) (tgt := 21) dX11_work_16 (by decide) ?_ ?_
  · refine x_iconst (pc := 19) (v := 0) dX11_work_19 (by decide) ?_
    exact x_iret rfl dX11_work_20 rfl rfl
  · refine x_aload_n (pc := 21) dX11_work_21 (i := 0) rfl rfl ?_
    refine x_callVv (pc := 22) (As := []) (rest := []) (μf := fun a => a) fcX11 (mX11_record S r2.2 cx cy x0) (fun _ => rfl) rfl (fun _ h => ifok h) dX11_work_22 q211 kX11_record rfl ⟨by decide, by decide⟩ rfl (Nat.le_of_ble_eq_true rfl) (fun m3 => ?_)
    refine x_iconst (pc := 25) (v := 0) dX11_work_25 (by decide) ?_
    refine x_istore_n (pc := 26) dX11_work_26 (i := 1) rfl (by decide) (l' := [some (.ref x0), some (.int (0 : Int32)), d2]) rfl ?_
    refine x_iconst (pc := 27) (v := 0) dX11_work_27 (by decide) ?_
    refine x_istore_n (pc := 28) dX11_work_28 (i := 2) rfl (by decide) (l' := [some (.ref x0), some (.int (0 : Int32)), some (.int (0 : Int32))]) rfl ?_
    exact xX11_work_29 FU m3 x0 (0 : Int32) (0 : Int32) 
set_option maxHeartbeats 4000000 in
theorem xbX11_work {n0 c0 s0 cx cy : Nat} {S : mSh} {μ : mMm} (o : Nat) : mX MX11_work n0 c0 s0 0 [some (.ref o), none, none] [] (S, μ, cx, cy) (iMI S cx cy) (bX11_work S μ o) := by
  unfold bX11_work
  refine x_aload_n (pc := 0) dX11_work_0 (i := 0) rfl rfl ?_
  refine x_aload_n (pc := 1) dX11_work_1 (i := 0) rfl rfl ?_
  refine x_callVi (pc := 2) (As := []) (rest := [.ref o]) (vx := fun a => a.1) (μf := fun a => a.2) fcX11 (mX11_reads S μ cx cy o) (fun _ => rfl) rfl (fun _ h => ifok h) dX11_work_2 q628 kX11_reads rfl ⟨by decide, by decide⟩ rfl (Nat.le_of_ble_eq_true rfl) (fun r1 => ?_)
  refine x_if_ge (pc := 5) (tgt := 12) dX11_work_5 (by decide) ?_ ?_
  · refine x_iconst (pc := 12) (v := 0) dX11_work_12 (by decide) ?_
    exact xX11_work_13 r1.2 o (0 : Int32) o _ _
  · refine x_iconst (pc := 8) (v := 1) dX11_work_8 (by decide) ?_
    refine x_goto (pc := 9) (tgt := 13) dX11_work_9 (by decide) ?_
    exact xX11_work_13 r1.2 o (1 : Int32) o _ _
theorem mX11_work (S : mSh) (μ : mMm) (cx cy : Nat) (o : Nat) : mMet MX11_work [.ref o] (S, μ, cx, cy) (iMI S cx cy) (fX11_work S μ o) := mMet.of rfl (by decide) rfl (fun h => by cases h) (Nat.le_of_ble_eq_true rfl) (mX.ck (fun _ => xbX11_work o))
/-! SlideMillsModel.hasStopped()Z -/
def bX11_hasStopped (S : mSh) (μ : mMm) (o : Nat) : Option (Int32 × mMm) := (pI S μ o 11 11 (0 : Int32)).bind fun m1 => (gR S o 11 0).bind fun v2 => (ldI S m1 v2 (7 : Int32)).bind fun v3 => if v3 = (1 : Int32) then (some ((1 : Int32), m1)) else (some ((0 : Int32), m1))
def fX11_hasStopped (S : mSh) (μ : mMm) (o : Nat) : Option (Int32 × mMm) := if mok S o 11 = true then bX11_hasStopped S μ o else none
abbrev MX11_hasStopped : mM := ((yX11_hasStopped, cX11_hasStopped, 1, (some .boolean)), (0, 0), (false, false), RX11, eT)
theorem kX11_hasStopped : mCalV MX11_hasStopped RX11 0 := ⟨q711, q712, q5, q713, by decide +kernel⟩
set_option maxHeartbeats 4000000 in
theorem xbX11_hasStopped {n0 c0 s0 cx cy : Nat} {S : mSh} {μ : mMm} (o : Nat) : mX MX11_hasStopped n0 c0 s0 0 [some (.ref o)] [] (S, μ, cx, cy) (iMI S cx cy) (bX11_hasStopped S μ o) := by
  unfold bX11_hasStopped
  refine x_aload_n (pc := 0) dX11_hasStopped_0 (i := 0) rfl rfl ?_
  refine x_iconst (pc := 1) (v := 0) dX11_hasStopped_1 (by decide) ?_
  refine x_pI (pc := 2) (k := 11) fcX11 dX11_hasStopped_2 q206 (by decide) rfl rfl rfl rfl (fun m1 => ?_)
  refine x_aload_n (pc := 5) dX11_hasStopped_5 (i := 0) rfl rfl ?_
  refine x_gR (pc := 6) (k := 0) fcX11 dX11_hasStopped_6 q136 (by decide) rfl (fun v2 => ?_)
  refine x_bipush (pc := 9) (v := 7) dX11_hasStopped_9 (by decide) ?_
  refine x_ldI (pc := 11) dX11_hasStopped_11 (fun v3 => ?_)
  refine x_iconst (pc := 12) (v := 1) dX11_hasStopped_12 (by decide) ?_
  refine x_icmp_ne (pc := 13) (tgt := 20) dX11_hasStopped_13 (by decide) ?_ ?_
  · refine x_iconst (pc := 16) (v := 1) dX11_hasStopped_16 (by decide) ?_
    refine x_goto (pc := 17) (tgt := 21) dX11_hasStopped_17 (by decide) ?_
    exact x_iret rfl dX11_hasStopped_21 rfl rfl
  · refine x_iconst (pc := 20) (v := 0) dX11_hasStopped_20 (by decide) ?_
    exact x_iret rfl dX11_hasStopped_21 rfl rfl
theorem mX11_hasStopped (S : mSh) (μ : mMm) (cx cy : Nat) (o : Nat) : mMet MX11_hasStopped [.ref o] (S, μ, cx, cy) (iMI S cx cy) (fX11_hasStopped S μ o) := mMet.of rfl (by decide) rfl (fun h => by cases h) (Nat.le_of_ble_eq_true rfl) (mX.ck (fun _ => xbX11_hasStopped o))
/-! SlideMillsModel.stoppedPart()I -/
def lX11_stoppedPart_17 (S : mSh) (μ : mMm) (x0 : Nat) (t0 : Int32) (t1 : Nat) : Option (Int32 × mMm) := (fX11_asks S μ t1 t0).bind fun r3 => if r3.1 = 0 then (some ((0 : Int32), r3.2)) else ((gR S x0 11 0).bind fun v4 => (ldI S r3.2 v4 (8 : Int32)).bind fun v5 => some (v5, r3.2))
def bX11_stoppedPart (S : mSh) (μ : mMm) (o : Nat) : Option (Int32 × mMm) := (gR S o 11 0).bind fun v1 => (ldI S μ v1 (7 : Int32)).bind fun v2 => if v2 = (1 : Int32) then (lX11_stoppedPart_17 S μ o (1 : Int32) o) else (lX11_stoppedPart_17 S μ o (0 : Int32) o)
def fX11_stoppedPart (S : mSh) (μ : mMm) (o : Nat) : Option (Int32 × mMm) := if mok S o 11 = true then bX11_stoppedPart S μ o else none
abbrev MX11_stoppedPart : mM := ((yX11_stoppedPart, cX11_stoppedPart, 1, (some .int)), (1, 21), (false, false), RX11, eT)
theorem kX11_stoppedPart : mCalV MX11_stoppedPart RX11 0 := ⟨q722, q723, q5, q724, by decide +kernel⟩
set_option maxHeartbeats 4000000 in
theorem xX11_stoppedPart_17 {n0 c0 s0 cx cy : Nat} {S : mSh} (μ : mMm) (x0 : Nat) (t0 : Int32) (t1 : Nat) : mX MX11_stoppedPart n0 c0 s0 17 [some (.ref x0)] [.int t0, .ref t1] (S, μ, cx, cy) (iMI S cx cy) (lX11_stoppedPart_17 S μ x0 t0 t1) := by
  unfold lX11_stoppedPart_17
  refine x_callVi (pc := 17) (As := [.int t0]) (rest := []) (vx := fun a => a.1) (μf := fun a => a.2) fcX11 (mX11_asks S μ cx cy t1 t0) (fun _ => rfl) rfl (fun _ h => ifok h) dX11_stoppedPart_17 q202 kX11_asks rfl ⟨by decide, by decide⟩ rfl (Nat.le_of_ble_eq_true rfl) (fun r3 => ?_)
  refine x_if_eq (pc := 20) (tgt := 33) dX11_stoppedPart_20 (by decide) ?_ ?_
  · refine x_iconst (pc := 33) (v := 0) dX11_stoppedPart_33 (by decide) ?_
    exact x_iret rfl dX11_stoppedPart_34 rfl rfl
  · refine x_aload_n (pc := 23) dX11_stoppedPart_23 (i := 0) rfl rfl ?_
    refine x_gR (pc := 24) (k := 0) fcX11 dX11_stoppedPart_24 q136 (by decide) rfl (fun v4 => ?_)
    refine x_bipush (pc := 27) (v := 8) dX11_stoppedPart_27 (by decide) ?_
    refine x_ldI (pc := 29) dX11_stoppedPart_29 (fun v5 => ?_)
    refine x_goto (pc := 30) (tgt := 34) dX11_stoppedPart_30 (by decide) ?_
    exact x_iret rfl dX11_stoppedPart_34 rfl rfl
set_option maxHeartbeats 4000000 in
theorem xbX11_stoppedPart {n0 c0 s0 cx cy : Nat} {S : mSh} {μ : mMm} (o : Nat) : mX MX11_stoppedPart n0 c0 s0 0 [some (.ref o)] [] (S, μ, cx, cy) (iMI S cx cy) (bX11_stoppedPart S μ o) := by
  unfold bX11_stoppedPart
  refine x_aload_n (pc := 0) dX11_stoppedPart_0 (i := 0) rfl rfl ?_
  refine x_aload_n (pc := 1) dX11_stoppedPart_1 (i := 0) rfl rfl ?_
  refine x_gR (pc := 2) (k := 0) fcX11 dX11_stoppedPart_2 q136 (by decide) rfl (fun v1 => ?_)
  refine x_bipush (pc := 5) (v := 7) dX11_stoppedPart_5 (by decide) ?_
  refine x_ldI (pc := 7) dX11_stoppedPart_7 (fun v2 => ?_)
  refine x_iconst (pc := 8) (v := 1) dX11_stoppedPart_8 (by decide) ?_
  refine x_icmp_ne (pc := 9) (tgt := 16) dX11_stoppedPart_9 (by decide) ?_ ?_
  · refine x_iconst (pc := 12) (v := 1) dX11_stoppedPart_12 (by decide) ?_
    refine x_goto (pc := 13) (tgt := 17) dX11_stoppedPart_13 (by decide) ?_
    exact xX11_stoppedPart_17 μ o (1 : Int32) o 
  · refine x_iconst (pc := 16) (v := 0) dX11_stoppedPart_16 (by decide) ?_
    exact xX11_stoppedPart_17 μ o (0 : Int32) o 
theorem mX11_stoppedPart (S : mSh) (μ : mMm) (cx cy : Nat) (o : Nat) : mMet MX11_stoppedPart [.ref o] (S, μ, cx, cy) (iMI S cx cy) (fX11_stoppedPart S μ o) := mMet.of rfl (by decide) rfl (fun h => by cases h) (Nat.le_of_ble_eq_true rfl) (mX.ck (fun _ => xbX11_stoppedPart o))
/-! SlideMillsModel.whyStopped()I -/
def lX11_whyStopped_17 (S : mSh) (μ : mMm) (x0 : Nat) (t0 : Int32) (t1 : Nat) : Option (Int32 × mMm) := (fX11_asks S μ t1 t0).bind fun r3 => if r3.1 = 0 then (some ((0 : Int32), r3.2)) else ((gR S x0 11 0).bind fun v4 => (ldI S r3.2 v4 (9 : Int32)).bind fun v5 => some (v5, r3.2))
def bX11_whyStopped (S : mSh) (μ : mMm) (o : Nat) : Option (Int32 × mMm) := (gR S o 11 0).bind fun v1 => (ldI S μ v1 (7 : Int32)).bind fun v2 => if v2 = (1 : Int32) then (lX11_whyStopped_17 S μ o (1 : Int32) o) else (lX11_whyStopped_17 S μ o (0 : Int32) o)
def fX11_whyStopped (S : mSh) (μ : mMm) (o : Nat) : Option (Int32 × mMm) := if mok S o 11 = true then bX11_whyStopped S μ o else none
abbrev MX11_whyStopped : mM := ((yX11_whyStopped, cX11_whyStopped, 1, (some .int)), (1, 21), (false, false), RX11, eT)
theorem kX11_whyStopped : mCalV MX11_whyStopped RX11 0 := ⟨q733, q734, q5, q735, by decide +kernel⟩
set_option maxHeartbeats 4000000 in
theorem xX11_whyStopped_17 {n0 c0 s0 cx cy : Nat} {S : mSh} (μ : mMm) (x0 : Nat) (t0 : Int32) (t1 : Nat) : mX MX11_whyStopped n0 c0 s0 17 [some (.ref x0)] [.int t0, .ref t1] (S, μ, cx, cy) (iMI S cx cy) (lX11_whyStopped_17 S μ x0 t0 t1) := by
  unfold lX11_whyStopped_17
  refine x_callVi (pc := 17) (As := [.int t0]) (rest := []) (vx := fun a => a.1) (μf := fun a => a.2) fcX11 (mX11_asks S μ cx cy t1 t0) (fun _ => rfl) rfl (fun _ h => ifok h) dX11_whyStopped_17 q202 kX11_asks rfl ⟨by decide, by decide⟩ rfl (Nat.le_of_ble_eq_true rfl) (fun r3 => ?_)
  refine x_if_eq (pc := 20) (tgt := 33) dX11_whyStopped_20 (by decide) ?_ ?_
  · refine x_iconst (pc := 33) (v := 0) dX11_whyStopped_33 (by decide) ?_
    exact x_iret rfl dX11_whyStopped_34 rfl rfl
  · refine x_aload_n (pc := 23) dX11_whyStopped_23 (i := 0) rfl rfl ?_
    refine x_gR (pc := 24) (k := 0) fcX11 dX11_whyStopped_24 q136 (by decide) rfl (fun v4 => ?_)
    refine x_bipush (pc := 27) (v := 9) dX11_whyStopped_27 (by decide) ?_
    refine x_ldI (pc := 29) dX11_whyStopped_29 (fun v5 => ?_)
    refine x_goto (pc := 30) (tgt := 34) dX11_whyStopped_30 (by decide) ?_
    exact x_iret rfl dX11_whyStopped_34 rfl rfl
set_option maxHeartbeats 4000000 in
theorem xbX11_whyStopped {n0 c0 s0 cx cy : Nat} {S : mSh} {μ : mMm} (o : Nat) : mX MX11_whyStopped n0 c0 s0 0 [some (.ref o)] [] (S, μ, cx, cy) (iMI S cx cy) (bX11_whyStopped S μ o) := by
  unfold bX11_whyStopped
  refine x_aload_n (pc := 0) dX11_whyStopped_0 (i := 0) rfl rfl ?_
  refine x_aload_n (pc := 1) dX11_whyStopped_1 (i := 0) rfl rfl ?_
  refine x_gR (pc := 2) (k := 0) fcX11 dX11_whyStopped_2 q136 (by decide) rfl (fun v1 => ?_)
  refine x_bipush (pc := 5) (v := 7) dX11_whyStopped_5 (by decide) ?_
  refine x_ldI (pc := 7) dX11_whyStopped_7 (fun v2 => ?_)
  refine x_iconst (pc := 8) (v := 1) dX11_whyStopped_8 (by decide) ?_
  refine x_icmp_ne (pc := 9) (tgt := 16) dX11_whyStopped_9 (by decide) ?_ ?_
  · refine x_iconst (pc := 12) (v := 1) dX11_whyStopped_12 (by decide) ?_
    refine x_goto (pc := 13) (tgt := 17) dX11_whyStopped_13 (by decide) ?_
    exact xX11_whyStopped_17 μ o (1 : Int32) o 
  · refine x_iconst (pc := 16) (v := 0) dX11_whyStopped_16 (by decide) ?_
    exact xX11_whyStopped_17 μ o (0 : Int32) o 
theorem mX11_whyStopped (S : mSh) (μ : mMm) (cx cy : Nat) (o : Nat) : mMet MX11_whyStopped [.ref o] (S, μ, cx, cy) (iMI S cx cy) (fX11_whyStopped S μ o) := mMet.of rfl (by decide) rfl (fun h => by cases h) (Nat.le_of_ble_eq_true rfl) (mX.ck (fun _ => xbX11_whyStopped o))
/-! SlideMillsModel.textLength()I -/
def bX11_textLength (S : mSh) (μ : mMm) (o : Nat) : Option (Int32 × mMm) := (gR S o 11 0).bind fun v1 => (ldI S μ v1 (0 : Int32)).bind fun v2 => (fX11_says S μ o v2).bind fun r3 => some (r3.1, r3.2)
def fX11_textLength (S : mSh) (μ : mMm) (o : Nat) : Option (Int32 × mMm) := if mok S o 11 = true then bX11_textLength S μ o else none
abbrev MX11_textLength : mM := ((yX11_textLength, cX11_textLength, 1, (some .int)), (1, 21), (false, false), RX11, eT)
theorem kX11_textLength : mCalV MX11_textLength RX11 0 := ⟨q786, q787, q5, q788, by decide +kernel⟩
set_option maxHeartbeats 4000000 in
theorem xbX11_textLength {n0 c0 s0 cx cy : Nat} {S : mSh} {μ : mMm} (o : Nat) : mX MX11_textLength n0 c0 s0 0 [some (.ref o)] [] (S, μ, cx, cy) (iMI S cx cy) (bX11_textLength S μ o) := by
  unfold bX11_textLength
  refine x_aload_n (pc := 0) dX11_textLength_0 (i := 0) rfl rfl ?_
  refine x_aload_n (pc := 1) dX11_textLength_1 (i := 0) rfl rfl ?_
  refine x_gR (pc := 2) (k := 0) fcX11 dX11_textLength_2 q136 (by decide) rfl (fun v1 => ?_)
  refine x_iconst (pc := 5) (v := 0) dX11_textLength_5 (by decide) ?_
  refine x_ldI (pc := 6) dX11_textLength_6 (fun v2 => ?_)
  refine x_callVi (pc := 7) (As := [.int v2]) (rest := []) (vx := fun a => a.1) (μf := fun a => a.2) fcX11 (mX11_says S μ cx cy o v2) (fun _ => rfl) rfl (fun _ h => ifok h) dX11_textLength_7 q266 kX11_says rfl ⟨by decide, by decide⟩ rfl (Nat.le_of_ble_eq_true rfl) (fun r3 => ?_)
  exact x_iret rfl dX11_textLength_10 rfl rfl
theorem mX11_textLength (S : mSh) (μ : mMm) (cx cy : Nat) (o : Nat) : mMet MX11_textLength [.ref o] (S, μ, cx, cy) (iMI S cx cy) (fX11_textLength S μ o) := mMet.of rfl (by decide) rfl (fun h => by cases h) (Nat.le_of_ble_eq_true rfl) (mX.ck (fun _ => xbX11_textLength o))
/-! SlideMillsModel.letterAt(I)I -/
def bX11_letterAt (S : mSh) (μ : mMm) (o : Nat) (p0 : Int32) : Option (Int32 × mMm) := (fX11_isPlace S μ o p0).bind fun v1 => (fX11_asks S μ o v1).bind fun r2 => if r2.1 = 0 then (some ((0 : Int32), r2.2)) else ((gR S o 11 0).bind fun v3 => (ldI S r2.2 v3 ((10 : Int32) + p0)).bind fun v4 => some (v4, r2.2))
def fX11_letterAt (S : mSh) (μ : mMm) (o : Nat) (p0 : Int32) : Option (Int32 × mMm) := if mok S o 11 = true then bX11_letterAt S μ o p0 else none
abbrev MX11_letterAt : mM := ((yX11_letterAt, cX11_letterAt, 2, (some .int)), (2, 43), (false, false), RX11, eT)
theorem kX11_letterAt : mCalV MX11_letterAt RX11 1 := ⟨q797, q798, q5, q799, by decide +kernel⟩
set_option maxHeartbeats 4000000 in
theorem xbX11_letterAt {n0 c0 s0 cx cy : Nat} {S : mSh} {μ : mMm} (o : Nat) (p0 : Int32) : mX MX11_letterAt n0 c0 s0 0 [some (.ref o), some (.int p0)] [] (S, μ, cx, cy) (iMI S cx cy) (bX11_letterAt S μ o p0) := by
  unfold bX11_letterAt
  refine x_aload_n (pc := 0) dX11_letterAt_0 (i := 0) rfl rfl ?_
  refine x_aload_n (pc := 1) dX11_letterAt_1 (i := 0) rfl rfl ?_
  refine x_iload_n (pc := 2) dX11_letterAt_2 (i := 1) rfl rfl ?_
  refine x_callVi (pc := 3) (As := [.int p0]) (rest := [.ref o]) (vx := fun a => a) (μf := fun _ => μ) fcX11 (mX11_isPlace S μ cx cy o p0) (fun _ => rfl) rfl (fun _ h => ifok h) dX11_letterAt_3 q246 kX11_isPlace rfl ⟨by decide, by decide⟩ rfl (Nat.le_of_ble_eq_true rfl) (fun v1 => ?_)
  refine x_callVi (pc := 6) (As := [.int v1]) (rest := []) (vx := fun a => a.1) (μf := fun a => a.2) fcX11 (mX11_asks S μ cx cy o v1) (fun _ => rfl) rfl (fun _ h => ifok h) dX11_letterAt_6 q202 kX11_asks rfl ⟨by decide, by decide⟩ rfl (Nat.le_of_ble_eq_true rfl) (fun r2 => ?_)
  refine x_if_eq (pc := 9) (tgt := 24) dX11_letterAt_9 (by decide) ?_ ?_
  · refine x_iconst (pc := 24) (v := 0) dX11_letterAt_24 (by decide) ?_
    exact x_iret rfl dX11_letterAt_25 rfl rfl
  · refine x_aload_n (pc := 12) dX11_letterAt_12 (i := 0) rfl rfl ?_
    refine x_gR (pc := 13) (k := 0) fcX11 dX11_letterAt_13 q136 (by decide) rfl (fun v3 => ?_)
    refine x_bipush (pc := 16) (v := 10) dX11_letterAt_16 (by decide) ?_
    refine x_iload_n (pc := 18) dX11_letterAt_18 (i := 1) rfl rfl ?_
    refine x_iadd (pc := 19) dX11_letterAt_19 ?_
    refine x_ldI (pc := 20) dX11_letterAt_20 (fun v4 => ?_)
    refine x_goto (pc := 21) (tgt := 25) dX11_letterAt_21 (by decide) ?_
    exact x_iret rfl dX11_letterAt_25 rfl rfl
theorem mX11_letterAt (S : mSh) (μ : mMm) (cx cy : Nat) (o : Nat) (p0 : Int32) : mMet MX11_letterAt [.ref o, .int p0] (S, μ, cx, cy) (iMI S cx cy) (fX11_letterAt S μ o p0) := mMet.of rfl (by decide) rfl (fun h => by cases h) (Nat.le_of_ble_eq_true rfl) (mX.ck (fun _ => xbX11_letterAt o p0))
/-! SlideMillsModel.window()I -/
def bX11_window (S : mSh) (μ : mMm) (o : Nat) : Option (Int32 × mMm) := (gR S o 11 0).bind fun v1 => (ldI S μ v1 (1 : Int32)).bind fun v2 => (fX11_says S μ o v2).bind fun r3 => some (r3.1, r3.2)
def fX11_window (S : mSh) (μ : mMm) (o : Nat) : Option (Int32 × mMm) := if mok S o 11 = true then bX11_window S μ o else none
abbrev MX11_window : mM := ((yX11_window, cX11_window, 1, (some .int)), (1, 21), (false, false), RX11, eT)
theorem kX11_window : mCalV MX11_window RX11 0 := ⟨q805, q806, q5, q807, by decide +kernel⟩
set_option maxHeartbeats 4000000 in
theorem xbX11_window {n0 c0 s0 cx cy : Nat} {S : mSh} {μ : mMm} (o : Nat) : mX MX11_window n0 c0 s0 0 [some (.ref o)] [] (S, μ, cx, cy) (iMI S cx cy) (bX11_window S μ o) := by
  unfold bX11_window
  refine x_aload_n (pc := 0) dX11_window_0 (i := 0) rfl rfl ?_
  refine x_aload_n (pc := 1) dX11_window_1 (i := 0) rfl rfl ?_
  refine x_gR (pc := 2) (k := 0) fcX11 dX11_window_2 q136 (by decide) rfl (fun v1 => ?_)
  refine x_iconst (pc := 5) (v := 1) dX11_window_5 (by decide) ?_
  refine x_ldI (pc := 6) dX11_window_6 (fun v2 => ?_)
  refine x_callVi (pc := 7) (As := [.int v2]) (rest := []) (vx := fun a => a.1) (μf := fun a => a.2) fcX11 (mX11_says S μ cx cy o v2) (fun _ => rfl) rfl (fun _ h => ifok h) dX11_window_7 q266 kX11_says rfl ⟨by decide, by decide⟩ rfl (Nat.le_of_ble_eq_true rfl) (fun r3 => ?_)
  exact x_iret rfl dX11_window_10 rfl rfl
theorem mX11_window (S : mSh) (μ : mMm) (cx cy : Nat) (o : Nat) : mMet MX11_window [.ref o] (S, μ, cx, cy) (iMI S cx cy) (fX11_window S μ o) := mMet.of rfl (by decide) rfl (fun h => by cases h) (Nat.le_of_ble_eq_true rfl) (mX.ck (fun _ => xbX11_window o))
/-! SlideMillsModel.shortest()I -/
def bX11_shortest (S : mSh) (μ : mMm) (o : Nat) : Option (Int32 × mMm) := (gR S o 11 0).bind fun v1 => (ldI S μ v1 (2 : Int32)).bind fun v2 => (fX11_says S μ o v2).bind fun r3 => some (r3.1, r3.2)
def fX11_shortest (S : mSh) (μ : mMm) (o : Nat) : Option (Int32 × mMm) := if mok S o 11 = true then bX11_shortest S μ o else none
abbrev MX11_shortest : mM := ((yX11_shortest, cX11_shortest, 1, (some .int)), (1, 21), (false, false), RX11, eT)
theorem kX11_shortest : mCalV MX11_shortest RX11 0 := ⟨q813, q814, q5, q815, by decide +kernel⟩
set_option maxHeartbeats 4000000 in
theorem xbX11_shortest {n0 c0 s0 cx cy : Nat} {S : mSh} {μ : mMm} (o : Nat) : mX MX11_shortest n0 c0 s0 0 [some (.ref o)] [] (S, μ, cx, cy) (iMI S cx cy) (bX11_shortest S μ o) := by
  unfold bX11_shortest
  refine x_aload_n (pc := 0) dX11_shortest_0 (i := 0) rfl rfl ?_
  refine x_aload_n (pc := 1) dX11_shortest_1 (i := 0) rfl rfl ?_
  refine x_gR (pc := 2) (k := 0) fcX11 dX11_shortest_2 q136 (by decide) rfl (fun v1 => ?_)
  refine x_iconst (pc := 5) (v := 2) dX11_shortest_5 (by decide) ?_
  refine x_ldI (pc := 6) dX11_shortest_6 (fun v2 => ?_)
  refine x_callVi (pc := 7) (As := [.int v2]) (rest := []) (vx := fun a => a.1) (μf := fun a => a.2) fcX11 (mX11_says S μ cx cy o v2) (fun _ => rfl) rfl (fun _ h => ifok h) dX11_shortest_7 q266 kX11_says rfl ⟨by decide, by decide⟩ rfl (Nat.le_of_ble_eq_true rfl) (fun r3 => ?_)
  exact x_iret rfl dX11_shortest_10 rfl rfl
theorem mX11_shortest (S : mSh) (μ : mMm) (cx cy : Nat) (o : Nat) : mMet MX11_shortest [.ref o] (S, μ, cx, cy) (iMI S cx cy) (fX11_shortest S μ o) := mMet.of rfl (by decide) rfl (fun h => by cases h) (Nat.le_of_ble_eq_true rfl) (mX.ck (fun _ => xbX11_shortest o))
/-! SlideMillsModel.longest()I -/
def bX11_longest (S : mSh) (μ : mMm) (o : Nat) : Option (Int32 × mMm) := (gR S o 11 0).bind fun v1 => (ldI S μ v1 (3 : Int32)).bind fun v2 => (fX11_says S μ o v2).bind fun r3 => some (r3.1, r3.2)
def fX11_longest (S : mSh) (μ : mMm) (o : Nat) : Option (Int32 × mMm) := if mok S o 11 = true then bX11_longest S μ o else none
abbrev MX11_longest : mM := ((yX11_longest, cX11_longest, 1, (some .int)), (1, 21), (false, false), RX11, eT)
theorem kX11_longest : mCalV MX11_longest RX11 0 := ⟨q821, q822, q5, q823, by decide +kernel⟩
set_option maxHeartbeats 4000000 in
theorem xbX11_longest {n0 c0 s0 cx cy : Nat} {S : mSh} {μ : mMm} (o : Nat) : mX MX11_longest n0 c0 s0 0 [some (.ref o)] [] (S, μ, cx, cy) (iMI S cx cy) (bX11_longest S μ o) := by
  unfold bX11_longest
  refine x_aload_n (pc := 0) dX11_longest_0 (i := 0) rfl rfl ?_
  refine x_aload_n (pc := 1) dX11_longest_1 (i := 0) rfl rfl ?_
  refine x_gR (pc := 2) (k := 0) fcX11 dX11_longest_2 q136 (by decide) rfl (fun v1 => ?_)
  refine x_iconst (pc := 5) (v := 3) dX11_longest_5 (by decide) ?_
  refine x_ldI (pc := 6) dX11_longest_6 (fun v2 => ?_)
  refine x_callVi (pc := 7) (As := [.int v2]) (rest := []) (vx := fun a => a.1) (μf := fun a => a.2) fcX11 (mX11_says S μ cx cy o v2) (fun _ => rfl) rfl (fun _ h => ifok h) dX11_longest_7 q266 kX11_says rfl ⟨by decide, by decide⟩ rfl (Nat.le_of_ble_eq_true rfl) (fun r3 => ?_)
  exact x_iret rfl dX11_longest_10 rfl rfl
theorem mX11_longest (S : mSh) (μ : mMm) (cx cy : Nat) (o : Nat) : mMet MX11_longest [.ref o] (S, μ, cx, cy) (iMI S cx cy) (fX11_longest S μ o) := mMet.of rfl (by decide) rfl (fun h => by cases h) (Nat.le_of_ble_eq_true rfl) (mX.ck (fun _ => xbX11_longest o))
/-! SlideMillsModel.isToken(I)Z -/
def bX11_isToken (S : mSh) (μ : mMm) (o : Nat) (p0 : Int32) : Option (Int32) := (gR S o 11 0).bind fun v1 => (ldI S μ v1 (6 : Int32)).bind fun v2 => (fX11_in p0 (0 : Int32) (v2 - (1 : Int32))).bind fun v3 => if (v3 = 0 ∨ v3 = 1) then some v3 else none
def fX11_isToken (S : mSh) (μ : mMm) (o : Nat) (p0 : Int32) : Option (Int32) := if mok S o 11 = true then bX11_isToken S μ o p0 else none
abbrev MX11_isToken : mM := ((yX11_isToken, cX11_isToken, 2, (some .boolean)), (1, 22), (false, false), RX11, eT)
theorem kX11_isToken : mCalV MX11_isToken RX11 1 := ⟨q849, q850, q5, q851, by decide +kernel⟩
set_option maxHeartbeats 4000000 in
theorem xbX11_isToken {n0 c0 s0 cx cy : Nat} {S : mSh} {μ : mMm} (o : Nat) (p0 : Int32) : mX MX11_isToken n0 c0 s0 0 [some (.ref o), some (.int p0)] [] (S, μ, cx, cy) (iPI S μ cx cy) (bX11_isToken S μ o p0) := by
  unfold bX11_isToken
  refine x_iload_n (pc := 0) dX11_isToken_0 (i := 1) rfl rfl ?_
  refine x_iconst (pc := 1) (v := 0) dX11_isToken_1 (by decide) ?_
  refine x_aload_n (pc := 2) dX11_isToken_2 (i := 0) rfl rfl ?_
  refine x_gR (pc := 3) (k := 0) fcX11 dX11_isToken_3 q136 (by decide) rfl (fun v1 => ?_)
  refine x_bipush (pc := 6) (v := 6) dX11_isToken_6 (by decide) ?_
  refine x_ldI (pc := 8) dX11_isToken_8 (fun v2 => ?_)
  refine x_iconst (pc := 9) (v := 1) dX11_isToken_9 (by decide) ?_
  refine x_isub (pc := 10) dX11_isToken_10 ?_
  refine x_callSi (pc := 11) (As := [.int p0, .int (0 : Int32), .int (v2 - (1 : Int32))]) (rest := []) (vx := fun a => a) (μf := fun _ => μ) (mX11_in S μ cx cy p0 (0 : Int32) (v2 - (1 : Int32))) (fun _ => rfl) rfl dX11_isToken_11 q199 kX11_in rfl ⟨by decide, by decide⟩ rfl (Nat.le_of_ble_eq_true rfl) (fun v3 => ?_)
  exact mX.ck (fun hp => x_iret rfl dX11_isToken_14 rfl (mNarZ hp))
theorem mX11_isToken (S : mSh) (μ : mMm) (cx cy : Nat) (o : Nat) (p0 : Int32) : mMet MX11_isToken [.ref o, .int p0] (S, μ, cx, cy) (iPI S μ cx cy) (fX11_isToken S μ o p0) := mMet.of rfl (by decide) rfl (fun h => by cases h) (Nat.le_of_ble_eq_true rfl) (mX.ck (fun _ => xbX11_isToken o p0))
/-! SlideMillsModel.tokens()I -/
def bX11_tokens (S : mSh) (μ : mMm) (o : Nat) : Option (Int32 × mMm) := (gR S o 11 0).bind fun v1 => (ldI S μ v1 (6 : Int32)).bind fun v2 => (fX11_says S μ o v2).bind fun r3 => some (r3.1, r3.2)
def fX11_tokens (S : mSh) (μ : mMm) (o : Nat) : Option (Int32 × mMm) := if mok S o 11 = true then bX11_tokens S μ o else none
abbrev MX11_tokens : mM := ((yX11_tokens, cX11_tokens, 1, (some .int)), (1, 21), (false, false), RX11, eT)
theorem kX11_tokens : mCalV MX11_tokens RX11 0 := ⟨q829, q830, q5, q831, by decide +kernel⟩
set_option maxHeartbeats 4000000 in
theorem xbX11_tokens {n0 c0 s0 cx cy : Nat} {S : mSh} {μ : mMm} (o : Nat) : mX MX11_tokens n0 c0 s0 0 [some (.ref o)] [] (S, μ, cx, cy) (iMI S cx cy) (bX11_tokens S μ o) := by
  unfold bX11_tokens
  refine x_aload_n (pc := 0) dX11_tokens_0 (i := 0) rfl rfl ?_
  refine x_aload_n (pc := 1) dX11_tokens_1 (i := 0) rfl rfl ?_
  refine x_gR (pc := 2) (k := 0) fcX11 dX11_tokens_2 q136 (by decide) rfl (fun v1 => ?_)
  refine x_bipush (pc := 5) (v := 6) dX11_tokens_5 (by decide) ?_
  refine x_ldI (pc := 7) dX11_tokens_7 (fun v2 => ?_)
  refine x_callVi (pc := 8) (As := [.int v2]) (rest := []) (vx := fun a => a.1) (μf := fun a => a.2) fcX11 (mX11_says S μ cx cy o v2) (fun _ => rfl) rfl (fun _ h => ifok h) dX11_tokens_8 q266 kX11_says rfl ⟨by decide, by decide⟩ rfl (Nat.le_of_ble_eq_true rfl) (fun r3 => ?_)
  exact x_iret rfl dX11_tokens_11 rfl rfl
theorem mX11_tokens (S : mSh) (μ : mMm) (cx cy : Nat) (o : Nat) : mMet MX11_tokens [.ref o] (S, μ, cx, cy) (iMI S cx cy) (fX11_tokens S μ o) := mMet.of rfl (by decide) rfl (fun h => by cases h) (Nat.le_of_ble_eq_true rfl) (mX.ck (fun _ => xbX11_tokens o))
/-! SlideMillsModel.isRepeat(I)Z -/
def bX11_isRepeat (S : mSh) (μ : mMm) (o : Nat) (p0 : Int32) : Option (Int32 × mMm) := (fX11_isToken S μ o p0).bind fun v1 => (fX11_asks S μ o v1).bind fun r2 => if r2.1 = 0 then (some ((0 : Int32), r2.2)) else ((fX11_distance S r2.2 o p0).bind fun v3 => if v3 ≤ 0 then (some ((0 : Int32), r2.2)) else (some ((1 : Int32), r2.2)))
def fX11_isRepeat (S : mSh) (μ : mMm) (o : Nat) (p0 : Int32) : Option (Int32 × mMm) := if mok S o 11 = true then bX11_isRepeat S μ o p0 else none
abbrev MX11_isRepeat : mM := ((yX11_isRepeat, cX11_isRepeat, 2, (some .boolean)), (2, 43), (false, false), RX11, eT)
theorem kX11_isRepeat : mCalV MX11_isRepeat RX11 1 := ⟨q845, q846, q5, q847, by decide +kernel⟩
set_option maxHeartbeats 4000000 in
theorem xbX11_isRepeat {n0 c0 s0 cx cy : Nat} {S : mSh} {μ : mMm} (o : Nat) (p0 : Int32) : mX MX11_isRepeat n0 c0 s0 0 [some (.ref o), some (.int p0)] [] (S, μ, cx, cy) (iMI S cx cy) (bX11_isRepeat S μ o p0) := by
  unfold bX11_isRepeat
  refine x_aload_n (pc := 0) dX11_isRepeat_0 (i := 0) rfl rfl ?_
  refine x_aload_n (pc := 1) dX11_isRepeat_1 (i := 0) rfl rfl ?_
  refine x_iload_n (pc := 2) dX11_isRepeat_2 (i := 1) rfl rfl ?_
  refine x_callVi (pc := 3) (As := [.int p0]) (rest := [.ref o]) (vx := fun a => a) (μf := fun _ => μ) fcX11 (mX11_isToken S μ cx cy o p0) (fun _ => rfl) rfl (fun _ h => ifok h) dX11_isRepeat_3 q848 kX11_isToken rfl ⟨by decide, by decide⟩ rfl (Nat.le_of_ble_eq_true rfl) (fun v1 => ?_)
  refine x_callVi (pc := 6) (As := [.int v1]) (rest := []) (vx := fun a => a.1) (μf := fun a => a.2) fcX11 (mX11_asks S μ cx cy o v1) (fun _ => rfl) rfl (fun _ h => ifok h) dX11_isRepeat_6 q202 kX11_asks rfl ⟨by decide, by decide⟩ rfl (Nat.le_of_ble_eq_true rfl) (fun r2 => ?_)
  refine x_if_eq (pc := 9) (tgt := 24) dX11_isRepeat_9 (by decide) ?_ ?_
  · refine x_iconst (pc := 24) (v := 0) dX11_isRepeat_24 (by decide) ?_
    exact x_iret rfl dX11_isRepeat_25 rfl rfl
  · refine x_aload_n (pc := 12) dX11_isRepeat_12 (i := 0) rfl rfl ?_
    refine x_iload_n (pc := 13) dX11_isRepeat_13 (i := 1) rfl rfl ?_
    refine x_callVi (pc := 14) (As := [.int p0]) (rest := []) (vx := fun a => a) (μf := fun _ => r2.2) fcX11 (mX11_distance S r2.2 cx cy o p0) (fun _ => rfl) rfl (fun _ h => ifok h) dX11_isRepeat_14 q496 kX11_distance rfl ⟨by decide, by decide⟩ rfl (Nat.le_of_ble_eq_true rfl) (fun v3 => ?_)
    refine x_if_le (pc := 17) (tgt := 24) dX11_isRepeat_17 (by decide) ?_ ?_
    · refine x_iconst (pc := 24) (v := 0) dX11_isRepeat_24 (by decide) ?_
      exact x_iret rfl dX11_isRepeat_25 rfl rfl
    · refine x_iconst (pc := 20) (v := 1) dX11_isRepeat_20 (by decide) ?_
      refine x_goto (pc := 21) (tgt := 25) dX11_isRepeat_21 (by decide) ?_
      exact x_iret rfl dX11_isRepeat_25 rfl rfl
theorem mX11_isRepeat (S : mSh) (μ : mMm) (cx cy : Nat) (o : Nat) (p0 : Int32) : mMet MX11_isRepeat [.ref o, .int p0] (S, μ, cx, cy) (iMI S cx cy) (fX11_isRepeat S μ o p0) := mMet.of rfl (by decide) rfl (fun h => by cases h) (Nat.le_of_ble_eq_true rfl) (mX.ck (fun _ => xbX11_isRepeat o p0))
/-! SlideMillsModel.letterOf(I)I -/
def lX11_letterOf_31 (S : mSh) (μ : mMm) (x0 : Nat) (x1 : Int32) (t0 : Int32) (t1 : Nat) : Option (Int32 × mMm) := (fX11_asksThen S μ t1 t0 (2 : Int32)).bind fun r4 => if r4.1 = 0 then (some ((0 : Int32), r4.2)) else ((gR S x0 11 0).bind fun v5 => (ldI S r4.2 v5 (((50 : Int32) + ((2 : Int32) * x1)) + (1 : Int32))).bind fun v6 => some (v6, r4.2))
def lX11_letterOf_26 (S : mSh) (μ : mMm) (x0 : Nat) (x1 : Int32) (t0 : Nat) : Option (Int32 × mMm) := lX11_letterOf_31 S μ x0 x1 (1 : Int32) t0
def bX11_letterOf (S : mSh) (μ : mMm) (o : Nat) (p0 : Int32) : Option (Int32 × mMm) := (fX11_isToken S μ o p0).bind fun v1 => (fX11_asks S μ o v1).bind fun r2 => (gI S r2.2 o 11 11).bind fun v3 => if 0 < v3 then (lX11_letterOf_26 S r2.2 o p0 o) else ((fX11_distance S r2.2 o p0).bind fun v7 => if v7 = 0 then (lX11_letterOf_26 S r2.2 o p0 o) else (lX11_letterOf_31 S r2.2 o p0 (0 : Int32) o))
def fX11_letterOf (S : mSh) (μ : mMm) (o : Nat) (p0 : Int32) : Option (Int32 × mMm) := if mok S o 11 = true then bX11_letterOf S μ o p0 else none
abbrev MX11_letterOf : mM := ((yX11_letterOf, cX11_letterOf, 2, (some .int)), (2, 43), (false, false), RX11, eT)
theorem kX11_letterOf : mCalV MX11_letterOf RX11 1 := ⟨q861, q862, q5, q863, by decide +kernel⟩
set_option maxHeartbeats 4000000 in
theorem xX11_letterOf_31 {n0 c0 s0 cx cy : Nat} {S : mSh} (μ : mMm) (x0 : Nat) (x1 : Int32) (t0 : Int32) (t1 : Nat) : mX MX11_letterOf n0 c0 s0 31 [some (.ref x0), some (.int x1)] [.int t0, .ref t1] (S, μ, cx, cy) (iMI S cx cy) (lX11_letterOf_31 S μ x0 x1 t0 t1) := by
  unfold lX11_letterOf_31
  refine x_iconst (pc := 31) (v := 2) dX11_letterOf_31 (by decide) ?_
  refine x_callVi (pc := 32) (As := [.int t0, .int (2 : Int32)]) (rest := []) (vx := fun a => a.1) (μf := fun a => a.2) fcX11 (mX11_asksThen S μ cx cy t1 t0 (2 : Int32)) (fun _ => rfl) rfl (fun _ h => ifok h) dX11_letterOf_32 q207 kX11_asksThen rfl ⟨by decide, by decide⟩ rfl (Nat.le_of_ble_eq_true rfl) (fun r4 => ?_)
  refine x_if_eq (pc := 35) (tgt := 54) dX11_letterOf_35 (by decide) ?_ ?_
  · refine x_iconst (pc := 54) (v := 0) dX11_letterOf_54 (by decide) ?_
    exact x_iret rfl dX11_letterOf_55 rfl rfl
  · refine x_aload_n (pc := 38) dX11_letterOf_38 (i := 0) rfl rfl ?_
    refine x_gR (pc := 39) (k := 0) fcX11 dX11_letterOf_39 q136 (by decide) rfl (fun v5 => ?_)
    refine x_bipush (pc := 42) (v := 50) dX11_letterOf_42 (by decide) ?_
    refine x_iconst (pc := 44) (v := 2) dX11_letterOf_44 (by decide) ?_
    refine x_iload_n (pc := 45) dX11_letterOf_45 (i := 1) rfl rfl ?_
    refine x_imul (pc := 46) dX11_letterOf_46 ?_
    refine x_iadd (pc := 47) dX11_letterOf_47 ?_
    refine x_iconst (pc := 48) (v := 1) dX11_letterOf_48 (by decide) ?_
    refine x_iadd (pc := 49) dX11_letterOf_49 ?_
    refine x_ldI (pc := 50) dX11_letterOf_50 (fun v6 => ?_)
    refine x_goto (pc := 51) (tgt := 55) dX11_letterOf_51 (by decide) ?_
    exact x_iret rfl dX11_letterOf_55 rfl rfl
set_option maxHeartbeats 4000000 in
theorem xX11_letterOf_26 {n0 c0 s0 cx cy : Nat} {S : mSh} (μ : mMm) (x0 : Nat) (x1 : Int32) (t0 : Nat) : mX MX11_letterOf n0 c0 s0 26 [some (.ref x0), some (.int x1)] [.ref t0] (S, μ, cx, cy) (iMI S cx cy) (lX11_letterOf_26 S μ x0 x1 t0) := by
  unfold lX11_letterOf_26
  refine x_iconst (pc := 26) (v := 1) dX11_letterOf_26 (by decide) ?_
  refine x_goto (pc := 27) (tgt := 31) dX11_letterOf_27 (by decide) ?_
  exact xX11_letterOf_31 μ x0 x1 (1 : Int32) t0 
set_option maxHeartbeats 4000000 in
theorem xbX11_letterOf {n0 c0 s0 cx cy : Nat} {S : mSh} {μ : mMm} (o : Nat) (p0 : Int32) : mX MX11_letterOf n0 c0 s0 0 [some (.ref o), some (.int p0)] [] (S, μ, cx, cy) (iMI S cx cy) (bX11_letterOf S μ o p0) := by
  unfold bX11_letterOf
  refine x_aload_n (pc := 0) dX11_letterOf_0 (i := 0) rfl rfl ?_
  refine x_aload_n (pc := 1) dX11_letterOf_1 (i := 0) rfl rfl ?_
  refine x_iload_n (pc := 2) dX11_letterOf_2 (i := 1) rfl rfl ?_
  refine x_callVi (pc := 3) (As := [.int p0]) (rest := [.ref o]) (vx := fun a => a) (μf := fun _ => μ) fcX11 (mX11_isToken S μ cx cy o p0) (fun _ => rfl) rfl (fun _ h => ifok h) dX11_letterOf_3 q848 kX11_isToken rfl ⟨by decide, by decide⟩ rfl (Nat.le_of_ble_eq_true rfl) (fun v1 => ?_)
  refine x_callVi (pc := 6) (As := [.int v1]) (rest := []) (vx := fun a => a.1) (μf := fun a => a.2) fcX11 (mX11_asks S μ cx cy o v1) (fun _ => rfl) rfl (fun _ h => ifok h) dX11_letterOf_6 q202 kX11_asks rfl ⟨by decide, by decide⟩ rfl (Nat.le_of_ble_eq_true rfl) (fun r2 => ?_)
  refine x_pop (pc := 9) dX11_letterOf_9 rfl ?_
  refine x_aload_n (pc := 10) dX11_letterOf_10 (i := 0) rfl rfl ?_
  refine x_aload_n (pc := 11) dX11_letterOf_11 (i := 0) rfl rfl ?_
  refine x_gI (pc := 12) (k := 11) fcX11 dX11_letterOf_12 q206 (by decide) rfl (fun v3 => ?_)
  refine x_if_gt (pc := 15) (tgt := 26) dX11_letterOf_15 (by decide) ?_ ?_
  · exact xX11_letterOf_26 r2.2 o p0 o
  · refine x_aload_n (pc := 18) dX11_letterOf_18 (i := 0) rfl rfl ?_
    refine x_iload_n (pc := 19) dX11_letterOf_19 (i := 1) rfl rfl ?_
    refine x_callVi (pc := 20) (As := [.int p0]) (rest := [.ref o]) (vx := fun a => a) (μf := fun _ => r2.2) fcX11 (mX11_distance S r2.2 cx cy o p0) (fun _ => rfl) rfl (fun _ h => ifok h) dX11_letterOf_20 q496 kX11_distance rfl ⟨by decide, by decide⟩ rfl (Nat.le_of_ble_eq_true rfl) (fun v7 => ?_)
    refine x_if_ne (pc := 23) (tgt := 30) dX11_letterOf_23 (by decide) ?_ ?_
    · exact xX11_letterOf_26 r2.2 o p0 o
    · refine x_iconst (pc := 30) (v := 0) dX11_letterOf_30 (by decide) ?_
      exact xX11_letterOf_31 r2.2 o p0 (0 : Int32) o 
theorem mX11_letterOf (S : mSh) (μ : mMm) (cx cy : Nat) (o : Nat) (p0 : Int32) : mMet MX11_letterOf [.ref o, .int p0] (S, μ, cx, cy) (iMI S cx cy) (fX11_letterOf S μ o p0) := mMet.of rfl (by decide) rfl (fun h => by cases h) (Nat.le_of_ble_eq_true rfl) (mX.ck (fun _ => xbX11_letterOf o p0))
/-! SlideMillsModel.distanceOf(I)I -/
def lX11_distanceOf_31 (S : mSh) (μ : mMm) (x0 : Nat) (x1 : Int32) (t0 : Int32) (t1 : Nat) : Option (Int32 × mMm) := (fX11_asksThen S μ t1 t0 (2 : Int32)).bind fun r4 => if r4.1 = 0 then (some ((0 : Int32), r4.2)) else ((fX11_distance S r4.2 x0 x1).bind fun v5 => some (v5, r4.2))
def lX11_distanceOf_26 (S : mSh) (μ : mMm) (x0 : Nat) (x1 : Int32) (t0 : Nat) : Option (Int32 × mMm) := lX11_distanceOf_31 S μ x0 x1 (1 : Int32) t0
def bX11_distanceOf (S : mSh) (μ : mMm) (o : Nat) (p0 : Int32) : Option (Int32 × mMm) := (fX11_isToken S μ o p0).bind fun v1 => (fX11_asks S μ o v1).bind fun r2 => (gI S r2.2 o 11 11).bind fun v3 => if 0 < v3 then (lX11_distanceOf_26 S r2.2 o p0 o) else ((fX11_distance S r2.2 o p0).bind fun v6 => if v6 ≤ 0 then (lX11_distanceOf_31 S r2.2 o p0 (0 : Int32) o) else (lX11_distanceOf_26 S r2.2 o p0 o))
def fX11_distanceOf (S : mSh) (μ : mMm) (o : Nat) (p0 : Int32) : Option (Int32 × mMm) := if mok S o 11 = true then bX11_distanceOf S μ o p0 else none
abbrev MX11_distanceOf : mM := ((yX11_distanceOf, cX11_distanceOf, 2, (some .int)), (2, 43), (false, false), RX11, eT)
theorem kX11_distanceOf : mCalV MX11_distanceOf RX11 1 := ⟨q872, q873, q5, q874, by decide +kernel⟩
set_option maxHeartbeats 4000000 in
theorem xX11_distanceOf_31 {n0 c0 s0 cx cy : Nat} {S : mSh} (μ : mMm) (x0 : Nat) (x1 : Int32) (t0 : Int32) (t1 : Nat) : mX MX11_distanceOf n0 c0 s0 31 [some (.ref x0), some (.int x1)] [.int t0, .ref t1] (S, μ, cx, cy) (iMI S cx cy) (lX11_distanceOf_31 S μ x0 x1 t0 t1) := by
  unfold lX11_distanceOf_31
  refine x_iconst (pc := 31) (v := 2) dX11_distanceOf_31 (by decide) ?_
  refine x_callVi (pc := 32) (As := [.int t0, .int (2 : Int32)]) (rest := []) (vx := fun a => a.1) (μf := fun a => a.2) fcX11 (mX11_asksThen S μ cx cy t1 t0 (2 : Int32)) (fun _ => rfl) rfl (fun _ h => ifok h) dX11_distanceOf_32 q207 kX11_asksThen rfl ⟨by decide, by decide⟩ rfl (Nat.le_of_ble_eq_true rfl) (fun r4 => ?_)
  refine x_if_eq (pc := 35) (tgt := 46) dX11_distanceOf_35 (by decide) ?_ ?_
  · refine x_iconst (pc := 46) (v := 0) dX11_distanceOf_46 (by decide) ?_
    exact x_iret rfl dX11_distanceOf_47 rfl rfl
  · refine x_aload_n (pc := 38) dX11_distanceOf_38 (i := 0) rfl rfl ?_
    refine x_iload_n (pc := 39) dX11_distanceOf_39 (i := 1) rfl rfl ?_
    refine x_callVi (pc := 40) (As := [.int x1]) (rest := []) (vx := fun a => a) (μf := fun _ => r4.2) fcX11 (mX11_distance S r4.2 cx cy x0 x1) (fun _ => rfl) rfl (fun _ h => ifok h) dX11_distanceOf_40 q496 kX11_distance rfl ⟨by decide, by decide⟩ rfl (Nat.le_of_ble_eq_true rfl) (fun v5 => ?_)
    refine x_goto (pc := 43) (tgt := 47) dX11_distanceOf_43 (by decide) ?_
    exact x_iret rfl dX11_distanceOf_47 rfl rfl
set_option maxHeartbeats 4000000 in
theorem xX11_distanceOf_26 {n0 c0 s0 cx cy : Nat} {S : mSh} (μ : mMm) (x0 : Nat) (x1 : Int32) (t0 : Nat) : mX MX11_distanceOf n0 c0 s0 26 [some (.ref x0), some (.int x1)] [.ref t0] (S, μ, cx, cy) (iMI S cx cy) (lX11_distanceOf_26 S μ x0 x1 t0) := by
  unfold lX11_distanceOf_26
  refine x_iconst (pc := 26) (v := 1) dX11_distanceOf_26 (by decide) ?_
  refine x_goto (pc := 27) (tgt := 31) dX11_distanceOf_27 (by decide) ?_
  exact xX11_distanceOf_31 μ x0 x1 (1 : Int32) t0 
set_option maxHeartbeats 4000000 in
theorem xbX11_distanceOf {n0 c0 s0 cx cy : Nat} {S : mSh} {μ : mMm} (o : Nat) (p0 : Int32) : mX MX11_distanceOf n0 c0 s0 0 [some (.ref o), some (.int p0)] [] (S, μ, cx, cy) (iMI S cx cy) (bX11_distanceOf S μ o p0) := by
  unfold bX11_distanceOf
  refine x_aload_n (pc := 0) dX11_distanceOf_0 (i := 0) rfl rfl ?_
  refine x_aload_n (pc := 1) dX11_distanceOf_1 (i := 0) rfl rfl ?_
  refine x_iload_n (pc := 2) dX11_distanceOf_2 (i := 1) rfl rfl ?_
  refine x_callVi (pc := 3) (As := [.int p0]) (rest := [.ref o]) (vx := fun a => a) (μf := fun _ => μ) fcX11 (mX11_isToken S μ cx cy o p0) (fun _ => rfl) rfl (fun _ h => ifok h) dX11_distanceOf_3 q848 kX11_isToken rfl ⟨by decide, by decide⟩ rfl (Nat.le_of_ble_eq_true rfl) (fun v1 => ?_)
  refine x_callVi (pc := 6) (As := [.int v1]) (rest := []) (vx := fun a => a.1) (μf := fun a => a.2) fcX11 (mX11_asks S μ cx cy o v1) (fun _ => rfl) rfl (fun _ h => ifok h) dX11_distanceOf_6 q202 kX11_asks rfl ⟨by decide, by decide⟩ rfl (Nat.le_of_ble_eq_true rfl) (fun r2 => ?_)
  refine x_pop (pc := 9) dX11_distanceOf_9 rfl ?_
  refine x_aload_n (pc := 10) dX11_distanceOf_10 (i := 0) rfl rfl ?_
  refine x_aload_n (pc := 11) dX11_distanceOf_11 (i := 0) rfl rfl ?_
  refine x_gI (pc := 12) (k := 11) fcX11 dX11_distanceOf_12 q206 (by decide) rfl (fun v3 => ?_)
  refine x_if_gt (pc := 15) (tgt := 26) dX11_distanceOf_15 (by decide) ?_ ?_
  · exact xX11_distanceOf_26 r2.2 o p0 o
  · refine x_aload_n (pc := 18) dX11_distanceOf_18 (i := 0) rfl rfl ?_
    refine x_iload_n (pc := 19) dX11_distanceOf_19 (i := 1) rfl rfl ?_
    refine x_callVi (pc := 20) (As := [.int p0]) (rest := [.ref o]) (vx := fun a => a) (μf := fun _ => r2.2) fcX11 (mX11_distance S r2.2 cx cy o p0) (fun _ => rfl) rfl (fun _ h => ifok h) dX11_distanceOf_20 q496 kX11_distance rfl ⟨by decide, by decide⟩ rfl (Nat.le_of_ble_eq_true rfl) (fun v6 => ?_)
    refine x_if_le (pc := 23) (tgt := 30) dX11_distanceOf_23 (by decide) ?_ ?_
    · refine x_iconst (pc := 30) (v := 0) dX11_distanceOf_30 (by decide) ?_
      exact xX11_distanceOf_31 r2.2 o p0 (0 : Int32) o 
    · exact xX11_distanceOf_26 r2.2 o p0 o
theorem mX11_distanceOf (S : mSh) (μ : mMm) (cx cy : Nat) (o : Nat) (p0 : Int32) : mMet MX11_distanceOf [.ref o, .int p0] (S, μ, cx, cy) (iMI S cx cy) (fX11_distanceOf S μ o p0) := mMet.of rfl (by decide) rfl (fun h => by cases h) (Nat.le_of_ble_eq_true rfl) (mX.ck (fun _ => xbX11_distanceOf o p0))
/-! SlideMillsModel.lengthOf(I)I -/
def bX11_lengthOf (S : mSh) (μ : mMm) (o : Nat) (p0 : Int32) : Option (Int32 × mMm) := (fX11_isToken S μ o p0).bind fun v1 => (fX11_asks S μ o v1).bind fun r2 => if r2.1 = 0 then (some ((0 : Int32), r2.2)) else ((fX11_length S r2.2 o p0).bind fun v3 => some (v3, r2.2))
def fX11_lengthOf (S : mSh) (μ : mMm) (o : Nat) (p0 : Int32) : Option (Int32 × mMm) := if mok S o 11 = true then bX11_lengthOf S μ o p0 else none
abbrev MX11_lengthOf : mM := ((yX11_lengthOf, cX11_lengthOf, 2, (some .int)), (2, 43), (false, false), RX11, eT)
theorem kX11_lengthOf : mCalV MX11_lengthOf RX11 1 := ⟨q884, q885, q5, q886, by decide +kernel⟩
set_option maxHeartbeats 4000000 in
theorem xbX11_lengthOf {n0 c0 s0 cx cy : Nat} {S : mSh} {μ : mMm} (o : Nat) (p0 : Int32) : mX MX11_lengthOf n0 c0 s0 0 [some (.ref o), some (.int p0)] [] (S, μ, cx, cy) (iMI S cx cy) (bX11_lengthOf S μ o p0) := by
  unfold bX11_lengthOf
  refine x_aload_n (pc := 0) dX11_lengthOf_0 (i := 0) rfl rfl ?_
  refine x_aload_n (pc := 1) dX11_lengthOf_1 (i := 0) rfl rfl ?_
  refine x_iload_n (pc := 2) dX11_lengthOf_2 (i := 1) rfl rfl ?_
  refine x_callVi (pc := 3) (As := [.int p0]) (rest := [.ref o]) (vx := fun a => a) (μf := fun _ => μ) fcX11 (mX11_isToken S μ cx cy o p0) (fun _ => rfl) rfl (fun _ h => ifok h) dX11_lengthOf_3 q848 kX11_isToken rfl ⟨by decide, by decide⟩ rfl (Nat.le_of_ble_eq_true rfl) (fun v1 => ?_)
  refine x_callVi (pc := 6) (As := [.int v1]) (rest := []) (vx := fun a => a.1) (μf := fun a => a.2) fcX11 (mX11_asks S μ cx cy o v1) (fun _ => rfl) rfl (fun _ h => ifok h) dX11_lengthOf_6 q202 kX11_asks rfl ⟨by decide, by decide⟩ rfl (Nat.le_of_ble_eq_true rfl) (fun r2 => ?_)
  refine x_if_eq (pc := 9) (tgt := 20) dX11_lengthOf_9 (by decide) ?_ ?_
  · refine x_iconst (pc := 20) (v := 0) dX11_lengthOf_20 (by decide) ?_
    exact x_iret rfl dX11_lengthOf_21 rfl rfl
  · refine x_aload_n (pc := 12) dX11_lengthOf_12 (i := 0) rfl rfl ?_
    refine x_iload_n (pc := 13) dX11_lengthOf_13 (i := 1) rfl rfl ?_
    refine x_callVi (pc := 14) (As := [.int p0]) (rest := []) (vx := fun a => a) (μf := fun _ => r2.2) fcX11 (mX11_length S r2.2 cx cy o p0) (fun _ => rfl) rfl (fun _ h => ifok h) dX11_lengthOf_14 q500 kX11_length rfl ⟨by decide, by decide⟩ rfl (Nat.le_of_ble_eq_true rfl) (fun v3 => ?_)
    refine x_goto (pc := 17) (tgt := 21) dX11_lengthOf_17 (by decide) ?_
    exact x_iret rfl dX11_lengthOf_21 rfl rfl
theorem mX11_lengthOf (S : mSh) (μ : mMm) (cx cy : Nat) (o : Nat) (p0 : Int32) : mMet MX11_lengthOf [.ref o, .int p0] (S, μ, cx, cy) (iMI S cx cy) (fX11_lengthOf S μ o p0) := mMet.of rfl (by decide) rfl (fun h => by cases h) (Nat.le_of_ble_eq_true rfl) (mX.ck (fun _ => xbX11_lengthOf o p0))
/-! SlideMillsModel.cost()I -/
def lX11_cost_39 (k4 : Nat → Int32 → Int32 → Option (Int32)) (S : mSh) (μ : mMm) (x0 : Nat) (x2 : Int32) (t0 : Int32) (t1 : Int32) : Option (Int32) := k4 x0 (t1 + t0) (x2 + (1 : Int32))
def lX11_cost_4 (S : mSh) (μ : mMm) : Nat → Nat → Int32 → Int32 → Option (Int32)
  | 0, _, _, _ => none
  | n + 1, x0, x1, x2 => (gR S x0 11 0).bind fun v1 => (ldI S μ v1 (6 : Int32)).bind fun v2 => if v2 ≤ x2 then (some x1) else ((fX11_distance S μ x0 x2).bind fun v3 => if v3 ≤ 0 then ((gR S x0 11 0).bind fun v4 => (ldI S μ v4 (4 : Int32)).bind fun v5 => lX11_cost_39 (lX11_cost_4 S μ n) S μ x0 x2 v5 x1) else ((gR S x0 11 0).bind fun v6 => (ldI S μ v6 (5 : Int32)).bind fun v7 => lX11_cost_39 (lX11_cost_4 S μ n) S μ x0 x2 v7 x1))
def bX11_cost (S : mSh) (μ : mMm) (o : Nat) : Option (Int32) := lX11_cost_4 S μ FU o (0 : Int32) (0 : Int32)
def fX11_cost (S : mSh) (μ : mMm) (o : Nat) : Option (Int32) := if mok S o 11 = true then bX11_cost S μ o else none
abbrev MX11_cost : mM := ((yX11_cost, cX11_cost, 3, (some .int)), (1, 21), (false, false), RX11, eT)
theorem kX11_cost : mCalV MX11_cost RX11 0 := ⟨q902, q903, q5, q904, by decide +kernel⟩
set_option maxHeartbeats 4000000 in
theorem xX11_cost_39 {n0 c0 s0 cx cy : Nat} {S : mSh} {μ : mMm} {k4 : Nat → Int32 → Int32 → Option (Int32)} (hk4 : ∀ (x0 : Nat) (x1 : Int32) (x2 : Int32), mX MX11_cost n0 c0 s0 4 [some (.ref x0), some (.int x1), some (.int x2)] [] (S, μ, cx, cy) (iPI S μ cx cy) (k4 x0 x1 x2)) (x0 : Nat) (x2 : Int32) (t0 : Int32) (t1 : Int32) (d1 : Option Value) : mX MX11_cost n0 c0 s0 39 [some (.ref x0), d1, some (.int x2)] [.int t0, .int t1] (S, μ, cx, cy) (iPI S μ cx cy) (lX11_cost_39 k4 S μ x0 x2 t0 t1) := by
  unfold lX11_cost_39
  refine x_iadd (pc := 39) dX11_cost_39 ?_
  refine x_istore_n (pc := 40) dX11_cost_40 (i := 1) rfl (by decide) (l' := [some (.ref x0), some (.int (t1 + t0)), some (.int x2)]) rfl ?_
  refine x_iinc (pc := 41) (v := x2 + (1 : Int32)) dX11_cost_41 rfl (by rw [show Int32.ofInt (1) = (1 : Int32) from by decide]) (by decide) (l' := [some (.ref x0), some (.int (t1 + t0)), some (.int (x2 + (1 : Int32)))]) rfl ?_
  refine x_goto (pc := 44) (tgt := 4) dX11_cost_44 (by decide) ?_
  exact hk4 x0 (t1 + t0) (x2 + (1 : Int32)) 
set_option maxHeartbeats 4000000 in
theorem xX11_cost_4 {n0 c0 s0 cx cy : Nat} {S : mSh} {μ : mMm} : ∀ (n : Nat) (x0 : Nat) (x1 : Int32) (x2 : Int32), mX MX11_cost n0 c0 s0 4 [some (.ref x0), some (.int x1), some (.int x2)] [] (S, μ, cx, cy) (iPI S μ cx cy) (lX11_cost_4 S μ n x0 x1 x2) := by
  intro n
  induction n with
  | zero => intros; exact x_none
  | succ n ih =>
    intro x0 x1 x2
    unfold lX11_cost_4
    refine x_iload_n (pc := 4) dX11_cost_4 (i := 2) rfl rfl ?_
    refine x_aload_n (pc := 5) dX11_cost_5 (i := 0) rfl rfl ?_
    refine x_gR (pc := 6) (k := 0) fcX11 dX11_cost_6 q136 (by decide) rfl (fun v1 => ?_)
    refine x_bipush (pc := 9) (v := 6) dX11_cost_9 (by decide) ?_
    refine x_ldI (pc := 11) dX11_cost_11 (fun v2 => ?_)
    refine x_icmp_ge (pc := 12) (tgt := 47) dX11_cost_12 (by decide) ?_ ?_
    · refine x_iload_n (pc := 47) dX11_cost_47 (i := 1) rfl rfl ?_
      exact x_iret rfl dX11_cost_48 rfl rfl
    · refine x_iload_n (pc := 15) dX11_cost_15 (i := 1) rfl rfl ?_
      refine x_aload_n (pc := 16) dX11_cost_16 (i := 0) rfl rfl ?_
      refine x_iload_n (pc := 17) dX11_cost_17 (i := 2) rfl rfl ?_
      refine x_callVi (pc := 18) (As := [.int x2]) (rest := [.int x1]) (vx := fun a => a) (μf := fun _ => μ) fcX11 (mX11_distance S μ cx cy x0 x2) (fun _ => rfl) rfl (fun _ h => ifok h) dX11_cost_18 q496 kX11_distance rfl ⟨by decide, by decide⟩ rfl (Nat.le_of_ble_eq_true rfl) (fun v3 => ?_)
      refine x_if_le (pc := 21) (tgt := 33) dX11_cost_21 (by decide) ?_ ?_
      · refine x_aload_n (pc := 33) dX11_cost_33 (i := 0) rfl rfl ?_
        refine x_gR (pc := 34) (k := 0) fcX11 dX11_cost_34 q136 (by decide) rfl (fun v4 => ?_)
        refine x_iconst (pc := 37) (v := 4) dX11_cost_37 (by decide) ?_
        refine x_ldI (pc := 38) dX11_cost_38 (fun v5 => ?_)
        exact xX11_cost_39 (k4 := (lX11_cost_4 S μ n)) ih x0 x2 v5 x1 _
      · refine x_aload_n (pc := 24) dX11_cost_24 (i := 0) rfl rfl ?_
        refine x_gR (pc := 25) (k := 0) fcX11 dX11_cost_25 q136 (by decide) rfl (fun v6 => ?_)
        refine x_iconst (pc := 28) (v := 5) dX11_cost_28 (by decide) ?_
        refine x_ldI (pc := 29) dX11_cost_29 (fun v7 => ?_)
        refine x_goto (pc := 30) (tgt := 39) dX11_cost_30 (by decide) ?_
        exact xX11_cost_39 (k4 := (lX11_cost_4 S μ n)) ih x0 x2 v7 x1 _
set_option maxHeartbeats 4000000 in
theorem xbX11_cost {n0 c0 s0 cx cy : Nat} {S : mSh} {μ : mMm} (o : Nat) : mX MX11_cost n0 c0 s0 0 [some (.ref o), none, none] [] (S, μ, cx, cy) (iPI S μ cx cy) (bX11_cost S μ o) := by
  unfold bX11_cost
  refine x_iconst (pc := 0) (v := 0) dX11_cost_0 (by decide) ?_
  refine x_istore_n (pc := 1) dX11_cost_1 (i := 1) rfl (by decide) (l' := [some (.ref o), some (.int (0 : Int32)), none]) rfl ?_
  refine x_iconst (pc := 2) (v := 0) dX11_cost_2 (by decide) ?_
  refine x_istore_n (pc := 3) dX11_cost_3 (i := 2) rfl (by decide) (l' := [some (.ref o), some (.int (0 : Int32)), some (.int (0 : Int32))]) rfl ?_
  exact xX11_cost_4 FU o (0 : Int32) (0 : Int32) 
theorem mX11_cost (S : mSh) (μ : mMm) (cx cy : Nat) (o : Nat) : mMet MX11_cost [.ref o] (S, μ, cx, cy) (iPI S μ cx cy) (fX11_cost S μ o) := mMet.of rfl (by decide) rfl (fun h => by cases h) (Nat.le_of_ble_eq_true rfl) (mX.ck (fun _ => xbX11_cost o))
/-! SlideMillsModel.sackCost()I -/
def bX11_sackCost (S : mSh) (μ : mMm) (o : Nat) : Option (Int32 × mMm) := (fX11_cost S μ o).bind fun v1 => (fX11_says S μ o v1).bind fun r2 => some (r2.1, r2.2)
def fX11_sackCost (S : mSh) (μ : mMm) (o : Nat) : Option (Int32 × mMm) := if mok S o 11 = true then bX11_sackCost S μ o else none
abbrev MX11_sackCost : mM := ((yX11_sackCost, cX11_sackCost, 1, (some .int)), (2, 43), (false, false), RX11, eT)
theorem kX11_sackCost : mCalV MX11_sackCost RX11 0 := ⟨q898, q899, q5, q900, by decide +kernel⟩
set_option maxHeartbeats 4000000 in
theorem xbX11_sackCost {n0 c0 s0 cx cy : Nat} {S : mSh} {μ : mMm} (o : Nat) : mX MX11_sackCost n0 c0 s0 0 [some (.ref o)] [] (S, μ, cx, cy) (iMI S cx cy) (bX11_sackCost S μ o) := by
  unfold bX11_sackCost
  refine x_aload_n (pc := 0) dX11_sackCost_0 (i := 0) rfl rfl ?_
  refine x_aload_n (pc := 1) dX11_sackCost_1 (i := 0) rfl rfl ?_
  refine x_callVi (pc := 2) (As := []) (rest := [.ref o]) (vx := fun a => a) (μf := fun _ => μ) fcX11 (mX11_cost S μ cx cy o) (fun _ => rfl) rfl (fun _ h => ifok h) dX11_sackCost_2 q901 kX11_cost rfl ⟨by decide, by decide⟩ rfl (Nat.le_of_ble_eq_true rfl) (fun v1 => ?_)
  refine x_callVi (pc := 5) (As := [.int v1]) (rest := []) (vx := fun a => a.1) (μf := fun a => a.2) fcX11 (mX11_says S μ cx cy o v1) (fun _ => rfl) rfl (fun _ h => ifok h) dX11_sackCost_5 q266 kX11_says rfl ⟨by decide, by decide⟩ rfl (Nat.le_of_ble_eq_true rfl) (fun r2 => ?_)
  exact x_iret rfl dX11_sackCost_8 rfl rfl
theorem mX11_sackCost (S : mSh) (μ : mMm) (cx cy : Nat) (o : Nat) : mMet MX11_sackCost [.ref o] (S, μ, cx, cy) (iMI S cx cy) (fX11_sackCost S μ o) := mMet.of rfl (by decide) rfl (fun h => by cases h) (Nat.le_of_ble_eq_true rfl) (mX.ck (fun _ => xbX11_sackCost o))
/-! SlideMillsModel.stands()I -/
def lX11_stands_4 (S : mSh) (μ : mMm) : Nat → Nat → Int32 → Int32 → Option (Int32)
  | 0, _, _, _ => none
  | n + 1, x0, x1, x2 => (gR S x0 11 0).bind fun v1 => (ldI S μ v1 (6 : Int32)).bind fun v2 => if v2 ≤ x2 then (some x1) else ((fX11_length S μ x0 x2).bind fun v3 => lX11_stands_4 S μ n x0 (x1 + v3) (x2 + (1 : Int32)))
def bX11_stands (S : mSh) (μ : mMm) (o : Nat) : Option (Int32) := lX11_stands_4 S μ FU o (0 : Int32) (0 : Int32)
def fX11_stands (S : mSh) (μ : mMm) (o : Nat) : Option (Int32) := if mok S o 11 = true then bX11_stands S μ o else none
abbrev MX11_stands : mM := ((yX11_stands, cX11_stands, 3, (some .int)), (2, 42), (false, false), RX11, eT)
theorem kX11_stands : mCalV MX11_stands RX11 0 := ⟨q919, q920, q5, q921, by decide +kernel⟩
set_option maxHeartbeats 4000000 in
theorem xX11_stands_4 {n0 c0 s0 cx cy : Nat} {S : mSh} {μ : mMm} : ∀ (n : Nat) (x0 : Nat) (x1 : Int32) (x2 : Int32), mX MX11_stands n0 c0 s0 4 [some (.ref x0), some (.int x1), some (.int x2)] [] (S, μ, cx, cy) (iPI S μ cx cy) (lX11_stands_4 S μ n x0 x1 x2) := by
  intro n
  induction n with
  | zero => intros; exact x_none
  | succ n ih =>
    intro x0 x1 x2
    unfold lX11_stands_4
    refine x_iload_n (pc := 4) dX11_stands_4 (i := 2) rfl rfl ?_
    refine x_aload_n (pc := 5) dX11_stands_5 (i := 0) rfl rfl ?_
    refine x_gR (pc := 6) (k := 0) fcX11 dX11_stands_6 q136 (by decide) rfl (fun v1 => ?_)
    refine x_bipush (pc := 9) (v := 6) dX11_stands_9 (by decide) ?_
    refine x_ldI (pc := 11) dX11_stands_11 (fun v2 => ?_)
    refine x_icmp_ge (pc := 12) (tgt := 29) dX11_stands_12 (by decide) ?_ ?_
    · refine x_iload_n (pc := 29) dX11_stands_29 (i := 1) rfl rfl ?_
      exact x_iret rfl dX11_stands_30 rfl rfl
    · refine x_iload_n (pc := 15) dX11_stands_15 (i := 1) rfl rfl ?_
      refine x_aload_n (pc := 16) dX11_stands_16 (i := 0) rfl rfl ?_
      refine x_iload_n (pc := 17) dX11_stands_17 (i := 2) rfl rfl ?_
      refine x_callVi (pc := 18) (As := [.int x2]) (rest := [.int x1]) (vx := fun a => a) (μf := fun _ => μ) fcX11 (mX11_length S μ cx cy x0 x2) (fun _ => rfl) rfl (fun _ h => ifok h) dX11_stands_18 q500 kX11_length rfl ⟨by decide, by decide⟩ rfl (Nat.le_of_ble_eq_true rfl) (fun v3 => ?_)
      refine x_iadd (pc := 21) dX11_stands_21 ?_
      refine x_istore_n (pc := 22) dX11_stands_22 (i := 1) rfl (by decide) (l' := [some (.ref x0), some (.int (x1 + v3)), some (.int x2)]) rfl ?_
      refine x_iinc (pc := 23) (v := x2 + (1 : Int32)) dX11_stands_23 rfl (by rw [show Int32.ofInt (1) = (1 : Int32) from by decide]) (by decide) (l' := [some (.ref x0), some (.int (x1 + v3)), some (.int (x2 + (1 : Int32)))]) rfl ?_
      refine x_goto (pc := 26) (tgt := 4) dX11_stands_26 (by decide) ?_
      exact ih x0 (x1 + v3) (x2 + (1 : Int32)) 
set_option maxHeartbeats 4000000 in
theorem xbX11_stands {n0 c0 s0 cx cy : Nat} {S : mSh} {μ : mMm} (o : Nat) : mX MX11_stands n0 c0 s0 0 [some (.ref o), none, none] [] (S, μ, cx, cy) (iPI S μ cx cy) (bX11_stands S μ o) := by
  unfold bX11_stands
  refine x_iconst (pc := 0) (v := 0) dX11_stands_0 (by decide) ?_
  refine x_istore_n (pc := 1) dX11_stands_1 (i := 1) rfl (by decide) (l' := [some (.ref o), some (.int (0 : Int32)), none]) rfl ?_
  refine x_iconst (pc := 2) (v := 0) dX11_stands_2 (by decide) ?_
  refine x_istore_n (pc := 3) dX11_stands_3 (i := 2) rfl (by decide) (l' := [some (.ref o), some (.int (0 : Int32)), some (.int (0 : Int32))]) rfl ?_
  exact xX11_stands_4 FU o (0 : Int32) (0 : Int32) 
theorem mX11_stands (S : mSh) (μ : mMm) (cx cy : Nat) (o : Nat) : mMet MX11_stands [.ref o] (S, μ, cx, cy) (iPI S μ cx cy) (fX11_stands S μ o) := mMet.of rfl (by decide) rfl (fun h => by cases h) (Nat.le_of_ble_eq_true rfl) (mX.ck (fun _ => xbX11_stands o))
/-! SlideMillsModel.sackLetters()I -/
def bX11_sackLetters (S : mSh) (μ : mMm) (o : Nat) : Option (Int32 × mMm) := (fX11_stands S μ o).bind fun v1 => (fX11_says S μ o v1).bind fun r2 => some (r2.1, r2.2)
def fX11_sackLetters (S : mSh) (μ : mMm) (o : Nat) : Option (Int32 × mMm) := if mok S o 11 = true then bX11_sackLetters S μ o else none
abbrev MX11_sackLetters : mM := ((yX11_sackLetters, cX11_sackLetters, 1, (some .int)), (3, 64), (false, false), RX11, eT)
theorem kX11_sackLetters : mCalV MX11_sackLetters RX11 0 := ⟨q915, q916, q5, q917, by decide +kernel⟩
set_option maxHeartbeats 4000000 in
theorem xbX11_sackLetters {n0 c0 s0 cx cy : Nat} {S : mSh} {μ : mMm} (o : Nat) : mX MX11_sackLetters n0 c0 s0 0 [some (.ref o)] [] (S, μ, cx, cy) (iMI S cx cy) (bX11_sackLetters S μ o) := by
  unfold bX11_sackLetters
  refine x_aload_n (pc := 0) dX11_sackLetters_0 (i := 0) rfl rfl ?_
  refine x_aload_n (pc := 1) dX11_sackLetters_1 (i := 0) rfl rfl ?_
  refine x_callVi (pc := 2) (As := []) (rest := [.ref o]) (vx := fun a => a) (μf := fun _ => μ) fcX11 (mX11_stands S μ cx cy o) (fun _ => rfl) rfl (fun _ h => ifok h) dX11_sackLetters_2 q918 kX11_stands rfl ⟨by decide, by decide⟩ rfl (Nat.le_of_ble_eq_true rfl) (fun v1 => ?_)
  refine x_callVi (pc := 5) (As := [.int v1]) (rest := []) (vx := fun a => a.1) (μf := fun a => a.2) fcX11 (mX11_says S μ cx cy o v1) (fun _ => rfl) rfl (fun _ h => ifok h) dX11_sackLetters_5 q266 kX11_says rfl ⟨by decide, by decide⟩ rfl (Nat.le_of_ble_eq_true rfl) (fun r2 => ?_)
  exact x_iret rfl dX11_sackLetters_8 rfl rfl
theorem mX11_sackLetters (S : mSh) (μ : mMm) (cx cy : Nat) (o : Nat) : mMet MX11_sackLetters [.ref o] (S, μ, cx, cy) (iMI S cx cy) (fX11_sackLetters S μ o) := mMet.of rfl (by decide) rfl (fun h => by cases h) (Nat.le_of_ble_eq_true rfl) (mX.ck (fun _ => xbX11_sackLetters o))
/-! SlideMillsModel.wrongToken()I -/
def bX11_wrongToken (S : mSh) (μ : mMm) (o : Nat) : Option (Int32 × mMm) := (fX11_unpacks S μ o).bind fun m1 => (gI S m1 o 11 12).bind fun v2 => (fX11_says S m1 o v2).bind fun r3 => some (r3.1, r3.2)
def fX11_wrongToken (S : mSh) (μ : mMm) (o : Nat) : Option (Int32 × mMm) := if mok S o 11 = true then bX11_wrongToken S μ o else none
abbrev MX11_wrongToken : mM := ((yX11_wrongToken, cX11_wrongToken, 1, (some .int)), (3, 64), (false, false), RX11, eT)
theorem kX11_wrongToken : mCalV MX11_wrongToken RX11 0 := ⟨q928, q929, q5, q930, by decide +kernel⟩
set_option maxHeartbeats 4000000 in
theorem xbX11_wrongToken {n0 c0 s0 cx cy : Nat} {S : mSh} {μ : mMm} (o : Nat) : mX MX11_wrongToken n0 c0 s0 0 [some (.ref o)] [] (S, μ, cx, cy) (iMI S cx cy) (bX11_wrongToken S μ o) := by
  unfold bX11_wrongToken
  refine x_aload_n (pc := 0) dX11_wrongToken_0 (i := 0) rfl rfl ?_
  refine x_callVv (pc := 1) (As := []) (rest := []) (μf := fun a => a) fcX11 (mX11_unpacks S μ cx cy o) (fun _ => rfl) rfl (fun _ h => ifok h) dX11_wrongToken_1 q490 kX11_unpacks rfl ⟨by decide, by decide⟩ rfl (Nat.le_of_ble_eq_true rfl) (fun m1 => ?_)
  refine x_aload_n (pc := 4) dX11_wrongToken_4 (i := 0) rfl rfl ?_
  refine x_aload_n (pc := 5) dX11_wrongToken_5 (i := 0) rfl rfl ?_
  refine x_gI (pc := 6) (k := 12) fcX11 dX11_wrongToken_6 q489 (by decide) rfl (fun v2 => ?_)
  refine x_callVi (pc := 9) (As := [.int v2]) (rest := []) (vx := fun a => a.1) (μf := fun a => a.2) fcX11 (mX11_says S m1 cx cy o v2) (fun _ => rfl) rfl (fun _ h => ifok h) dX11_wrongToken_9 q266 kX11_says rfl ⟨by decide, by decide⟩ rfl (Nat.le_of_ble_eq_true rfl) (fun r3 => ?_)
  exact x_iret rfl dX11_wrongToken_12 rfl rfl
theorem mX11_wrongToken (S : mSh) (μ : mMm) (cx cy : Nat) (o : Nat) : mMet MX11_wrongToken [.ref o] (S, μ, cx, cy) (iMI S cx cy) (fX11_wrongToken S μ o) := mMet.of rfl (by decide) rfl (fun h => by cases h) (Nat.le_of_ble_eq_true rfl) (mX.ck (fun _ => xbX11_wrongToken o))
/-! SlideMillsModel.wrongReason()I -/
def bX11_wrongReason (S : mSh) (μ : mMm) (o : Nat) : Option (Int32 × mMm) := (fX11_unpacks S μ o).bind fun m1 => (gI S m1 o 11 13).bind fun v2 => (fX11_says S m1 o v2).bind fun r3 => some (r3.1, r3.2)
def fX11_wrongReason (S : mSh) (μ : mMm) (o : Nat) : Option (Int32 × mMm) := if mok S o 11 = true then bX11_wrongReason S μ o else none
abbrev MX11_wrongReason : mM := ((yX11_wrongReason, cX11_wrongReason, 1, (some .int)), (3, 64), (false, false), RX11, eT)
theorem kX11_wrongReason : mCalV MX11_wrongReason RX11 0 := ⟨q936, q937, q5, q938, by decide +kernel⟩
set_option maxHeartbeats 4000000 in
theorem xbX11_wrongReason {n0 c0 s0 cx cy : Nat} {S : mSh} {μ : mMm} (o : Nat) : mX MX11_wrongReason n0 c0 s0 0 [some (.ref o)] [] (S, μ, cx, cy) (iMI S cx cy) (bX11_wrongReason S μ o) := by
  unfold bX11_wrongReason
  refine x_aload_n (pc := 0) dX11_wrongReason_0 (i := 0) rfl rfl ?_
  refine x_callVv (pc := 1) (As := []) (rest := []) (μf := fun a => a) fcX11 (mX11_unpacks S μ cx cy o) (fun _ => rfl) rfl (fun _ h => ifok h) dX11_wrongReason_1 q490 kX11_unpacks rfl ⟨by decide, by decide⟩ rfl (Nat.le_of_ble_eq_true rfl) (fun m1 => ?_)
  refine x_aload_n (pc := 4) dX11_wrongReason_4 (i := 0) rfl rfl ?_
  refine x_aload_n (pc := 5) dX11_wrongReason_5 (i := 0) rfl rfl ?_
  refine x_gI (pc := 6) (k := 13) fcX11 dX11_wrongReason_6 q494 (by decide) rfl (fun v2 => ?_)
  refine x_callVi (pc := 9) (As := [.int v2]) (rest := []) (vx := fun a => a.1) (μf := fun a => a.2) fcX11 (mX11_says S m1 cx cy o v2) (fun _ => rfl) rfl (fun _ h => ifok h) dX11_wrongReason_9 q266 kX11_says rfl ⟨by decide, by decide⟩ rfl (Nat.le_of_ble_eq_true rfl) (fun r3 => ?_)
  exact x_iret rfl dX11_wrongReason_12 rfl rfl
theorem mX11_wrongReason (S : mSh) (μ : mMm) (cx cy : Nat) (o : Nat) : mMet MX11_wrongReason [.ref o] (S, μ, cx, cy) (iMI S cx cy) (fX11_wrongReason S μ o) := mMet.of rfl (by decide) rfl (fun h => by cases h) (Nat.le_of_ble_eq_true rfl) (mX.ck (fun _ => xbX11_wrongReason o))
/-! SlideMillsModel.forText()Z -/
def lX11_forText_69 (k32 : mMm → Nat → Int32 → Int32 → Option (Int32 × mMm)) (S : mSh) (μ : mMm) (x0 : Nat) (x2 : Int32) (t0 : Int32) : Option (Int32 × mMm) := k32 μ x0 t0 (x2 + (1 : Int32))
def lX11_forText_32 (S : mSh) : Nat → mMm → Nat → Int32 → Int32 → Option (Int32 × mMm)
  | 0, _, _, _, _ => none
  | n + 1, μ, x0, x1, x2 => (gR S x0 11 0).bind fun v3 => (ldI S μ v3 (0 : Int32)).bind fun v4 => if v4 ≤ x2 then (if (x1 = 0 ∨ x1 = 1) then some (x1, μ) else none) else (if x1 = 0 then (if (x1 = 0 ∨ x1 = 1) then some (x1, μ) else none) else ((gR S x0 11 8).bind fun v5 => (ldI S μ v5 x2).bind fun v6 => (gR S x0 11 0).bind fun v7 => (ldI S μ v7 ((10 : Int32) + x2)).bind fun v8 => if v6 = v8 then (lX11_forText_69 (lX11_forText_32 S n) S μ x0 x2 (1 : Int32)) else (lX11_forText_69 (lX11_forText_32 S n) S μ x0 x2 (0 : Int32))))
def lX11_forText_29 (S : mSh) (μ : mMm) (x0 : Nat) (t0 : Int32) : Option (Int32 × mMm) := lX11_forText_32 S FU μ x0 t0 (0 : Int32)
def lX11_forText_28 (S : mSh) (μ : mMm) (x0 : Nat) : Option (Int32 × mMm) := lX11_forText_29 S μ x0 (0 : Int32)
def bX11_forText (S : mSh) (μ : mMm) (o : Nat) : Option (Int32 × mMm) := (fX11_unpacks S μ o).bind fun m1 => (gI S m1 o 11 12).bind fun v2 => if 0 ≤ v2 then (lX11_forText_28 S m1 o) else ((gI S m1 o 11 14).bind fun v9 => (gR S o 11 0).bind fun v10 => (ldI S m1 v10 (0 : Int32)).bind fun v11 => if v9 = v11 then (lX11_forText_29 S m1 o (1 : Int32)) else (lX11_forText_28 S m1 o))
def fX11_forText (S : mSh) (μ : mMm) (o : Nat) : Option (Int32 × mMm) := if mok S o 11 = true then bX11_forText S μ o else none
abbrev MX11_forText : mM := ((yX11_forText, cX11_forText, 3, (some .boolean)), (3, 64), (false, false), RX11, eT)
theorem kX11_forText : mCalV MX11_forText RX11 0 := ⟨q953, q954, q5, q955, by decide +kernel⟩
set_option maxHeartbeats 4000000 in
theorem xX11_forText_69 {n0 c0 s0 cx cy : Nat} {S : mSh} {k32 : mMm → Nat → Int32 → Int32 → Option (Int32 × mMm)} (hk32 : ∀ (μ : mMm) (x0 : Nat) (x1 : Int32) (x2 : Int32), mX MX11_forText n0 c0 s0 32 [some (.ref x0), some (.int x1), some (.int x2)] [] (S, μ, cx, cy) (iMI S cx cy) (k32 μ x0 x1 x2)) (μ : mMm) (x0 : Nat) (x2 : Int32) (t0 : Int32) (d1 : Option Value) : mX MX11_forText n0 c0 s0 69 [some (.ref x0), d1, some (.int x2)] [.int t0] (S, μ, cx, cy) (iMI S cx cy) (lX11_forText_69 k32 S μ x0 x2 t0) := by
  unfold lX11_forText_69
  refine x_istore_n (pc := 69) dX11_forText_69 (i := 1) rfl (by decide) (l' := [some (.ref x0), some (.int t0), some (.int x2)]) rfl ?_
  refine x_iinc (pc := 70) (v := x2 + (1 : Int32)) dX11_forText_70 rfl (by rw [show Int32.ofInt (1) = (1 : Int32) from by decide]) (by decide) (l' := [some (.ref x0), some (.int t0), some (.int (x2 + (1 : Int32)))]) rfl ?_
  refine x_goto (pc := 73) (tgt := 32) dX11_forText_73 (by decide) ?_
  exact hk32 μ x0 t0 (x2 + (1 : Int32)) 
set_option maxHeartbeats 4000000 in
theorem xX11_forText_32 {n0 c0 s0 cx cy : Nat} {S : mSh} : ∀ (n : Nat) (μ : mMm) (x0 : Nat) (x1 : Int32) (x2 : Int32), mX MX11_forText n0 c0 s0 32 [some (.ref x0), some (.int x1), some (.int x2)] [] (S, μ, cx, cy) (iMI S cx cy) (lX11_forText_32 S n μ x0 x1 x2) := by
  intro n
  induction n with
  | zero => intros; exact x_none
  | succ n ih =>
    intro μ x0 x1 x2
    unfold lX11_forText_32
    refine x_iload_n (pc := 32) dX11_forText_32 (i := 2) rfl rfl ?_
    refine x_aload_n (pc := 33) dX11_forText_33 (i := 0) rfl rfl ?_
    refine x_gR (pc := 34) (k := 0) fcX11 dX11_forText_34 q136 (by decide) rfl (fun v3 => ?_)
    refine x_iconst (pc := 37) (v := 0) dX11_forText_37 (by decide) ?_
    refine x_ldI (pc := 38) dX11_forText_38 (fun v4 => ?_)
    refine x_icmp_ge (pc := 39) (tgt := 76) dX11_forText_39 (by decide) ?_ ?_
    · refine x_iload_n (pc := 76) dX11_forText_76 (i := 1) rfl rfl ?_
      exact mX.ck (fun hp => x_iret rfl dX11_forText_77 rfl (mNarZ hp))
    · refine x_iload_n (pc := 42) dX11_forText_42 (i := 1) rfl rfl ?_
      refine x_if_eq (pc := 43) (tgt := 76) dX11_forText_43 (by decide) ?_ ?_
      · refine x_iload_n (pc := 76) dX11_forText_76 (i := 1) rfl rfl ?_
        exact mX.ck (fun hp => x_iret rfl dX11_forText_77 rfl (mNarZ hp))
      · refine x_aload_n (pc := 46) dX11_forText_46 (i := 0) rfl rfl ?_
        refine x_gR (pc := 47) (k := 8) fcX11 dX11_forText_47 q141 (by decide) rfl (fun v5 => ?_)
        refine x_iload_n (pc := 50) dX11_forText_50 (i := 2) rfl rfl ?_
        refine x_ldI (pc := 51) dX11_forText_51 (fun v6 => ?_)
        refine x_aload_n (pc := 52) dX11_forText_52 (i := 0) rfl rfl ?_
        refine x_gR (pc := 53) (k := 0) fcX11 dX11_forText_53 q136 (by decide) rfl (fun v7 => ?_)
        refine x_bipush (pc := 56) (v := 10) dX11_forText_56 (by decide) ?_
        refine x_iload_n (pc := 58) dX11_forText_58 (i := 2) rfl rfl ?_
        refine x_iadd (pc := 59) dX11_forText_59 ?_
        refine x_ldI (pc := 60) dX11_forText_60 (fun v8 => ?_)
        refine x_icmp_ne (pc := 61) (tgt := 68) dX11_forText_61 (by decide) ?_ ?_
        · refine x_iconst (pc := 64) (v := 1) dX11_forText_64 (by decide) ?_
          refine x_goto (pc := 65) (tgt := 69) dX11_forText_65 (by decide) ?_
          exact xX11_forText_69 (k32 := (lX11_forText_32 S n)) ih μ x0 x2 (1 : Int32) _
        · refine x_iconst (pc := 68) (v := 0) dX11_forText_68 (by decide) ?_
          exact xX11_forText_69 (k32 := (lX11_forText_32 S n)) ih μ x0 x2 (0 : Int32) _
set_option maxHeartbeats 4000000 in
theorem xX11_forText_29 {n0 c0 s0 cx cy : Nat} {S : mSh} (μ : mMm) (x0 : Nat) (t0 : Int32) (d1 : Option Value) (d2 : Option Value) : mX MX11_forText n0 c0 s0 29 [some (.ref x0), d1, d2] [.int t0] (S, μ, cx, cy) (iMI S cx cy) (lX11_forText_29 S μ x0 t0) := by
  unfold lX11_forText_29
  refine x_istore_n (pc := 29) dX11_forText_29 (i := 1) rfl (by decide) (l' := [some (.ref x0), some (.int t0), d2]) rfl ?_
  refine x_iconst (pc := 30) (v := 0) dX11_forText_30 (by decide) ?_
  refine x_istore_n (pc := 31) dX11_forText_31 (i := 2) rfl (by decide) (l' := [some (.ref x0), some (.int t0), some (.int (0 : Int32))]) rfl ?_
  exact xX11_forText_32 FU μ x0 t0 (0 : Int32) 
set_option maxHeartbeats 4000000 in
theorem xX11_forText_28 {n0 c0 s0 cx cy : Nat} {S : mSh} (μ : mMm) (x0 : Nat) (d1 : Option Value) (d2 : Option Value) : mX MX11_forText n0 c0 s0 28 [some (.ref x0), d1, d2] [] (S, μ, cx, cy) (iMI S cx cy) (lX11_forText_28 S μ x0) := by
  unfold lX11_forText_28
  refine x_iconst (pc := 28) (v := 0) dX11_forText_28 (by decide) ?_
  exact xX11_forText_29 μ x0 (0 : Int32) _ _
set_option maxHeartbeats 4000000 in
theorem xbX11_forText {n0 c0 s0 cx cy : Nat} {S : mSh} {μ : mMm} (o : Nat) : mX MX11_forText n0 c0 s0 0 [some (.ref o), none, none] [] (S, μ, cx, cy) (iMI S cx cy) (bX11_forText S μ o) := by
  unfold bX11_forText
  refine x_aload_n (pc := 0) dX11_forText_0 (i := 0) rfl rfl ?_
  refine x_callVv (pc := 1) (As := []) (rest := []) (μf := fun a => a) fcX11 (mX11_unpacks S μ cx cy o) (fun _ => rfl) rfl (fun _ h => ifok h) dX11_forText_1 q490 kX11_unpacks rfl ⟨by decide, by decide⟩ rfl (Nat.le_of_ble_eq_true rfl) (fun m1 => ?_)
  refine x_aload_n (pc := 4) dX11_forText_4 (i := 0) rfl rfl ?_
  refine x_gI (pc := 5) (k := 12) fcX11 dX11_forText_5 q489 (by decide) rfl (fun v2 => ?_)
  refine x_if_ge (pc := 8) (tgt := 28) dX11_forText_8 (by decide) ?_ ?_
  · exact xX11_forText_28 m1 o _ _
  · refine x_aload_n (pc := 11) dX11_forText_11 (i := 0) rfl rfl ?_
    refine x_gI (pc := 12) (k := 14) fcX11 dX11_forText_12 q495 (by decide) rfl (fun v9 => ?_)
    refine x_aload_n (pc := 15) dX11_forText_15 (i := 0) rfl rfl ?_
    refine x_gR (pc := 16) (k := 0) fcX11 dX11_forText_16 q136 (by decide) rfl (fun v10 => ?_)
    refine x_iconst (pc := 19) (v := 0) dX11_forText_19 (by decide) ?_
    refine x_ldI (pc := 20) dX11_forText_20 (fun v11 => ?_)
    refine x_icmp_ne (pc := 21) (tgt := 28) dX11_forText_21 (by decide) ?_ ?_
    · refine x_iconst (pc := 24) (v := 1) dX11_forText_24 (by decide) ?_
      refine x_goto (pc := 25) (tgt := 29) dX11_forText_25 (by decide) ?_
      exact xX11_forText_29 m1 o (1 : Int32) _ _
    · exact xX11_forText_28 m1 o _ _
theorem mX11_forText (S : mSh) (μ : mMm) (cx cy : Nat) (o : Nat) : mMet MX11_forText [.ref o] (S, μ, cx, cy) (iMI S cx cy) (fX11_forText S μ o) := mMet.of rfl (by decide) rfl (fun h => by cases h) (Nat.le_of_ble_eq_true rfl) (mX.ck (fun _ => xbX11_forText o))
/-! SlideMillsModel.isForText()Z -/
def bX11_isForText (S : mSh) (μ : mMm) (o : Nat) : Option (Int32 × mMm) := (pI S μ o 11 11 (0 : Int32)).bind fun m1 => (fX11_forText S m1 o).bind fun r2 => if (r2.1 = 0 ∨ r2.1 = 1) then some (r2.1, r2.2) else none
def fX11_isForText (S : mSh) (μ : mMm) (o : Nat) : Option (Int32 × mMm) := if mok S o 11 = true then bX11_isForText S μ o else none
abbrev MX11_isForText : mM := ((yX11_isForText, cX11_isForText, 1, (some .boolean)), (4, 86), (false, false), RX11, eT)
theorem kX11_isForText : mCalV MX11_isForText RX11 0 := ⟨q949, q950, q5, q951, by decide +kernel⟩
set_option maxHeartbeats 4000000 in
theorem xbX11_isForText {n0 c0 s0 cx cy : Nat} {S : mSh} {μ : mMm} (o : Nat) : mX MX11_isForText n0 c0 s0 0 [some (.ref o)] [] (S, μ, cx, cy) (iMI S cx cy) (bX11_isForText S μ o) := by
  unfold bX11_isForText
  refine x_aload_n (pc := 0) dX11_isForText_0 (i := 0) rfl rfl ?_
  refine x_iconst (pc := 1) (v := 0) dX11_isForText_1 (by decide) ?_
  refine x_pI (pc := 2) (k := 11) fcX11 dX11_isForText_2 q206 (by decide) rfl rfl rfl rfl (fun m1 => ?_)
  refine x_aload_n (pc := 5) dX11_isForText_5 (i := 0) rfl rfl ?_
  refine x_callVi (pc := 6) (As := []) (rest := []) (vx := fun a => a.1) (μf := fun a => a.2) fcX11 (mX11_forText S m1 cx cy o) (fun _ => rfl) rfl (fun _ h => ifok h) dX11_isForText_6 q952 kX11_forText rfl ⟨by decide, by decide⟩ rfl (Nat.le_of_ble_eq_true rfl) (fun r2 => ?_)
  exact mX.ck (fun hp => x_iret rfl dX11_isForText_9 rfl (mNarZ hp))
theorem mX11_isForText (S : mSh) (μ : mMm) (cx cy : Nat) (o : Nat) : mMet MX11_isForText [.ref o] (S, μ, cx, cy) (iMI S cx cy) (fX11_isForText S μ o) := mMet.of rfl (by decide) rfl (fun h => by cases h) (Nat.le_of_ble_eq_true rfl) (mX.ck (fun _ => xbX11_isForText o))
/-! SlideMillsModel.repeatLength(I)I -/
def bX11_repeatLength (S : mSh) (μ : mMm) (o : Nat) (p0 : Int32) : Option (Int32 × mMm) := (fX11_isPlace S μ o p0).bind fun v1 => (fX11_asks S μ o v1).bind fun r2 => if r2.1 = 0 then (some ((0 : Int32), r2.2)) else ((gR S o 11 0).bind fun v3 => (ldI S r2.2 v3 (1 : Int32)).bind fun v4 => (fX11_longestAt S r2.2 o p0 v4).bind fun v5 => some (v5, r2.2))
def fX11_repeatLength (S : mSh) (μ : mMm) (o : Nat) (p0 : Int32) : Option (Int32 × mMm) := if mok S o 11 = true then bX11_repeatLength S μ o p0 else none
abbrev MX11_repeatLength : mM := ((yX11_repeatLength, cX11_repeatLength, 2, (some .int)), (2, 48), (false, false), RX11, eT)
theorem kX11_repeatLength : mCalV MX11_repeatLength RX11 1 := ⟨q965, q966, q5, q967, by decide +kernel⟩
set_option maxHeartbeats 4000000 in
theorem xbX11_repeatLength {n0 c0 s0 cx cy : Nat} {S : mSh} {μ : mMm} (o : Nat) (p0 : Int32) : mX MX11_repeatLength n0 c0 s0 0 [some (.ref o), some (.int p0)] [] (S, μ, cx, cy) (iMI S cx cy) (bX11_repeatLength S μ o p0) := by
  unfold bX11_repeatLength
  refine x_aload_n (pc := 0) dX11_repeatLength_0 (i := 0) rfl rfl ?_
  refine x_aload_n (pc := 1) dX11_repeatLength_1 (i := 0) rfl rfl ?_
  refine x_iload_n (pc := 2) dX11_repeatLength_2 (i := 1) rfl rfl ?_
  refine x_callVi (pc := 3) (As := [.int p0]) (rest := [.ref o]) (vx := fun a => a) (μf := fun _ => μ) fcX11 (mX11_isPlace S μ cx cy o p0) (fun _ => rfl) rfl (fun _ h => ifok h) dX11_repeatLength_3 q246 kX11_isPlace rfl ⟨by decide, by decide⟩ rfl (Nat.le_of_ble_eq_true rfl) (fun v1 => ?_)
  refine x_callVi (pc := 6) (As := [.int v1]) (rest := []) (vx := fun a => a.1) (μf := fun a => a.2) fcX11 (mX11_asks S μ cx cy o v1) (fun _ => rfl) rfl (fun _ h => ifok h) dX11_repeatLength_6 q202 kX11_asks rfl ⟨by decide, by decide⟩ rfl (Nat.le_of_ble_eq_true rfl) (fun r2 => ?_)
  refine x_if_eq (pc := 9) (tgt := 26) dX11_repeatLength_9 (by decide) ?_ ?_
  · refine x_iconst (pc := 26) (v := 0) dX11_repeatLength_26 (by decide) ?_
    exact x_iret rfl dX11_repeatLength_27 rfl rfl
  · refine x_aload_n (pc := 12) dX11_repeatLength_12 (i := 0) rfl rfl ?_
    refine x_iload_n (pc := 13) dX11_repeatLength_13 (i := 1) rfl rfl ?_
    refine x_aload_n (pc := 14) dX11_repeatLength_14 (i := 0) rfl rfl ?_
    refine x_gR (pc := 15) (k := 0) fcX11 dX11_repeatLength_15 q136 (by decide) rfl (fun v3 => ?_)
    refine x_iconst (pc := 18) (v := 1) dX11_repeatLength_18 (by decide) ?_
    refine x_ldI (pc := 19) dX11_repeatLength_19 (fun v4 => ?_)
    refine x_callVi (pc := 20) (As := [.int p0, .int v4]) (rest := []) (vx := fun a => a) (μf := fun _ => r2.2) fcX11 (mX11_longestAt S r2.2 cx cy o p0 v4) (fun _ => rfl) rfl (fun _ h => ifok h) dX11_repeatLength_20 q436 kX11_longestAt rfl ⟨by decide, by decide⟩ rfl (Nat.le_of_ble_eq_true rfl) (fun v5 => ?_)
    refine x_goto (pc := 23) (tgt := 27) dX11_repeatLength_23 (by decide) ?_
    exact x_iret rfl dX11_repeatLength_27 rfl rfl
theorem mX11_repeatLength (S : mSh) (μ : mMm) (cx cy : Nat) (o : Nat) (p0 : Int32) : mMet MX11_repeatLength [.ref o, .int p0] (S, μ, cx, cy) (iMI S cx cy) (fX11_repeatLength S μ o p0) := mMet.of rfl (by decide) rfl (fun h => by cases h) (Nat.le_of_ble_eq_true rfl) (mX.ck (fun _ => xbX11_repeatLength o p0))
/-! SlideMillsModel.repeatLengthByPairs(I)I -/
def bX11_repeatLengthByPairs (S : mSh) (μ : mMm) (o : Nat) (p0 : Int32) : Option (Int32 × mMm) := (fX11_isPlace S μ o p0).bind fun v1 => (fX11_asks S μ o v1).bind fun r2 => if r2.1 = 0 then (some ((0 : Int32), r2.2)) else ((fX11_longestByPairs S r2.2 o p0).bind fun v3 => some (v3, r2.2))
def fX11_repeatLengthByPairs (S : mSh) (μ : mMm) (o : Nat) (p0 : Int32) : Option (Int32 × mMm) := if mok S o 11 = true then bX11_repeatLengthByPairs S μ o p0 else none
abbrev MX11_repeatLengthByPairs : mM := ((yX11_repeatLengthByPairs, cX11_repeatLengthByPairs, 2, (some .int)), (2, 48), (false, false), RX11, eT)
theorem kX11_repeatLengthByPairs : mCalV MX11_repeatLengthByPairs RX11 1 := ⟨q995, q996, q5, q997, by decide +kernel⟩
set_option maxHeartbeats 4000000 in
theorem xbX11_repeatLengthByPairs {n0 c0 s0 cx cy : Nat} {S : mSh} {μ : mMm} (o : Nat) (p0 : Int32) : mX MX11_repeatLengthByPairs n0 c0 s0 0 [some (.ref o), some (.int p0)] [] (S, μ, cx, cy) (iMI S cx cy) (bX11_repeatLengthByPairs S μ o p0) := by
  unfold bX11_repeatLengthByPairs
  refine x_aload_n (pc := 0) dX11_repeatLengthByPairs_0 (i := 0) rfl rfl ?_
  refine x_aload_n (pc := 1) dX11_repeatLengthByPairs_1 (i := 0) rfl rfl ?_
  refine x_iload_n (pc := 2) dX11_repeatLengthByPairs_2 (i := 1) rfl rfl ?_
  refine x_callVi (pc := 3) (As := [.int p0]) (rest := [.ref o]) (vx := fun a => a) (μf := fun _ => μ) fcX11 (mX11_isPlace S μ cx cy o p0) (fun _ => rfl) rfl (fun _ h => ifok h) dX11_repeatLengthByPairs_3 q246 kX11_isPlace rfl ⟨by decide, by decide⟩ rfl (Nat.le_of_ble_eq_true rfl) (fun v1 => ?_)
  refine x_callVi (pc := 6) (As := [.int v1]) (rest := []) (vx := fun a => a.1) (μf := fun a => a.2) fcX11 (mX11_asks S μ cx cy o v1) (fun _ => rfl) rfl (fun _ h => ifok h) dX11_repeatLengthByPairs_6 q202 kX11_asks rfl ⟨by decide, by decide⟩ rfl (Nat.le_of_ble_eq_true rfl) (fun r2 => ?_)
  refine x_if_eq (pc := 9) (tgt := 20) dX11_repeatLengthByPairs_9 (by decide) ?_ ?_
  · refine x_iconst (pc := 20) (v := 0) dX11_repeatLengthByPairs_20 (by decide) ?_
    exact x_iret rfl dX11_repeatLengthByPairs_21 rfl rfl
  · refine x_aload_n (pc := 12) dX11_repeatLengthByPairs_12 (i := 0) rfl rfl ?_
    refine x_iload_n (pc := 13) dX11_repeatLengthByPairs_13 (i := 1) rfl rfl ?_
    refine x_callVi (pc := 14) (As := [.int p0]) (rest := []) (vx := fun a => a) (μf := fun _ => r2.2) fcX11 (mX11_longestByPairs S r2.2 cx cy o p0) (fun _ => rfl) rfl (fun _ h => ifok h) dX11_repeatLengthByPairs_14 q998 kX11_longestByPairs rfl ⟨by decide, by decide⟩ rfl (Nat.le_of_ble_eq_true rfl) (fun v3 => ?_)
    refine x_goto (pc := 17) (tgt := 21) dX11_repeatLengthByPairs_17 (by decide) ?_
    exact x_iret rfl dX11_repeatLengthByPairs_21 rfl rfl
theorem mX11_repeatLengthByPairs (S : mSh) (μ : mMm) (cx cy : Nat) (o : Nat) (p0 : Int32) : mMet MX11_repeatLengthByPairs [.ref o, .int p0] (S, μ, cx, cy) (iMI S cx cy) (fX11_repeatLengthByPairs S μ o p0) := mMet.of rfl (by decide) rfl (fun h => by cases h) (Nat.le_of_ble_eq_true rfl) (mX.ck (fun _ => xbX11_repeatLengthByPairs o p0))
/-! SlideMillsModel.distanceAt(I)I -/
def bX11_distanceAt (S : mSh) (μ : mMm) (o : Nat) (p0 : Int32) : Option (Int32) := (gR S o 11 0).bind fun v1 => (ldI S μ v1 (1 : Int32)).bind fun v2 => (fX11_longestAt S μ o p0 v2).bind fun v3 => if v3 = 0 then (some (0 : Int32)) else ((fX11_distanceFor S μ o p0 v3).bind fun v4 => some v4)
def fX11_distanceAt (S : mSh) (μ : mMm) (o : Nat) (p0 : Int32) : Option (Int32) := if mok S o 11 = true then bX11_distanceAt S μ o p0 else none
abbrev MX11_distanceAt : mM := ((yX11_distanceAt, cX11_distanceAt, 3, (some .int)), (2, 48), (false, false), RX11, eT)
theorem kX11_distanceAt : mCalV MX11_distanceAt RX11 1 := ⟨q1019, q1020, q5, q1021, by decide +kernel⟩
set_option maxHeartbeats 4000000 in
theorem xbX11_distanceAt {n0 c0 s0 cx cy : Nat} {S : mSh} {μ : mMm} (o : Nat) (p0 : Int32) : mX MX11_distanceAt n0 c0 s0 0 [some (.ref o), some (.int p0), none] [] (S, μ, cx, cy) (iPI S μ cx cy) (bX11_distanceAt S μ o p0) := by
  unfold bX11_distanceAt
  refine x_aload_n (pc := 0) dX11_distanceAt_0 (i := 0) rfl rfl ?_
  refine x_iload_n (pc := 1) dX11_distanceAt_1 (i := 1) rfl rfl ?_
  refine x_aload_n (pc := 2) dX11_distanceAt_2 (i := 0) rfl rfl ?_
  refine x_gR (pc := 3) (k := 0) fcX11 dX11_distanceAt_3 q136 (by decide) rfl (fun v1 => ?_)
  refine x_iconst (pc := 6) (v := 1) dX11_distanceAt_6 (by decide) ?_
  refine x_ldI (pc := 7) dX11_distanceAt_7 (fun v2 => ?_)
  refine x_callVi (pc := 8) (As := [.int p0, .int v2]) (rest := []) (vx := fun a => a) (μf := fun _ => μ) fcX11 (mX11_longestAt S μ cx cy o p0 v2) (fun _ => rfl) rfl (fun _ h => ifok h) dX11_distanceAt_8 q436 kX11_longestAt rfl ⟨by decide, by decide⟩ rfl (Nat.le_of_ble_eq_true rfl) (fun v3 => ?_)
  refine x_istore_n (pc := 11) dX11_distanceAt_11 (i := 2) rfl (by decide) (l' := [some (.ref o), some (.int p0), some (.int v3)]) rfl ?_
  refine x_iload_n (pc := 12) dX11_distanceAt_12 (i := 2) rfl rfl ?_
  refine x_if_ne (pc := 13) (tgt := 20) dX11_distanceAt_13 (by decide) ?_ ?_
  · refine x_iconst (pc := 16) (v := 0) dX11_distanceAt_16 (by decide) ?_
    refine x_goto (pc := 17) (tgt := 26) dX11_distanceAt_17 (by decide) ?_
    exact x_iret rfl dX11_distanceAt_26 rfl rfl
  · refine x_aload_n (pc := 20) dX11_distanceAt_20 (i := 0) rfl rfl ?_
    refine x_iload_n (pc := 21) dX11_distanceAt_21 (i := 1) rfl rfl ?_
    refine x_iload_n (pc := 22) dX11_distanceAt_22 (i := 2) rfl rfl ?_
    refine x_callVi (pc := 23) (As := [.int p0, .int v3]) (rest := []) (vx := fun a => a) (μf := fun _ => μ) fcX11 (mX11_distanceFor S μ cx cy o p0 v3) (fun _ => rfl) rfl (fun _ h => ifok h) dX11_distanceAt_23 q448 kX11_distanceFor rfl ⟨by decide, by decide⟩ rfl (Nat.le_of_ble_eq_true rfl) (fun v4 => ?_)
    exact x_iret rfl dX11_distanceAt_26 rfl rfl
theorem mX11_distanceAt (S : mSh) (μ : mMm) (cx cy : Nat) (o : Nat) (p0 : Int32) : mMet MX11_distanceAt [.ref o, .int p0] (S, μ, cx, cy) (iPI S μ cx cy) (fX11_distanceAt S μ o p0) := mMet.of rfl (by decide) rfl (fun h => by cases h) (Nat.le_of_ble_eq_true rfl) (mX.ck (fun _ => xbX11_distanceAt o p0))
/-! SlideMillsModel.repeatDistance(I)I -/
def bX11_repeatDistance (S : mSh) (μ : mMm) (o : Nat) (p0 : Int32) : Option (Int32 × mMm) := (fX11_isPlace S μ o p0).bind fun v1 => (fX11_asks S μ o v1).bind fun r2 => if r2.1 = 0 then (some ((0 : Int32), r2.2)) else ((fX11_distanceAt S r2.2 o p0).bind fun v3 => some (v3, r2.2))
def fX11_repeatDistance (S : mSh) (μ : mMm) (o : Nat) (p0 : Int32) : Option (Int32 × mMm) := if mok S o 11 = true then bX11_repeatDistance S μ o p0 else none
abbrev MX11_repeatDistance : mM := ((yX11_repeatDistance, cX11_repeatDistance, 2, (some .int)), (3, 70), (false, false), RX11, eT)
theorem kX11_repeatDistance : mCalV MX11_repeatDistance RX11 1 := ⟨q1015, q1016, q5, q1017, by decide +kernel⟩
set_option maxHeartbeats 4000000 in
theorem xbX11_repeatDistance {n0 c0 s0 cx cy : Nat} {S : mSh} {μ : mMm} (o : Nat) (p0 : Int32) : mX MX11_repeatDistance n0 c0 s0 0 [some (.ref o), some (.int p0)] [] (S, μ, cx, cy) (iMI S cx cy) (bX11_repeatDistance S μ o p0) := by
  unfold bX11_repeatDistance
  refine x_aload_n (pc := 0) dX11_repeatDistance_0 (i := 0) rfl rfl ?_
  refine x_aload_n (pc := 1) dX11_repeatDistance_1 (i := 0) rfl rfl ?_
  refine x_iload_n (pc := 2) dX11_repeatDistance_2 (i := 1) rfl rfl ?_
  refine x_callVi (pc := 3) (As := [.int p0]) (rest := [.ref o]) (vx := fun a => a) (μf := fun _ => μ) fcX11 (mX11_isPlace S μ cx cy o p0) (fun _ => rfl) rfl (fun _ h => ifok h) dX11_repeatDistance_3 q246 kX11_isPlace rfl ⟨by decide, by decide⟩ rfl (Nat.le_of_ble_eq_true rfl) (fun v1 => ?_)
  refine x_callVi (pc := 6) (As := [.int v1]) (rest := []) (vx := fun a => a.1) (μf := fun a => a.2) fcX11 (mX11_asks S μ cx cy o v1) (fun _ => rfl) rfl (fun _ h => ifok h) dX11_repeatDistance_6 q202 kX11_asks rfl ⟨by decide, by decide⟩ rfl (Nat.le_of_ble_eq_true rfl) (fun r2 => ?_)
  refine x_if_eq (pc := 9) (tgt := 20) dX11_repeatDistance_9 (by decide) ?_ ?_
  · refine x_iconst (pc := 20) (v := 0) dX11_repeatDistance_20 (by decide) ?_
    exact x_iret rfl dX11_repeatDistance_21 rfl rfl
  · refine x_aload_n (pc := 12) dX11_repeatDistance_12 (i := 0) rfl rfl ?_
    refine x_iload_n (pc := 13) dX11_repeatDistance_13 (i := 1) rfl rfl ?_
    refine x_callVi (pc := 14) (As := [.int p0]) (rest := []) (vx := fun a => a) (μf := fun _ => r2.2) fcX11 (mX11_distanceAt S r2.2 cx cy o p0) (fun _ => rfl) rfl (fun _ h => ifok h) dX11_repeatDistance_14 q1018 kX11_distanceAt rfl ⟨by decide, by decide⟩ rfl (Nat.le_of_ble_eq_true rfl) (fun v3 => ?_)
    refine x_goto (pc := 17) (tgt := 21) dX11_repeatDistance_17 (by decide) ?_
    exact x_iret rfl dX11_repeatDistance_21 rfl rfl
theorem mX11_repeatDistance (S : mSh) (μ : mMm) (cx cy : Nat) (o : Nat) (p0 : Int32) : mMet MX11_repeatDistance [.ref o, .int p0] (S, μ, cx, cy) (iMI S cx cy) (fX11_repeatDistance S μ o p0) := mMet.of rfl (by decide) rfl (fun h => by cases h) (Nat.le_of_ble_eq_true rfl) (mX.ck (fun _ => xbX11_repeatDistance o p0))
/-! SlideMillsModel.rowCost(I)I -/
def lX11_rowCost_44 (k9 : mMm → Nat → Int32 → Int32 → Option (Int32 × mMm)) (S : mSh) (μ : mMm) (x0 : Nat) (x3 : Int32) (t0 : Int32) (t1 : Int32) : Option (Int32 × mMm) := k9 μ x0 (t1 + t0) (x3 + (1 : Int32))
def lX11_rowCost_9 (S : mSh) : Nat → mMm → Nat → Int32 → Int32 → Option (Int32 × mMm)
  | 0, _, _, _, _ => none
  | n + 1, μ, x0, x2, x3 => (gI S μ x0 11 6).bind fun v2 => if v2 ≤ x3 then (some (x2, μ)) else ((gR S x0 11 5).bind fun v3 => (ldI S μ v3 ((2 : Int32) * x3)).bind fun v4 => if v4 ≤ 0 then ((gR S x0 11 0).bind fun v5 => (ldI S μ v5 (4 : Int32)).bind fun v6 => lX11_rowCost_44 (lX11_rowCost_9 S n) S μ x0 x3 v6 x2) else ((gR S x0 11 0).bind fun v7 => (ldI S μ v7 (5 : Int32)).bind fun v8 => lX11_rowCost_44 (lX11_rowCost_9 S n) S μ x0 x3 v8 x2))
def bX11_rowCost (S : mSh) (μ : mMm) (o : Nat) (p0 : Int32) : Option (Int32 × mMm) := (fX11_packs S μ o p0).bind fun m1 => lX11_rowCost_9 S FU m1 o (0 : Int32) (0 : Int32)
def fX11_rowCost (S : mSh) (μ : mMm) (o : Nat) (p0 : Int32) : Option (Int32 × mMm) := if mok S o 11 = true then bX11_rowCost S μ o p0 else none
abbrev MX11_rowCost : mM := ((yX11_rowCost, cX11_rowCost, 4, (some .int)), (4, 96), (false, false), RX11, eT)
theorem kX11_rowCost : mCalV MX11_rowCost RX11 1 := ⟨q1034, q1035, q5, q1036, by decide +kernel⟩
set_option maxHeartbeats 4000000 in
theorem xX11_rowCost_44 {n0 c0 s0 cx cy : Nat} {S : mSh} {k9 : mMm → Nat → Int32 → Int32 → Option (Int32 × mMm)} (hk9 : ∀ (μ : mMm) (x0 : Nat) (x2 : Int32) (x3 : Int32) (d1 : Option Value), mX MX11_rowCost n0 c0 s0 9 [some (.ref x0), d1, some (.int x2), some (.int x3)] [] (S, μ, cx, cy) (iMI S cx cy) (k9 μ x0 x2 x3)) (μ : mMm) (x0 : Nat) (x3 : Int32) (t0 : Int32) (t1 : Int32) (d1 : Option Value) (d2 : Option Value) : mX MX11_rowCost n0 c0 s0 44 [some (.ref x0), d1, d2, some (.int x3)] [.int t0, .int t1] (S, μ, cx, cy) (iMI S cx cy) (lX11_rowCost_44 k9 S μ x0 x3 t0 t1) := by
  unfold lX11_rowCost_44
  refine x_iadd (pc := 44) dX11_rowCost_44 ?_
  refine x_istore_n (pc := 45) dX11_rowCost_45 (i := 2) rfl (by decide) (l' := [some (.ref x0), (kl d1), some (.int (t1 + t0)), some (.int x3)]) rfl ?_
  refine x_iinc (pc := 46) (v := x3 + (1 : Int32)) dX11_rowCost_46 rfl (by rw [show Int32.ofInt (1) = (1 : Int32) from by decide]) (by decide) (l' := [some (.ref x0), (kl d1), some (.int (t1 + t0)), some (.int (x3 + (1 : Int32)))]) rfl ?_
  refine x_goto (pc := 49) (tgt := 9) dX11_rowCost_49 (by decide) ?_
  exact hk9 μ x0 (t1 + t0) (x3 + (1 : Int32)) _
set_option maxHeartbeats 4000000 in
theorem xX11_rowCost_9 {n0 c0 s0 cx cy : Nat} {S : mSh} : ∀ (n : Nat) (μ : mMm) (x0 : Nat) (x2 : Int32) (x3 : Int32) (d1 : Option Value), mX MX11_rowCost n0 c0 s0 9 [some (.ref x0), d1, some (.int x2), some (.int x3)] [] (S, μ, cx, cy) (iMI S cx cy) (lX11_rowCost_9 S n μ x0 x2 x3) := by
  intro n
  induction n with
  | zero => intros; exact x_none
  | succ n ih =>
    intro μ x0 x2 x3 d1
    unfold lX11_rowCost_9
    refine x_iload_n (pc := 9) dX11_rowCost_9 (i := 3) rfl rfl ?_
    refine x_aload_n (pc := 10) dX11_rowCost_10 (i := 0) rfl rfl ?_
    refine x_gI (pc := 11) (k := 6) fcX11 dX11_rowCost_11 q427 (by decide) rfl (fun v2 => ?_)
    refine x_icmp_ge (pc := 14) (tgt := 52) dX11_rowCost_14 (by decide) ?_ ?_
    · refine x_iload_n (pc := 52) dX11_rowCost_52 (i := 2) rfl rfl ?_
      exact x_iret rfl dX11_rowCost_53 rfl rfl
    · refine x_iload_n (pc := 17) dX11_rowCost_17 (i := 2) rfl rfl ?_
      refine x_aload_n (pc := 18) dX11_rowCost_18 (i := 0) rfl rfl ?_
      refine x_gR (pc := 19) (k := 5) fcX11 dX11_rowCost_19 q139 (by decide) rfl (fun v3 => ?_)
      refine x_iconst (pc := 22) (v := 2) dX11_rowCost_22 (by decide) ?_
      refine x_iload_n (pc := 23) dX11_rowCost_23 (i := 3) rfl rfl ?_
      refine x_imul (pc := 24) dX11_rowCost_24 ?_
      refine x_ldI (pc := 25) dX11_rowCost_25 (fun v4 => ?_)
      refine x_if_le (pc := 26) (tgt := 38) dX11_rowCost_26 (by decide) ?_ ?_
      · refine x_aload_n (pc := 38) dX11_rowCost_38 (i := 0) rfl rfl ?_
        refine x_gR (pc := 39) (k := 0) fcX11 dX11_rowCost_39 q136 (by decide) rfl (fun v5 => ?_)
        refine x_iconst (pc := 42) (v := 4) dX11_rowCost_42 (by decide) ?_
        refine x_ldI (pc := 43) dX11_rowCost_43 (fun v6 => ?_)
        exact xX11_rowCost_44 (k9 := (lX11_rowCost_9 S n)) ih μ x0 x3 v6 x2 _ _
      · refine x_aload_n (pc := 29) dX11_rowCost_29 (i := 0) rfl rfl ?_
        refine x_gR (pc := 30) (k := 0) fcX11 dX11_rowCost_30 q136 (by decide) rfl (fun v7 => ?_)
        refine x_iconst (pc := 33) (v := 5) dX11_rowCost_33 (by decide) ?_
        refine x_ldI (pc := 34) dX11_rowCost_34 (fun v8 => ?_)
        refine x_goto (pc := 35) (tgt := 44) dX11_rowCost_35 (by decide) ?_
        exact xX11_rowCost_44 (k9 := (lX11_rowCost_9 S n)) ih μ x0 x3 v8 x2 _ _
set_option maxHeartbeats 4000000 in
theorem xbX11_rowCost {n0 c0 s0 cx cy : Nat} {S : mSh} {μ : mMm} (o : Nat) (p0 : Int32) : mX MX11_rowCost n0 c0 s0 0 [some (.ref o), some (.int p0), none, none] [] (S, μ, cx, cy) (iMI S cx cy) (bX11_rowCost S μ o p0) := by
  unfold bX11_rowCost
  refine x_aload_n (pc := 0) dX11_rowCost_0 (i := 0) rfl rfl ?_
  refine x_iload_n (pc := 1) dX11_rowCost_1 (i := 1) rfl rfl ?_
  refine x_callVv (pc := 2) (As := [.int p0]) (rest := []) (μf := fun a => a) fcX11 (mX11_packs S μ cx cy o p0) (fun _ => rfl) rfl (fun _ h => ifok h) dX11_rowCost_2 q428 kX11_packs rfl ⟨by decide, by decide⟩ rfl (Nat.le_of_ble_eq_true rfl) (fun m1 => ?_)
  refine x_iconst (pc := 5) (v := 0) dX11_rowCost_5 (by decide) ?_
  refine x_istore_n (pc := 6) dX11_rowCost_6 (i := 2) rfl (by decide) (l' := [some (.ref o), some (.int p0), some (.int (0 : Int32)), none]) rfl ?_
  refine x_iconst (pc := 7) (v := 0) dX11_rowCost_7 (by decide) ?_
  refine x_istore_n (pc := 8) dX11_rowCost_8 (i := 3) rfl (by decide) (l' := [some (.ref o), some (.int p0), some (.int (0 : Int32)), some (.int (0 : Int32))]) rfl ?_
  exact xX11_rowCost_9 FU m1 o (0 : Int32) (0 : Int32) _
theorem mX11_rowCost (S : mSh) (μ : mMm) (cx cy : Nat) (o : Nat) (p0 : Int32) : mMet MX11_rowCost [.ref o, .int p0] (S, μ, cx, cy) (iMI S cx cy) (fX11_rowCost S μ o p0) := mMet.of rfl (by decide) rfl (fun h => by cases h) (Nat.le_of_ble_eq_true rfl) (mX.ck (fun _ => xbX11_rowCost o p0))
/-! SlideMillsModel.costBy(I)I -/
def bX11_costBy (S : mSh) (μ : mMm) (o : Nat) (p0 : Int32) : Option (Int32 × mMm) := (fX11_in p0 (0 : Int32) (2 : Int32)).bind fun v1 => (fX11_asks S μ o v1).bind fun r2 => if r2.1 = 0 then (some ((0 : Int32), r2.2)) else ((fX11_rowCost S r2.2 o p0).bind fun r3 => some (r3.1, r3.2))
def fX11_costBy (S : mSh) (μ : mMm) (o : Nat) (p0 : Int32) : Option (Int32 × mMm) := if mok S o 11 = true then bX11_costBy S μ o p0 else none
abbrev MX11_costBy : mM := ((yX11_costBy, cX11_costBy, 2, (some .int)), (5, 119), (false, false), RX11, eT)
theorem kX11_costBy : mCalV MX11_costBy RX11 1 := ⟨q1030, q1031, q5, q1032, by decide +kernel⟩
set_option maxHeartbeats 4000000 in
theorem xbX11_costBy {n0 c0 s0 cx cy : Nat} {S : mSh} {μ : mMm} (o : Nat) (p0 : Int32) : mX MX11_costBy n0 c0 s0 0 [some (.ref o), some (.int p0)] [] (S, μ, cx, cy) (iMI S cx cy) (bX11_costBy S μ o p0) := by
  unfold bX11_costBy
  refine x_aload_n (pc := 0) dX11_costBy_0 (i := 0) rfl rfl ?_
  refine x_iload_n (pc := 1) dX11_costBy_1 (i := 1) rfl rfl ?_
  refine x_iconst (pc := 2) (v := 0) dX11_costBy_2 (by decide) ?_
  refine x_iconst (pc := 3) (v := 2) dX11_costBy_3 (by decide) ?_
  refine x_callSi (pc := 4) (As := [.int p0, .int (0 : Int32), .int (2 : Int32)]) (rest := [.ref o]) (vx := fun a => a) (μf := fun _ => μ) (mX11_in S μ cx cy p0 (0 : Int32) (2 : Int32)) (fun _ => rfl) rfl dX11_costBy_4 q199 kX11_in rfl ⟨by decide, by decide⟩ rfl (Nat.le_of_ble_eq_true rfl) (fun v1 => ?_)
  refine x_callVi (pc := 7) (As := [.int v1]) (rest := []) (vx := fun a => a.1) (μf := fun a => a.2) fcX11 (mX11_asks S μ cx cy o v1) (fun _ => rfl) rfl (fun _ h => ifok h) dX11_costBy_7 q202 kX11_asks rfl ⟨by decide, by decide⟩ rfl (Nat.le_of_ble_eq_true rfl) (fun r2 => ?_)
  refine x_if_eq (pc := 10) (tgt := 21) dX11_costBy_10 (by decide) ?_ ?_
  · refine x_iconst (pc := 21) (v := 0) dX11_costBy_21 (by decide) ?_
    exact x_iret rfl dX11_costBy_22 rfl rfl
  · refine x_aload_n (pc := 13) dX11_costBy_13 (i := 0) rfl rfl ?_
    refine x_iload_n (pc := 14) dX11_costBy_14 (i := 1) rfl rfl ?_
    refine x_callVi (pc := 15) (As := [.int p0]) (rest := []) (vx := fun a => a.1) (μf := fun a => a.2) fcX11 (mX11_rowCost S r2.2 cx cy o p0) (fun _ => rfl) rfl (fun _ h => ifok h) dX11_costBy_15 q1033 kX11_rowCost rfl ⟨by decide, by decide⟩ rfl (Nat.le_of_ble_eq_true rfl) (fun r3 => ?_)
    refine x_goto (pc := 18) (tgt := 22) dX11_costBy_18 (by decide) ?_
    exact x_iret rfl dX11_costBy_22 rfl rfl
theorem mX11_costBy (S : mSh) (μ : mMm) (cx cy : Nat) (o : Nat) (p0 : Int32) : mMet MX11_costBy [.ref o, .int p0] (S, μ, cx, cy) (iMI S cx cy) (fX11_costBy S μ o p0) := mMet.of rfl (by decide) rfl (fun h => by cases h) (Nat.le_of_ble_eq_true rfl) (mX.ck (fun _ => xbX11_costBy o p0))
/-! SlideMillsModel.tokensBy(I)I -/
def bX11_tokensBy (S : mSh) (μ : mMm) (o : Nat) (p0 : Int32) : Option (Int32 × mMm) := (fX11_in p0 (0 : Int32) (2 : Int32)).bind fun v1 => (fX11_asks S μ o v1).bind fun r2 => if r2.1 = 0 then (some ((0 : Int32), r2.2)) else ((fX11_packs S r2.2 o p0).bind fun m3 => (gI S m3 o 11 6).bind fun v4 => some (v4, m3))
def fX11_tokensBy (S : mSh) (μ : mMm) (o : Nat) (p0 : Int32) : Option (Int32 × mMm) := if mok S o 11 = true then bX11_tokensBy S μ o p0 else none
abbrev MX11_tokensBy : mM := ((yX11_tokensBy, cX11_tokensBy, 2, (some .int)), (4, 96), (false, false), RX11, eT)
theorem kX11_tokensBy : mCalV MX11_tokensBy RX11 1 := ⟨q1045, q1046, q5, q1047, by decide +kernel⟩
set_option maxHeartbeats 4000000 in
theorem xbX11_tokensBy {n0 c0 s0 cx cy : Nat} {S : mSh} {μ : mMm} (o : Nat) (p0 : Int32) : mX MX11_tokensBy n0 c0 s0 0 [some (.ref o), some (.int p0)] [] (S, μ, cx, cy) (iMI S cx cy) (bX11_tokensBy S μ o p0) := by
  unfold bX11_tokensBy
  refine x_aload_n (pc := 0) dX11_tokensBy_0 (i := 0) rfl rfl ?_
  refine x_iload_n (pc := 1) dX11_tokensBy_1 (i := 1) rfl rfl ?_
  refine x_iconst (pc := 2) (v := 0) dX11_tokensBy_2 (by decide) ?_
  refine x_iconst (pc := 3) (v := 2) dX11_tokensBy_3 (by decide) ?_
  refine x_callSi (pc := 4) (As := [.int p0, .int (0 : Int32), .int (2 : Int32)]) (rest := [.ref o]) (vx := fun a => a) (μf := fun _ => μ) (mX11_in S μ cx cy p0 (0 : Int32) (2 : Int32)) (fun _ => rfl) rfl dX11_tokensBy_4 q199 kX11_in rfl ⟨by decide, by decide⟩ rfl (Nat.le_of_ble_eq_true rfl) (fun v1 => ?_)
  refine x_callVi (pc := 7) (As := [.int v1]) (rest := []) (vx := fun a => a.1) (μf := fun a => a.2) fcX11 (mX11_asks S μ cx cy o v1) (fun _ => rfl) rfl (fun _ h => ifok h) dX11_tokensBy_7 q202 kX11_asks rfl ⟨by decide, by decide⟩ rfl (Nat.le_of_ble_eq_true rfl) (fun r2 => ?_)
  refine x_if_ne (pc := 10) (tgt := 15) dX11_tokensBy_10 (by decide) ?_ ?_
  · refine x_iconst (pc := 13) (v := 0) dX11_tokensBy_13 (by decide) ?_
    exact x_iret rfl dX11_tokensBy_14 rfl rfl
  · refine x_aload_n (pc := 15) dX11_tokensBy_15 (i := 0) rfl rfl ?_
    refine x_iload_n (pc := 16) dX11_tokensBy_16 (i := 1) rfl rfl ?_
    refine x_callVv (pc := 17) (As := [.int p0]) (rest := []) (μf := fun a => a) fcX11 (mX11_packs S r2.2 cx cy o p0) (fun _ => rfl) rfl (fun _ h => ifok h) dX11_tokensBy_17 q428 kX11_packs rfl ⟨by decide, by decide⟩ rfl (Nat.le_of_ble_eq_true rfl) (fun m3 => ?_)
    refine x_aload_n (pc := 20) dX11_tokensBy_20 (i := 0) rfl rfl ?_
    refine x_gI (pc := 21) (k := 6) fcX11 dX11_tokensBy_21 q427 (by decide) rfl (fun v4 => ?_)
    exact x_iret rfl dX11_tokensBy_24 rfl rfl
theorem mX11_tokensBy (S : mSh) (μ : mMm) (cx cy : Nat) (o : Nat) (p0 : Int32) : mMet MX11_tokensBy [.ref o, .int p0] (S, μ, cx, cy) (iMI S cx cy) (fX11_tokensBy S μ o p0) := mMet.of rfl (by decide) rfl (fun h => by cases h) (Nat.le_of_ble_eq_true rfl) (mX.ck (fun _ => xbX11_tokensBy o p0))
/-! SlideMillsModel.leastCost()I -/
def bX11_leastCost (S : mSh) (μ : mMm) (o : Nat) : Option (Int32 × mMm) := (gR S o 11 0).bind fun v1 => (ldI S μ v1 (1 : Int32)).bind fun v2 => (fX11_cheapest S μ o v2).bind fun r3 => (fX11_says S r3.2 o r3.1).bind fun r4 => some (r4.1, r4.2)
def fX11_leastCost (S : mSh) (μ : mMm) (o : Nat) : Option (Int32 × mMm) := if mok S o 11 = true then bX11_leastCost S μ o else none
abbrev MX11_leastCost : mM := ((yX11_leastCost, cX11_leastCost, 1, (some .int)), (4, 94), (false, false), RX11, eT)
theorem kX11_leastCost : mCalV MX11_leastCost RX11 0 := ⟨q1054, q1055, q5, q1056, by decide +kernel⟩
set_option maxHeartbeats 4000000 in
theorem xbX11_leastCost {n0 c0 s0 cx cy : Nat} {S : mSh} {μ : mMm} (o : Nat) : mX MX11_leastCost n0 c0 s0 0 [some (.ref o)] [] (S, μ, cx, cy) (iMI S cx cy) (bX11_leastCost S μ o) := by
  unfold bX11_leastCost
  refine x_aload_n (pc := 0) dX11_leastCost_0 (i := 0) rfl rfl ?_
  refine x_aload_n (pc := 1) dX11_leastCost_1 (i := 0) rfl rfl ?_
  refine x_aload_n (pc := 2) dX11_leastCost_2 (i := 0) rfl rfl ?_
  refine x_gR (pc := 3) (k := 0) fcX11 dX11_leastCost_3 q136 (by decide) rfl (fun v1 => ?_)
  refine x_iconst (pc := 6) (v := 1) dX11_leastCost_6 (by decide) ?_
  refine x_ldI (pc := 7) dX11_leastCost_7 (fun v2 => ?_)
  refine x_callVi (pc := 8) (As := [.int v2]) (rest := [.ref o]) (vx := fun a => a.1) (μf := fun a => a.2) fcX11 (mX11_cheapest S μ cx cy o v2) (fun _ => rfl) rfl (fun _ h => ifok h) dX11_leastCost_8 q1057 kX11_cheapest rfl ⟨by decide, by decide⟩ rfl (Nat.le_of_ble_eq_true rfl) (fun r3 => ?_)
  refine x_callVi (pc := 11) (As := [.int r3.1]) (rest := []) (vx := fun a => a.1) (μf := fun a => a.2) fcX11 (mX11_says S r3.2 cx cy o r3.1) (fun _ => rfl) rfl (fun _ h => ifok h) dX11_leastCost_11 q266 kX11_says rfl ⟨by decide, by decide⟩ rfl (Nat.le_of_ble_eq_true rfl) (fun r4 => ?_)
  exact x_iret rfl dX11_leastCost_14 rfl rfl
theorem mX11_leastCost (S : mSh) (μ : mMm) (cx cy : Nat) (o : Nat) : mMet MX11_leastCost [.ref o] (S, μ, cx, cy) (iMI S cx cy) (fX11_leastCost S μ o) := mMet.of rfl (by decide) rfl (fun h => by cases h) (Nat.le_of_ble_eq_true rfl) (mX.ck (fun _ => xbX11_leastCost o))
/-! SlideMillsModel.leastCostFromBeginning()I -/
def bX11_leastCostFromBeginning (S : mSh) (μ : mMm) (o : Nat) : Option (Int32 × mMm) := (fX11_fromBeginning S μ o).bind fun r1 => (fX11_says S r1.2 o r1.1).bind fun r2 => some (r2.1, r2.2)
def fX11_leastCostFromBeginning (S : mSh) (μ : mMm) (o : Nat) : Option (Int32 × mMm) := if mok S o 11 = true then bX11_leastCostFromBeginning S μ o else none
abbrev MX11_leastCostFromBeginning : mM := ((yX11_leastCostFromBeginning, cX11_leastCostFromBeginning, 1, (some .int)), (3, 72), (false, false), RX11, eT)
theorem kX11_leastCostFromBeginning : mCalV MX11_leastCostFromBeginning RX11 0 := ⟨q1075, q1076, q5, q1077, by decide +kernel⟩
set_option maxHeartbeats 4000000 in
theorem xbX11_leastCostFromBeginning {n0 c0 s0 cx cy : Nat} {S : mSh} {μ : mMm} (o : Nat) : mX MX11_leastCostFromBeginning n0 c0 s0 0 [some (.ref o)] [] (S, μ, cx, cy) (iMI S cx cy) (bX11_leastCostFromBeginning S μ o) := by
  unfold bX11_leastCostFromBeginning
  refine x_aload_n (pc := 0) dX11_leastCostFromBeginning_0 (i := 0) rfl rfl ?_
  refine x_aload_n (pc := 1) dX11_leastCostFromBeginning_1 (i := 0) rfl rfl ?_
  refine x_callVi (pc := 2) (As := []) (rest := [.ref o]) (vx := fun a => a.1) (μf := fun a => a.2) fcX11 (mX11_fromBeginning S μ cx cy o) (fun _ => rfl) rfl (fun _ h => ifok h) dX11_leastCostFromBeginning_2 q1078 kX11_fromBeginning rfl ⟨by decide, by decide⟩ rfl (Nat.le_of_ble_eq_true rfl) (fun r1 => ?_)
  refine x_callVi (pc := 5) (As := [.int r1.1]) (rest := []) (vx := fun a => a.1) (μf := fun a => a.2) fcX11 (mX11_says S r1.2 cx cy o r1.1) (fun _ => rfl) rfl (fun _ h => ifok h) dX11_leastCostFromBeginning_5 q266 kX11_says rfl ⟨by decide, by decide⟩ rfl (Nat.le_of_ble_eq_true rfl) (fun r2 => ?_)
  exact x_iret rfl dX11_leastCostFromBeginning_8 rfl rfl
theorem mX11_leastCostFromBeginning (S : mSh) (μ : mMm) (cx cy : Nat) (o : Nat) : mMet MX11_leastCostFromBeginning [.ref o] (S, μ, cx, cy) (iMI S cx cy) (fX11_leastCostFromBeginning S μ o) := mMet.of rfl (by decide) rfl (fun h => by cases h) (Nat.le_of_ble_eq_true rfl) (mX.ck (fun _ => xbX11_leastCostFromBeginning o))
/-! SlideMillsModel.leastCostWith(I)I -/
def bX11_leastCostWith (S : mSh) (μ : mMm) (o : Nat) (p0 : Int32) : Option (Int32 × mMm) := (fX11_in p0 (1 : Int32) (32 : Int32)).bind fun v1 => (fX11_asks S μ o v1).bind fun r2 => if r2.1 = 0 then (some ((0 : Int32), r2.2)) else ((fX11_cheapest S r2.2 o p0).bind fun r3 => some (r3.1, r3.2))
def fX11_leastCostWith (S : mSh) (μ : mMm) (o : Nat) (p0 : Int32) : Option (Int32 × mMm) := if mok S o 11 = true then bX11_leastCostWith S μ o p0 else none
abbrev MX11_leastCostWith : mM := ((yX11_leastCostWith, cX11_leastCostWith, 2, (some .int)), (4, 94), (false, false), RX11, eT)
theorem kX11_leastCostWith : mCalV MX11_leastCostWith RX11 1 := ⟨q1091, q1092, q5, q1093, by decide +kernel⟩
set_option maxHeartbeats 4000000 in
theorem xbX11_leastCostWith {n0 c0 s0 cx cy : Nat} {S : mSh} {μ : mMm} (o : Nat) (p0 : Int32) : mX MX11_leastCostWith n0 c0 s0 0 [some (.ref o), some (.int p0)] [] (S, μ, cx, cy) (iMI S cx cy) (bX11_leastCostWith S μ o p0) := by
  unfold bX11_leastCostWith
  refine x_aload_n (pc := 0) dX11_leastCostWith_0 (i := 0) rfl rfl ?_
  refine x_iload_n (pc := 1) dX11_leastCostWith_1 (i := 1) rfl rfl ?_
  refine x_iconst (pc := 2) (v := 1) dX11_leastCostWith_2 (by decide) ?_
  refine x_bipush (pc := 3) (v := 32) dX11_leastCostWith_3 (by decide) ?_
  refine x_callSi (pc := 5) (As := [.int p0, .int (1 : Int32), .int (32 : Int32)]) (rest := [.ref o]) (vx := fun a => a) (μf := fun _ => μ) (mX11_in S μ cx cy p0 (1 : Int32) (32 : Int32)) (fun _ => rfl) rfl dX11_leastCostWith_5 q199 kX11_in rfl ⟨by decide, by decide⟩ rfl (Nat.le_of_ble_eq_true rfl) (fun v1 => ?_)
  refine x_callVi (pc := 8) (As := [.int v1]) (rest := []) (vx := fun a => a.1) (μf := fun a => a.2) fcX11 (mX11_asks S μ cx cy o v1) (fun _ => rfl) rfl (fun _ h => ifok h) dX11_leastCostWith_8 q202 kX11_asks rfl ⟨by decide, by decide⟩ rfl (Nat.le_of_ble_eq_true rfl) (fun r2 => ?_)
  refine x_if_eq (pc := 11) (tgt := 22) dX11_leastCostWith_11 (by decide) ?_ ?_
  · refine x_iconst (pc := 22) (v := 0) dX11_leastCostWith_22 (by decide) ?_
    exact x_iret rfl dX11_leastCostWith_23 rfl rfl
  · refine x_aload_n (pc := 14) dX11_leastCostWith_14 (i := 0) rfl rfl ?_
    refine x_iload_n (pc := 15) dX11_leastCostWith_15 (i := 1) rfl rfl ?_
    refine x_callVi (pc := 16) (As := [.int p0]) (rest := []) (vx := fun a => a.1) (μf := fun a => a.2) fcX11 (mX11_cheapest S r2.2 cx cy o p0) (fun _ => rfl) rfl (fun _ h => ifok h) dX11_leastCostWith_16 q1057 kX11_cheapest rfl ⟨by decide, by decide⟩ rfl (Nat.le_of_ble_eq_true rfl) (fun r3 => ?_)
    refine x_goto (pc := 19) (tgt := 23) dX11_leastCostWith_19 (by decide) ?_
    exact x_iret rfl dX11_leastCostWith_23 rfl rfl
theorem mX11_leastCostWith (S : mSh) (μ : mMm) (cx cy : Nat) (o : Nat) (p0 : Int32) : mMet MX11_leastCostWith [.ref o, .int p0] (S, μ, cx, cy) (iMI S cx cy) (fX11_leastCostWith S μ o p0) := mMet.of rfl (by decide) rfl (fun h => by cases h) (Nat.le_of_ble_eq_true rfl) (mX.ck (fun _ => xbX11_leastCostWith o p0))
/-! SlideMillsModel.often(I)I -/
def lX11_often_31 (k4 : Nat → Int32 → Int32 → Int32 → Option (Int32)) (S : mSh) (μ : mMm) (x0 : Nat) (x1 : Int32) (x3 : Int32) (t0 : Int32) (t1 : Int32) : Option (Int32) := k4 x0 x1 (t1 + t0) (x3 + (1 : Int32))
def lX11_often_4 (S : mSh) (μ : mMm) : Nat → Nat → Int32 → Int32 → Int32 → Option (Int32)
  | 0, _, _, _, _ => none
  | n + 1, x0, x1, x2, x3 => (gR S x0 11 0).bind fun v1 => (ldI S μ v1 (0 : Int32)).bind fun v2 => if v2 ≤ (x3 + (1 : Int32)) then (some x2) else ((fX11_pairAt S μ x0 x3).bind fun v3 => if v3 = x1 then (lX11_often_31 (lX11_often_4 S μ n) S μ x0 x1 x3 (1 : Int32) x2) else (lX11_often_31 (lX11_often_4 S μ n) S μ x0 x1 x3 (0 : Int32) x2))
def bX11_often (S : mSh) (μ : mMm) (o : Nat) (p0 : Int32) : Option (Int32) := lX11_often_4 S μ FU o p0 (0 : Int32) (0 : Int32)
def fX11_often (S : mSh) (μ : mMm) (o : Nat) (p0 : Int32) : Option (Int32) := if mok S o 11 = true then bX11_often S μ o p0 else none
abbrev MX11_often : mM := ((yX11_often, cX11_often, 4, (some .int)), (1, 21), (false, false), RX11, eT)
theorem kX11_often : mCalV MX11_often RX11 1 := ⟨q1113, q1114, q5, q1115, by decide +kernel⟩
set_option maxHeartbeats 4000000 in
theorem xX11_often_31 {n0 c0 s0 cx cy : Nat} {S : mSh} {μ : mMm} {k4 : Nat → Int32 → Int32 → Int32 → Option (Int32)} (hk4 : ∀ (x0 : Nat) (x1 : Int32) (x2 : Int32) (x3 : Int32), mX MX11_often n0 c0 s0 4 [some (.ref x0), some (.int x1), some (.int x2), some (.int x3)] [] (S, μ, cx, cy) (iPI S μ cx cy) (k4 x0 x1 x2 x3)) (x0 : Nat) (x1 : Int32) (x3 : Int32) (t0 : Int32) (t1 : Int32) (d2 : Option Value) : mX MX11_often n0 c0 s0 31 [some (.ref x0), some (.int x1), d2, some (.int x3)] [.int t0, .int t1] (S, μ, cx, cy) (iPI S μ cx cy) (lX11_often_31 k4 S μ x0 x1 x3 t0 t1) := by
  unfold lX11_often_31
  refine x_iadd (pc := 31) dX11_often_31 ?_
  refine x_istore_n (pc := 32) dX11_often_32 (i := 2) rfl (by decide) (l' := [some (.ref x0), some (.int x1), some (.int (t1 + t0)), some (.int x3)]) rfl ?_
  refine x_iinc (pc := 33) (v := x3 + (1 : Int32)) dX11_often_33 rfl (by rw [show Int32.ofInt (1) = (1 : Int32) from by decide]) (by decide) (l' := [some (.ref x0), some (.int x1), some (.int (t1 + t0)), some (.int (x3 + (1 : Int32)))]) rfl ?_
  refine x_goto (pc := 36) (tgt := 4) dX11_often_36 (by decide) ?_
  exact hk4 x0 x1 (t1 + t0) (x3 + (1 : Int32)) 
set_option maxHeartbeats 4000000 in
theorem xX11_often_4 {n0 c0 s0 cx cy : Nat} {S : mSh} {μ : mMm} : ∀ (n : Nat) (x0 : Nat) (x1 : Int32) (x2 : Int32) (x3 : Int32), mX MX11_often n0 c0 s0 4 [some (.ref x0), some (.int x1), some (.int x2), some (.int x3)] [] (S, μ, cx, cy) (iPI S μ cx cy) (lX11_often_4 S μ n x0 x1 x2 x3) := by
  intro n
  induction n with
  | zero => intros; exact x_none
  | succ n ih =>
    intro x0 x1 x2 x3
    unfold lX11_often_4
    refine x_iload_n (pc := 4) dX11_often_4 (i := 3) rfl rfl ?_
    refine x_iconst (pc := 5) (v := 1) dX11_often_5 (by decide) ?_
    refine x_iadd (pc := 6) dX11_often_6 ?_
    refine x_aload_n (pc := 7) dX11_often_7 (i := 0) rfl rfl ?_
    refine x_gR (pc := 8) (k := 0) fcX11 dX11_often_8 q136 (by decide) rfl (fun v1 => ?_)
    refine x_iconst (pc := 11) (v := 0) dX11_often_11 (by decide) ?_
    refine x_ldI (pc := 12) dX11_often_12 (fun v2 => ?_)
    refine x_icmp_ge (pc := 13) (tgt := 39) dX11_often_13 (by decide) ?_ ?_
    · refine x_iload_n (pc := 39) dX11_often_39 (i := 2) rfl rfl ?_
      exact x_iret rfl dX11_often_40 rfl rfl
    · refine x_iload_n (pc := 16) dX11_often_16 (i := 2) rfl rfl ?_
      refine x_aload_n (pc := 17) dX11_often_17 (i := 0) rfl rfl ?_
      refine x_iload_n (pc := 18) dX11_often_18 (i := 3) rfl rfl ?_
      refine x_callVi (pc := 19) (As := [.int x3]) (rest := [.int x2]) (vx := fun a => a) (μf := fun _ => μ) fcX11 (mX11_pairAt S μ cx cy x0 x3) (fun _ => rfl) rfl (fun _ h => ifok h) dX11_often_19 q1002 kX11_pairAt rfl ⟨by decide, by decide⟩ rfl (Nat.le_of_ble_eq_true rfl) (fun v3 => ?_)
      refine x_iload_n (pc := 22) dX11_often_22 (i := 1) rfl rfl ?_
      refine x_icmp_ne (pc := 23) (tgt := 30) dX11_often_23 (by decide) ?_ ?_
      · refine x_iconst (pc := 26) (v := 1) dX11_often_26 (by decide) ?_
        refine x_goto (pc := 27) (tgt := 31) dX11_often_27 (by decide) ?_
        exact xX11_often_31 (k4 := (lX11_often_4 S μ n)) ih x0 x1 x3 (1 : Int32) x2 _
      · refine x_iconst (pc := 30) (v := 0) dX11_often_30 (by decide) ?_
        exact xX11_often_31 (k4 := (lX11_often_4 S μ n)) ih x0 x1 x3 (0 : Int32) x2 _
set_option maxHeartbeats 4000000 in
theorem xbX11_often {n0 c0 s0 cx cy : Nat} {S : mSh} {μ : mMm} (o : Nat) (p0 : Int32) : mX MX11_often n0 c0 s0 0 [some (.ref o), some (.int p0), none, none] [] (S, μ, cx, cy) (iPI S μ cx cy) (bX11_often S μ o p0) := by
  unfold bX11_often
  refine x_iconst (pc := 0) (v := 0) dX11_often_0 (by decide) ?_
  refine x_istore_n (pc := 1) dX11_often_1 (i := 2) rfl (by decide) (l' := [some (.ref o), some (.int p0), some (.int (0 : Int32)), none]) rfl ?_
  refine x_iconst (pc := 2) (v := 0) dX11_often_2 (by decide) ?_
  refine x_istore_n (pc := 3) dX11_often_3 (i := 3) rfl (by decide) (l' := [some (.ref o), some (.int p0), some (.int (0 : Int32)), some (.int (0 : Int32))]) rfl ?_
  exact xX11_often_4 FU o p0 (0 : Int32) (0 : Int32) 
theorem mX11_often (S : mSh) (μ : mMm) (cx cy : Nat) (o : Nat) (p0 : Int32) : mMet MX11_often [.ref o, .int p0] (S, μ, cx, cy) (iPI S μ cx cy) (fX11_often S μ o p0) := mMet.of rfl (by decide) rfl (fun h => by cases h) (Nat.le_of_ble_eq_true rfl) (mX.ck (fun _ => xbX11_often o p0))
/-! SlideMillsModel.lastOf(I)I -/
def lX11_lastOf_30 (k4 : Nat → Int32 → Int32 → Int32 → Option (Int32)) (S : mSh) (μ : mMm) (x0 : Nat) (x1 : Int32) (x3 : Int32) (t0 : Int32) : Option (Int32) := k4 x0 x1 t0 (x3 + (1 : Int32))
def lX11_lastOf_4 (S : mSh) (μ : mMm) : Nat → Nat → Int32 → Int32 → Int32 → Option (Int32)
  | 0, _, _, _, _ => none
  | n + 1, x0, x1, x2, x3 => (gR S x0 11 0).bind fun v1 => (ldI S μ v1 (0 : Int32)).bind fun v2 => if v2 ≤ (x3 + (1 : Int32)) then (some x2) else ((fX11_pairAt S μ x0 x3).bind fun v3 => if v3 = x1 then (lX11_lastOf_30 (lX11_lastOf_4 S μ n) S μ x0 x1 x3 x3) else (lX11_lastOf_30 (lX11_lastOf_4 S μ n) S μ x0 x1 x3 x2))
def bX11_lastOf (S : mSh) (μ : mMm) (o : Nat) (p0 : Int32) : Option (Int32) := lX11_lastOf_4 S μ FU o p0 (-1 : Int32) (0 : Int32)
def fX11_lastOf (S : mSh) (μ : mMm) (o : Nat) (p0 : Int32) : Option (Int32) := if mok S o 11 = true then bX11_lastOf S μ o p0 else none
abbrev MX11_lastOf : mM := ((yX11_lastOf, cX11_lastOf, 4, (some .int)), (1, 21), (false, false), RX11, eT)
theorem kX11_lastOf : mCalV MX11_lastOf RX11 1 := ⟨q1132, q1133, q5, q1134, by decide +kernel⟩
set_option maxHeartbeats 4000000 in
theorem xX11_lastOf_30 {n0 c0 s0 cx cy : Nat} {S : mSh} {μ : mMm} {k4 : Nat → Int32 → Int32 → Int32 → Option (Int32)} (hk4 : ∀ (x0 : Nat) (x1 : Int32) (x2 : Int32) (x3 : Int32), mX MX11_lastOf n0 c0 s0 4 [some (.ref x0), some (.int x1), some (.int x2), some (.int x3)] [] (S, μ, cx, cy) (iPI S μ cx cy) (k4 x0 x1 x2 x3)) (x0 : Nat) (x1 : Int32) (x3 : Int32) (t0 : Int32) (d2 : Option Value) : mX MX11_lastOf n0 c0 s0 30 [some (.ref x0), some (.int x1), d2, some (.int x3)] [.int t0] (S, μ, cx, cy) (iPI S μ cx cy) (lX11_lastOf_30 k4 S μ x0 x1 x3 t0) := by
  unfold lX11_lastOf_30
  refine x_istore_n (pc := 30) dX11_lastOf_30 (i := 2) rfl (by decide) (l' := [some (.ref x0), some (.int x1), some (.int t0), some (.int x3)]) rfl ?_
  refine x_iinc (pc := 31) (v := x3 + (1 : Int32)) dX11_lastOf_31 rfl (by rw [show Int32.ofInt (1) = (1 : Int32) from by decide]) (by decide) (l' := [some (.ref x0), some (.int x1), some (.int t0), some (.int (x3 + (1 : Int32)))]) rfl ?_
  refine x_goto (pc := 34) (tgt := 4) dX11_lastOf_34 (by decide) ?_
  exact hk4 x0 x1 t0 (x3 + (1 : Int32)) 
set_option maxHeartbeats 4000000 in
theorem xX11_lastOf_4 {n0 c0 s0 cx cy : Nat} {S : mSh} {μ : mMm} : ∀ (n : Nat) (x0 : Nat) (x1 : Int32) (x2 : Int32) (x3 : Int32), mX MX11_lastOf n0 c0 s0 4 [some (.ref x0), some (.int x1), some (.int x2), some (.int x3)] [] (S, μ, cx, cy) (iPI S μ cx cy) (lX11_lastOf_4 S μ n x0 x1 x2 x3) := by
  intro n
  induction n with
  | zero => intros; exact x_none
  | succ n ih =>
    intro x0 x1 x2 x3
    unfold lX11_lastOf_4
    refine x_iload_n (pc := 4) dX11_lastOf_4 (i := 3) rfl rfl ?_
    refine x_iconst (pc := 5) (v := 1) dX11_lastOf_5 (by decide) ?_
    refine x_iadd (pc := 6) dX11_lastOf_6 ?_
    refine x_aload_n (pc := 7) dX11_lastOf_7 (i := 0) rfl rfl ?_
    refine x_gR (pc := 8) (k := 0) fcX11 dX11_lastOf_8 q136 (by decide) rfl (fun v1 => ?_)
    refine x_iconst (pc := 11) (v := 0) dX11_lastOf_11 (by decide) ?_
    refine x_ldI (pc := 12) dX11_lastOf_12 (fun v2 => ?_)
    refine x_icmp_ge (pc := 13) (tgt := 37) dX11_lastOf_13 (by decide) ?_ ?_
    · refine x_iload_n (pc := 37) dX11_lastOf_37 (i := 2) rfl rfl ?_
      exact x_iret rfl dX11_lastOf_38 rfl rfl
    · refine x_aload_n (pc := 16) dX11_lastOf_16 (i := 0) rfl rfl ?_
      refine x_iload_n (pc := 17) dX11_lastOf_17 (i := 3) rfl rfl ?_
      refine x_callVi (pc := 18) (As := [.int x3]) (rest := []) (vx := fun a => a) (μf := fun _ => μ) fcX11 (mX11_pairAt S μ cx cy x0 x3) (fun _ => rfl) rfl (fun _ h => ifok h) dX11_lastOf_18 q1002 kX11_pairAt rfl ⟨by decide, by decide⟩ rfl (Nat.le_of_ble_eq_true rfl) (fun v3 => ?_)
      refine x_iload_n (pc := 21) dX11_lastOf_21 (i := 1) rfl rfl ?_
      refine x_icmp_ne (pc := 22) (tgt := 29) dX11_lastOf_22 (by decide) ?_ ?_
      · refine x_iload_n (pc := 25) dX11_lastOf_25 (i := 3) rfl rfl ?_
        refine x_goto (pc := 26) (tgt := 30) dX11_lastOf_26 (by decide) ?_
        exact xX11_lastOf_30 (k4 := (lX11_lastOf_4 S μ n)) ih x0 x1 x3 x3 _
      · refine x_iload_n (pc := 29) dX11_lastOf_29 (i := 2) rfl rfl ?_
        exact xX11_lastOf_30 (k4 := (lX11_lastOf_4 S μ n)) ih x0 x1 x3 x2 _
set_option maxHeartbeats 4000000 in
theorem xbX11_lastOf {n0 c0 s0 cx cy : Nat} {S : mSh} {μ : mMm} (o : Nat) (p0 : Int32) : mX MX11_lastOf n0 c0 s0 0 [some (.ref o), some (.int p0), none, none] [] (S, μ, cx, cy) (iPI S μ cx cy) (bX11_lastOf S μ o p0) := by
  unfold bX11_lastOf
  refine x_iconst (pc := 0) (v := -1) dX11_lastOf_0 (by decide) ?_
  refine x_istore_n (pc := 1) dX11_lastOf_1 (i := 2) rfl (by decide) (l' := [some (.ref o), some (.int p0), some (.int (-1 : Int32)), none]) rfl ?_
  refine x_iconst (pc := 2) (v := 0) dX11_lastOf_2 (by decide) ?_
  refine x_istore_n (pc := 3) dX11_lastOf_3 (i := 3) rfl (by decide) (l' := [some (.ref o), some (.int p0), some (.int (-1 : Int32)), some (.int (0 : Int32))]) rfl ?_
  exact xX11_lastOf_4 FU o p0 (-1 : Int32) (0 : Int32) 
theorem mX11_lastOf (S : mSh) (μ : mMm) (cx cy : Nat) (o : Nat) (p0 : Int32) : mMet MX11_lastOf [.ref o, .int p0] (S, μ, cx, cy) (iPI S μ cx cy) (fX11_lastOf S μ o p0) := mMet.of rfl (by decide) rfl (fun h => by cases h) (Nat.le_of_ble_eq_true rfl) (mX.ck (fun _ => xbX11_lastOf o p0))
/-! SlideMillsModel.pairs(I)I -/
def bX11_pairs (S : mSh) (μ : mMm) (o : Nat) (p0 : Int32) : Option (Int32 × mMm) := (fX11_in p0 (0 : Int32) (15 : Int32)).bind fun v1 => (fX11_asks S μ o v1).bind fun r2 => if r2.1 = 0 then (some ((0 : Int32), r2.2)) else ((fX11_often S r2.2 o p0).bind fun v3 => some (v3, r2.2))
def fX11_pairs (S : mSh) (μ : mMm) (o : Nat) (p0 : Int32) : Option (Int32 × mMm) := if mok S o 11 = true then bX11_pairs S μ o p0 else none
abbrev MX11_pairs : mM := ((yX11_pairs, cX11_pairs, 2, (some .int)), (2, 44), (false, false), RX11, eT)
theorem kX11_pairs : mCalV MX11_pairs RX11 1 := ⟨q1109, q1110, q5, q1111, by decide +kernel⟩
set_option maxHeartbeats 4000000 in
theorem xbX11_pairs {n0 c0 s0 cx cy : Nat} {S : mSh} {μ : mMm} (o : Nat) (p0 : Int32) : mX MX11_pairs n0 c0 s0 0 [some (.ref o), some (.int p0)] [] (S, μ, cx, cy) (iMI S cx cy) (bX11_pairs S μ o p0) := by
  unfold bX11_pairs
  refine x_aload_n (pc := 0) dX11_pairs_0 (i := 0) rfl rfl ?_
  refine x_iload_n (pc := 1) dX11_pairs_1 (i := 1) rfl rfl ?_
  refine x_iconst (pc := 2) (v := 0) dX11_pairs_2 (by decide) ?_
  refine x_bipush (pc := 3) (v := 15) dX11_pairs_3 (by decide) ?_
  refine x_callSi (pc := 5) (As := [.int p0, .int (0 : Int32), .int (15 : Int32)]) (rest := [.ref o]) (vx := fun a => a) (μf := fun _ => μ) (mX11_in S μ cx cy p0 (0 : Int32) (15 : Int32)) (fun _ => rfl) rfl dX11_pairs_5 q199 kX11_in rfl ⟨by decide, by decide⟩ rfl (Nat.le_of_ble_eq_true rfl) (fun v1 => ?_)
  refine x_callVi (pc := 8) (As := [.int v1]) (rest := []) (vx := fun a => a.1) (μf := fun a => a.2) fcX11 (mX11_asks S μ cx cy o v1) (fun _ => rfl) rfl (fun _ h => ifok h) dX11_pairs_8 q202 kX11_asks rfl ⟨by decide, by decide⟩ rfl (Nat.le_of_ble_eq_true rfl) (fun r2 => ?_)
  refine x_if_eq (pc := 11) (tgt := 22) dX11_pairs_11 (by decide) ?_ ?_
  · refine x_iconst (pc := 22) (v := 0) dX11_pairs_22 (by decide) ?_
    exact x_iret rfl dX11_pairs_23 rfl rfl
  · refine x_aload_n (pc := 14) dX11_pairs_14 (i := 0) rfl rfl ?_
    refine x_iload_n (pc := 15) dX11_pairs_15 (i := 1) rfl rfl ?_
    refine x_callVi (pc := 16) (As := [.int p0]) (rest := []) (vx := fun a => a) (μf := fun _ => r2.2) fcX11 (mX11_often S r2.2 cx cy o p0) (fun _ => rfl) rfl (fun _ h => ifok h) dX11_pairs_16 q1112 kX11_often rfl ⟨by decide, by decide⟩ rfl (Nat.le_of_ble_eq_true rfl) (fun v3 => ?_)
    refine x_goto (pc := 19) (tgt := 23) dX11_pairs_19 (by decide) ?_
    exact x_iret rfl dX11_pairs_23 rfl rfl
theorem mX11_pairs (S : mSh) (μ : mMm) (cx cy : Nat) (o : Nat) (p0 : Int32) : mMet MX11_pairs [.ref o, .int p0] (S, μ, cx, cy) (iMI S cx cy) (fX11_pairs S μ o p0) := mMet.of rfl (by decide) rfl (fun h => by cases h) (Nat.le_of_ble_eq_true rfl) (mX.ck (fun _ => xbX11_pairs o p0))
/-! SlideMillsModel.lastPlaceOf(I)I -/
def bX11_lastPlaceOf (S : mSh) (μ : mMm) (o : Nat) (p0 : Int32) : Option (Int32 × mMm) := (fX11_in p0 (0 : Int32) (15 : Int32)).bind fun v1 => (fX11_asks S μ o v1).bind fun r2 => if r2.1 = 0 then (some ((0 : Int32), r2.2)) else ((fX11_lastOf S r2.2 o p0).bind fun v3 => some (v3, r2.2))
def fX11_lastPlaceOf (S : mSh) (μ : mMm) (o : Nat) (p0 : Int32) : Option (Int32 × mMm) := if mok S o 11 = true then bX11_lastPlaceOf S μ o p0 else none
abbrev MX11_lastPlaceOf : mM := ((yX11_lastPlaceOf, cX11_lastPlaceOf, 2, (some .int)), (2, 44), (false, false), RX11, eT)
theorem kX11_lastPlaceOf : mCalV MX11_lastPlaceOf RX11 1 := ⟨q1128, q1129, q5, q1130, by decide +kernel⟩
set_option maxHeartbeats 4000000 in
theorem xbX11_lastPlaceOf {n0 c0 s0 cx cy : Nat} {S : mSh} {μ : mMm} (o : Nat) (p0 : Int32) : mX MX11_lastPlaceOf n0 c0 s0 0 [some (.ref o), some (.int p0)] [] (S, μ, cx, cy) (iMI S cx cy) (bX11_lastPlaceOf S μ o p0) := by
  unfold bX11_lastPlaceOf
  refine x_aload_n (pc := 0) dX11_lastPlaceOf_0 (i := 0) rfl rfl ?_
  refine x_iload_n (pc := 1) dX11_lastPlaceOf_1 (i := 1) rfl rfl ?_
  refine x_iconst (pc := 2) (v := 0) dX11_lastPlaceOf_2 (by decide) ?_
  refine x_bipush (pc := 3) (v := 15) dX11_lastPlaceOf_3 (by decide) ?_
  refine x_callSi (pc := 5) (As := [.int p0, .int (0 : Int32), .int (15 : Int32)]) (rest := [.ref o]) (vx := fun a => a) (μf := fun _ => μ) (mX11_in S μ cx cy p0 (0 : Int32) (15 : Int32)) (fun _ => rfl) rfl dX11_lastPlaceOf_5 q199 kX11_in rfl ⟨by decide, by decide⟩ rfl (Nat.le_of_ble_eq_true rfl) (fun v1 => ?_)
  refine x_callVi (pc := 8) (As := [.int v1]) (rest := []) (vx := fun a => a.1) (μf := fun a => a.2) fcX11 (mX11_asks S μ cx cy o v1) (fun _ => rfl) rfl (fun _ h => ifok h) dX11_lastPlaceOf_8 q202 kX11_asks rfl ⟨by decide, by decide⟩ rfl (Nat.le_of_ble_eq_true rfl) (fun r2 => ?_)
  refine x_if_eq (pc := 11) (tgt := 22) dX11_lastPlaceOf_11 (by decide) ?_ ?_
  · refine x_iconst (pc := 22) (v := 0) dX11_lastPlaceOf_22 (by decide) ?_
    exact x_iret rfl dX11_lastPlaceOf_23 rfl rfl
  · refine x_aload_n (pc := 14) dX11_lastPlaceOf_14 (i := 0) rfl rfl ?_
    refine x_iload_n (pc := 15) dX11_lastPlaceOf_15 (i := 1) rfl rfl ?_
    refine x_callVi (pc := 16) (As := [.int p0]) (rest := []) (vx := fun a => a) (μf := fun _ => r2.2) fcX11 (mX11_lastOf S r2.2 cx cy o p0) (fun _ => rfl) rfl (fun _ h => ifok h) dX11_lastPlaceOf_16 q1131 kX11_lastOf rfl ⟨by decide, by decide⟩ rfl (Nat.le_of_ble_eq_true rfl) (fun v3 => ?_)
    refine x_goto (pc := 19) (tgt := 23) dX11_lastPlaceOf_19 (by decide) ?_
    exact x_iret rfl dX11_lastPlaceOf_23 rfl rfl
theorem mX11_lastPlaceOf (S : mSh) (μ : mMm) (cx cy : Nat) (o : Nat) (p0 : Int32) : mMet MX11_lastPlaceOf [.ref o, .int p0] (S, μ, cx, cy) (iMI S cx cy) (fX11_lastPlaceOf S μ o p0) := mMet.of rfl (by decide) rfl (fun h => by cases h) (Nat.le_of_ble_eq_true rfl) (mX.ck (fun _ => xbX11_lastPlaceOf o p0))
/-! SlideMillsModel.frequent()I -/
def lX11_frequent_28 (k4 : Nat → Int32 → Int32 → Option (Int32)) (S : mSh) (μ : mMm) (x0 : Nat) (x2 : Int32) (t0 : Int32) : Option (Int32) := k4 x0 t0 (x2 + (1 : Int32))
def lX11_frequent_4 (S : mSh) (μ : mMm) : Nat → Nat → Int32 → Int32 → Option (Int32)
  | 0, _, _, _ => none
  | n + 1, x0, x1, x2 => if (16 : Int32) ≤ x2 then (some x1) else ((fX11_often S μ x0 x2).bind fun v1 => (fX11_often S μ x0 x1).bind fun v2 => if v1 ≤ v2 then (lX11_frequent_28 (lX11_frequent_4 S μ n) S μ x0 x2 x1) else (lX11_frequent_28 (lX11_frequent_4 S μ n) S μ x0 x2 x2))
def bX11_frequent (S : mSh) (μ : mMm) (o : Nat) : Option (Int32) := lX11_frequent_4 S μ FU o (0 : Int32) (1 : Int32)
def fX11_frequent (S : mSh) (μ : mMm) (o : Nat) : Option (Int32) := if mok S o 11 = true then bX11_frequent S μ o else none
abbrev MX11_frequent : mM := ((yX11_frequent, cX11_frequent, 3, (some .int)), (2, 44), (false, false), RX11, eT)
theorem kX11_frequent : mCalV MX11_frequent RX11 0 := ⟨q1151, q1152, q5, q1153, by decide +kernel⟩
set_option maxHeartbeats 4000000 in
theorem xX11_frequent_28 {n0 c0 s0 cx cy : Nat} {S : mSh} {μ : mMm} {k4 : Nat → Int32 → Int32 → Option (Int32)} (hk4 : ∀ (x0 : Nat) (x1 : Int32) (x2 : Int32), mX MX11_frequent n0 c0 s0 4 [some (.ref x0), some (.int x1), some (.int x2)] [] (S, μ, cx, cy) (iPI S μ cx cy) (k4 x0 x1 x2)) (x0 : Nat) (x2 : Int32) (t0 : Int32) (d1 : Option Value) : mX MX11_frequent n0 c0 s0 28 [some (.ref x0), d1, some (.int x2)] [.int t0] (S, μ, cx, cy) (iPI S μ cx cy) (lX11_frequent_28 k4 S μ x0 x2 t0) := by
  unfold lX11_frequent_28
  refine x_istore_n (pc := 28) dX11_frequent_28 (i := 1) rfl (by decide) (l' := [some (.ref x0), some (.int t0), some (.int x2)]) rfl ?_
  refine x_iinc (pc := 29) (v := x2 + (1 : Int32)) dX11_frequent_29 rfl (by rw [show Int32.ofInt (1) = (1 : Int32) from by decide]) (by decide) (l' := [some (.ref x0), some (.int t0), some (.int (x2 + (1 : Int32)))]) rfl ?_
  refine x_goto (pc := 32) (tgt := 4) dX11_frequent_32 (by decide) ?_
  exact hk4 x0 t0 (x2 + (1 : Int32)) 
set_option maxHeartbeats 4000000 in
theorem xX11_frequent_4 {n0 c0 s0 cx cy : Nat} {S : mSh} {μ : mMm} : ∀ (n : Nat) (x0 : Nat) (x1 : Int32) (x2 : Int32), mX MX11_frequent n0 c0 s0 4 [some (.ref x0), some (.int x1), some (.int x2)] [] (S, μ, cx, cy) (iPI S μ cx cy) (lX11_frequent_4 S μ n x0 x1 x2) := by
  intro n
  induction n with
  | zero => intros; exact x_none
  | succ n ih =>
    intro x0 x1 x2
    unfold lX11_frequent_4
    refine x_iload_n (pc := 4) dX11_frequent_4 (i := 2) rfl rfl ?_
    refine x_bipush (pc := 5) (v := 16) dX11_frequent_5 (by decide) ?_
    refine x_icmp_ge (pc := 7) (tgt := 35) dX11_frequent_7 (by decide) ?_ ?_
    · refine x_iload_n (pc := 35) dX11_frequent_35 (i := 1) rfl rfl ?_
      exact x_iret rfl dX11_frequent_36 rfl rfl
    · refine x_aload_n (pc := 10) dX11_frequent_10 (i := 0) rfl rfl ?_
      refine x_iload_n (pc := 11) dX11_frequent_11 (i := 2) rfl rfl ?_
      refine x_callVi (pc := 12) (As := [.int x2]) (rest := []) (vx := fun a => a) (μf := fun _ => μ) fcX11 (mX11_often S μ cx cy x0 x2) (fun _ => rfl) rfl (fun _ h => ifok h) dX11_frequent_12 q1112 kX11_often rfl ⟨by decide, by decide⟩ rfl (Nat.le_of_ble_eq_true rfl) (fun v1 => ?_)
      refine x_aload_n (pc := 15) dX11_frequent_15 (i := 0) rfl rfl ?_
      refine x_iload_n (pc := 16) dX11_frequent_16 (i := 1) rfl rfl ?_
      refine x_callVi (pc := 17) (As := [.int x1]) (rest := [.int v1]) (vx := fun a => a) (μf := fun _ => μ) fcX11 (mX11_often S μ cx cy x0 x1) (fun _ => rfl) rfl (fun _ h => ifok h) dX11_frequent_17 q1112 kX11_often rfl ⟨by decide, by decide⟩ rfl (Nat.le_of_ble_eq_true rfl) (fun v2 => ?_)
      refine x_icmp_le (pc := 20) (tgt := 27) dX11_frequent_20 (by decide) ?_ ?_
      · refine x_iload_n (pc := 27) dX11_frequent_27 (i := 1) rfl rfl ?_
        exact xX11_frequent_28 (k4 := (lX11_frequent_4 S μ n)) ih x0 x2 x1 _
      · refine x_iload_n (pc := 23) dX11_frequent_23 (i := 2) rfl rfl ?_
        refine x_goto (pc := 24) (tgt := 28) dX11_frequent_24 (by decide) ?_
        exact xX11_frequent_28 (k4 := (lX11_frequent_4 S μ n)) ih x0 x2 x2 _
set_option maxHeartbeats 4000000 in
theorem xbX11_frequent {n0 c0 s0 cx cy : Nat} {S : mSh} {μ : mMm} (o : Nat) : mX MX11_frequent n0 c0 s0 0 [some (.ref o), none, none] [] (S, μ, cx, cy) (iPI S μ cx cy) (bX11_frequent S μ o) := by
  unfold bX11_frequent
  refine x_iconst (pc := 0) (v := 0) dX11_frequent_0 (by decide) ?_
  refine x_istore_n (pc := 1) dX11_frequent_1 (i := 1) rfl (by decide) (l' := [some (.ref o), some (.int (0 : Int32)), none]) rfl ?_
  refine x_iconst (pc := 2) (v := 1) dX11_frequent_2 (by decide) ?_
  refine x_istore_n (pc := 3) dX11_frequent_3 (i := 2) rfl (by decide) (l' := [some (.ref o), some (.int (0 : Int32)), some (.int (1 : Int32))]) rfl ?_
  exact xX11_frequent_4 FU o (0 : Int32) (1 : Int32) 
theorem mX11_frequent (S : mSh) (μ : mMm) (cx cy : Nat) (o : Nat) : mMet MX11_frequent [.ref o] (S, μ, cx, cy) (iPI S μ cx cy) (fX11_frequent S μ o) := mMet.of rfl (by decide) rfl (fun h => by cases h) (Nat.le_of_ble_eq_true rfl) (mX.ck (fun _ => xbX11_frequent o))
/-! SlideMillsModel.mostFrequent()I -/
def lX11_mostFrequent_16 (S : mSh) (μ : mMm) (x0 : Nat) (t0 : Int32) (t1 : Nat) : Option (Int32 × mMm) := (fX11_asks S μ t1 t0).bind fun r3 => if r3.1 = 0 then (some ((0 : Int32), r3.2)) else ((fX11_frequent S r3.2 x0).bind fun v4 => some (v4, r3.2))
def bX11_mostFrequent (S : mSh) (μ : mMm) (o : Nat) : Option (Int32 × mMm) := (gR S o 11 0).bind fun v1 => (ldI S μ v1 (0 : Int32)).bind fun v2 => if v2 ≤ (1 : Int32) then (lX11_mostFrequent_16 S μ o (0 : Int32) o) else (lX11_mostFrequent_16 S μ o (1 : Int32) o)
def fX11_mostFrequent (S : mSh) (μ : mMm) (o : Nat) : Option (Int32 × mMm) := if mok S o 11 = true then bX11_mostFrequent S μ o else none
abbrev MX11_mostFrequent : mM := ((yX11_mostFrequent, cX11_mostFrequent, 1, (some .int)), (3, 66), (false, false), RX11, eT)
theorem kX11_mostFrequent : mCalV MX11_mostFrequent RX11 0 := ⟨q1147, q1148, q5, q1149, by decide +kernel⟩
set_option maxHeartbeats 4000000 in
theorem xX11_mostFrequent_16 {n0 c0 s0 cx cy : Nat} {S : mSh} (μ : mMm) (x0 : Nat) (t0 : Int32) (t1 : Nat) : mX MX11_mostFrequent n0 c0 s0 16 [some (.ref x0)] [.int t0, .ref t1] (S, μ, cx, cy) (iMI S cx cy) (lX11_mostFrequent_16 S μ x0 t0 t1) := by
  unfold lX11_mostFrequent_16
  refine x_callVi (pc := 16) (As := [.int t0]) (rest := []) (vx := fun a => a.1) (μf := fun a => a.2) fcX11 (mX11_asks S μ cx cy t1 t0) (fun _ => rfl) rfl (fun _ h => ifok h) dX11_mostFrequent_16 q202 kX11_asks rfl ⟨by decide, by decide⟩ rfl (Nat.le_of_ble_eq_true rfl) (fun r3 => ?_)
  refine x_if_eq (pc := 19) (tgt := 29) dX11_mostFrequent_19 (by decide) ?_ ?_
  · refine x_iconst (pc := 29) (v := 0) dX11_mostFrequent_29 (by decide) ?_
    exact x_iret rfl dX11_mostFrequent_30 rfl rfl
  · refine x_aload_n (pc := 22) dX11_mostFrequent_22 (i := 0) rfl rfl ?_
    refine x_callVi (pc := 23) (As := []) (rest := []) (vx := fun a => a) (μf := fun _ => r3.2) fcX11 (mX11_frequent S r3.2 cx cy x0) (fun _ => rfl) rfl (fun _ h => ifok h) dX11_mostFrequent_23 q1150 kX11_frequent rfl ⟨by decide, by decide⟩ rfl (Nat.le_of_ble_eq_true rfl) (fun v4 => ?_)
    refine x_goto (pc := 26) (tgt := 30) dX11_mostFrequent_26 (by decide) ?_
    exact x_iret rfl dX11_mostFrequent_30 rfl rfl
set_option maxHeartbeats 4000000 in
theorem xbX11_mostFrequent {n0 c0 s0 cx cy : Nat} {S : mSh} {μ : mMm} (o : Nat) : mX MX11_mostFrequent n0 c0 s0 0 [some (.ref o)] [] (S, μ, cx, cy) (iMI S cx cy) (bX11_mostFrequent S μ o) := by
  unfold bX11_mostFrequent
  refine x_aload_n (pc := 0) dX11_mostFrequent_0 (i := 0) rfl rfl ?_
  refine x_aload_n (pc := 1) dX11_mostFrequent_1 (i := 0) rfl rfl ?_
  refine x_gR (pc := 2) (k := 0) fcX11 dX11_mostFrequent_2 q136 (by decide) rfl (fun v1 => ?_)
  refine x_iconst (pc := 5) (v := 0) dX11_mostFrequent_5 (by decide) ?_
  refine x_ldI (pc := 6) dX11_mostFrequent_6 (fun v2 => ?_)
  refine x_iconst (pc := 7) (v := 1) dX11_mostFrequent_7 (by decide) ?_
  refine x_icmp_le (pc := 8) (tgt := 15) dX11_mostFrequent_8 (by decide) ?_ ?_
  · refine x_iconst (pc := 15) (v := 0) dX11_mostFrequent_15 (by decide) ?_
    exact xX11_mostFrequent_16 μ o (0 : Int32) o 
  · refine x_iconst (pc := 11) (v := 1) dX11_mostFrequent_11 (by decide) ?_
    refine x_goto (pc := 12) (tgt := 16) dX11_mostFrequent_12 (by decide) ?_
    exact xX11_mostFrequent_16 μ o (1 : Int32) o 
theorem mX11_mostFrequent (S : mSh) (μ : mMm) (cx cy : Nat) (o : Nat) : mMet MX11_mostFrequent [.ref o] (S, μ, cx, cy) (iMI S cx cy) (fX11_mostFrequent S μ o) := mMet.of rfl (by decide) rfl (fun h => by cases h) (Nat.le_of_ble_eq_true rfl) (mX.ck (fun _ => xbX11_mostFrequent o))
/-! SlideMillsModel.share()D -/
def bX11_share (S : mSh) (μ : mMm) (o : Nat) : Option (UInt64) := (gR S o 11 0).bind fun v1 => (ldI S μ v1 (6 : Int32)).bind fun v2 => if v2 = 0 then (some FP.dconst1) else ((fX11_cost S μ o).bind fun v3 => (gR S o 11 0).bind fun v4 => (ldI S μ v4 (4 : Int32)).bind fun v5 => (fX11_stands S μ o).bind fun v6 => (if vfn (FP.ddiv (FP.i2d v3) (FP.i2d (v5 * v6))) = true then (some (FP.ddiv (FP.i2d v3) (FP.i2d (v5 * v6)))) else none))
def fX11_share (S : mSh) (μ : mMm) (o : Nat) : Option (UInt64) := if mok S o 11 = true then bX11_share S μ o else none
abbrev MX11_share : mM := ((yX11_share, cX11_share, 1, (some .double)), (3, 64), (false, false), RX11, eT)
theorem kX11_share : mCalV MX11_share RX11 0 := ⟨q1163, q1164, q5, q1165, by decide +kernel⟩
set_option maxHeartbeats 4000000 in
theorem xbX11_share {n0 c0 s0 cx cy : Nat} {S : mSh} {μ : mMm} (o : Nat) : mX MX11_share n0 c0 s0 0 [some (.ref o)] [] (S, μ, cx, cy) (iPD S μ cx cy) (bX11_share S μ o) := by
  unfold bX11_share
  refine x_aload_n (pc := 0) dX11_share_0 (i := 0) rfl rfl ?_
  refine x_gR (pc := 1) (k := 0) fcX11 dX11_share_1 q136 (by decide) rfl (fun v1 => ?_)
  refine x_bipush (pc := 4) (v := 6) dX11_share_4 (by decide) ?_
  refine x_ldI (pc := 6) dX11_share_6 (fun v2 => ?_)
  refine x_if_ne (pc := 7) (tgt := 14) dX11_share_7 (by decide) ?_ ?_
  · refine x_dconst1 (pc := 10) dX11_share_10 ?_
    refine x_goto (pc := 11) (tgt := 32) dX11_share_11 (by decide) ?_
    exact x_dret rfl dX11_share_32 rfl
  · refine x_aload_n (pc := 14) dX11_share_14 (i := 0) rfl rfl ?_
    refine x_callVi (pc := 15) (As := []) (rest := []) (vx := fun a => a) (μf := fun _ => μ) fcX11 (mX11_cost S μ cx cy o) (fun _ => rfl) rfl (fun _ h => ifok h) dX11_share_15 q901 kX11_cost rfl ⟨by decide, by decide⟩ rfl (Nat.le_of_ble_eq_true rfl) (fun v3 => ?_)
    refine x_i2d (pc := 18) dX11_share_18 ?_
    refine x_aload_n (pc := 19) dX11_share_19 (i := 0) rfl rfl ?_
    refine x_gR (pc := 20) (k := 0) fcX11 dX11_share_20 q136 (by decide) rfl (fun v4 => ?_)
    refine x_iconst (pc := 23) (v := 4) dX11_share_23 (by decide) ?_
    refine x_ldI (pc := 24) dX11_share_24 (fun v5 => ?_)
    refine x_aload_n (pc := 25) dX11_share_25 (i := 0) rfl rfl ?_
    refine x_callVi (pc := 26) (As := []) (rest := [.int v5, .double (FP.i2d v3)]) (vx := fun a => a) (μf := fun _ => μ) fcX11 (mX11_stands S μ cx cy o) (fun _ => rfl) rfl (fun _ h => ifok h) dX11_share_26 q918 kX11_stands rfl ⟨by decide, by decide⟩ rfl (Nat.le_of_ble_eq_true rfl) (fun v6 => ?_)
    refine x_imul (pc := 29) dX11_share_29 ?_
    refine x_i2d (pc := 30) dX11_share_30 ?_
    refine x_ddiv (pc := 31) dX11_share_31 ?_
    exact x_dret rfl dX11_share_32 rfl
theorem mX11_share (S : mSh) (μ : mMm) (cx cy : Nat) (o : Nat) : mMet MX11_share [.ref o] (S, μ, cx, cy) (iPD S μ cx cy) (fX11_share S μ o) := mMet.of rfl (by decide) rfl (fun h => by cases h) (Nat.le_of_ble_eq_true rfl) (mX.ck (fun _ => xbX11_share o))
/-! SlideMillsModel.packedShare()D -/
def bX11_packedShare (S : mSh) (μ : mMm) (o : Nat) : Option (UInt64 × mMm) := (pI S μ o 11 11 (0 : Int32)).bind fun m1 => (fX11_share S m1 o).bind fun v2 => some (v2, m1)
def fX11_packedShare (S : mSh) (μ : mMm) (o : Nat) : Option (UInt64 × mMm) := if mok S o 11 = true then bX11_packedShare S μ o else none
abbrev MX11_packedShare : mM := ((yX11_packedShare, cX11_packedShare, 1, (some .double)), (4, 84), (false, false), RX11, eT)
theorem kX11_packedShare : mCalV MX11_packedShare RX11 0 := ⟨q1159, q1160, q5, q1161, by decide +kernel⟩
set_option maxHeartbeats 4000000 in
theorem xbX11_packedShare {n0 c0 s0 cx cy : Nat} {S : mSh} {μ : mMm} (o : Nat) : mX MX11_packedShare n0 c0 s0 0 [some (.ref o)] [] (S, μ, cx, cy) (iMD S cx cy) (bX11_packedShare S μ o) := by
  unfold bX11_packedShare
  refine x_aload_n (pc := 0) dX11_packedShare_0 (i := 0) rfl rfl ?_
  refine x_iconst (pc := 1) (v := 0) dX11_packedShare_1 (by decide) ?_
  refine x_pI (pc := 2) (k := 11) fcX11 dX11_packedShare_2 q206 (by decide) rfl rfl rfl rfl (fun m1 => ?_)
  refine x_aload_n (pc := 5) dX11_packedShare_5 (i := 0) rfl rfl ?_
  refine x_callVd (pc := 6) (As := []) (rest := []) (vx := fun a => a) (μf := fun _ => m1) fcX11 (mX11_share S m1 cx cy o) (fun _ => rfl) rfl (fun _ h => ifok h) dX11_packedShare_6 q1162 kX11_share rfl ⟨by decide, by decide⟩ rfl (Nat.le_of_ble_eq_true rfl) (fun v2 => ?_)
  exact x_dret rfl dX11_packedShare_9 rfl
theorem mX11_packedShare (S : mSh) (μ : mMm) (cx cy : Nat) (o : Nat) : mMet MX11_packedShare [.ref o] (S, μ, cx, cy) (iMD S cx cy) (fX11_packedShare S μ o) := mMet.of rfl (by decide) rfl (fun h => by cases h) (Nat.le_of_ble_eq_true rfl) (mX.ck (fun _ => xbX11_packedShare o))
/-! SlideMillsModel.adds(J)V -/
def bX11_adds (S : mSh) (μ : mMm) (o : Nat) (p0 : Int64) : Option (mMm) := (gL S μ o 11 19).bind fun v1 => (pL S μ o 11 19 (((31 : Int64) * v1) + p0)).bind fun m2 => some m2
def fX11_adds (S : mSh) (μ : mMm) (o : Nat) (p0 : Int64) : Option (mMm) := if mok S o 11 = true then bX11_adds S μ o p0 else none
abbrev MX11_adds : mM := ((yX11_adds, cX11_adds, 3, none), (0, 0), (false, false), RX11, eT)
theorem kX11_adds : mCalV MX11_adds RX11 1 := ⟨q1230, q1231, q5, q1232, by decide +kernel⟩
set_option maxHeartbeats 4000000 in
theorem xbX11_adds {n0 c0 s0 cx cy : Nat} {S : mSh} {μ : mMm} (o : Nat) (p0 : Int64) : mX MX11_adds n0 c0 s0 0 [some (.ref o), some (.long p0), none] [] (S, μ, cx, cy) (iMV S cx cy) (bX11_adds S μ o p0) := by
  unfold bX11_adds
  refine x_aload_n (pc := 0) dX11_adds_0 (i := 0) rfl rfl ?_
  refine x_ldc2 (pc := 1) (v := 31) dX11_adds_1 q1233 ?_
  refine x_aload_n (pc := 4) dX11_adds_4 (i := 0) rfl rfl ?_
  refine x_gL (pc := 5) (k := 19) fcX11 dX11_adds_5 q1228 (by decide) rfl (fun v1 => ?_)
  refine x_lmul (pc := 8) dX11_adds_8 ?_
  refine x_lload_n (pc := 9) dX11_adds_9 (i := 1) rfl rfl ?_
  refine x_ladd (pc := 10) dX11_adds_10 ?_
  refine x_pL (pc := 11) (k := 19) fcX11 dX11_adds_11 q1228 (by decide) rfl rfl rfl (fun m2 => ?_)
  exact x_ret rfl dX11_adds_14 rfl
theorem mX11_adds (S : mSh) (μ : mMm) (cx cy : Nat) (o : Nat) (p0 : Int64) : mMet MX11_adds [.ref o, .long p0] (S, μ, cx, cy) (iMV S cx cy) (fX11_adds S μ o p0) := mMet.of rfl (by decide) rfl (fun h => by cases h) (Nat.le_of_ble_eq_true rfl) (mX.ck (fun _ => xbX11_adds o p0))
/-! SlideMillsModel.digest()J -/
def lX11_digest_489 (S : mSh) : Nat → mMm → Nat → Int32 → Option (Int64 × mMm)
  | 0, _, _, _ => none
  | n + 1, μ, x0, x1 => (gI S μ x0 11 10).bind fun v57 => if v57 ≤ x1 then ((gL S μ x0 11 19).bind fun v58 => some (v58, μ)) else ((gR S x0 11 9).bind fun v59 => (ldC S μ v59 x1).bind fun v60 => (fX11_adds S μ x0 v60.toInt64).bind fun m61 => lX11_digest_489 S n m61 x0 (x1 + (1 : Int32)))
def lX11_digest_467 (S : mSh) (μ : mMm) (x0 : Nat) : Option (Int64 × mMm) := (fX11_share S μ x0).bind fun v52 => (fJxe99ae_doubleToLongBits_ccdee v52).bind fun v53 => (fX11_adds S μ x0 v53).bind fun m54 => (gI S m54 x0 11 10).bind fun v55 => (fX11_adds S m54 x0 v55.toInt64).bind fun m56 => lX11_digest_489 S FU m56 x0 (0 : Int32)
def lX11_digest_420 (S : mSh) (μ : mMm) (x0 : Nat) : Option (Int64 × mMm) := (gR S x0 11 0).bind fun v47 => (ldI S μ v47 (7 : Int32)).bind fun v48 => (fX11_adds S μ x0 v48.toInt64).bind fun m49 => (gR S x0 11 0).bind fun v50 => (ldI S m49 v50 (7 : Int32)).bind fun v51 => if v51 = (1 : Int32) then ((gR S x0 11 0).bind fun v62 => (ldI S m49 v62 (8 : Int32)).bind fun v63 => (fX11_adds S m49 x0 v63.toInt64).bind fun m64 => (gR S x0 11 0).bind fun v65 => (ldI S m64 v65 (9 : Int32)).bind fun v66 => (fX11_adds S m64 x0 v66.toInt64).bind fun m67 => lX11_digest_467 S m67 x0) else (lX11_digest_467 S m49 x0)
def lX11_digest_369 (S : mSh) : Nat → mMm → Nat → Int32 → Option (Int64 × mMm)
  | 0, _, _, _ => none
  | n + 1, μ, x0, x1 => if (16 : Int32) ≤ x1 then ((gR S x0 11 0).bind fun v45 => (ldI S μ v45 (0 : Int32)).bind fun v46 => if v46 ≤ (1 : Int32) then (lX11_digest_420 S μ x0) else ((fX11_frequent S μ x0).bind fun v68 => (fX11_adds S μ x0 v68.toInt64).bind fun m69 => lX11_digest_420 S m69 x0)) else ((fX11_often S μ x0 x1).bind fun v70 => (fX11_adds S μ x0 v70.toInt64).bind fun m71 => (fX11_lastOf S m71 x0 x1).bind fun v72 => (fX11_adds S m71 x0 v72.toInt64).bind fun m73 => lX11_digest_369 S n m73 x0 (x1 + (1 : Int32)))
def lX11_digest_315 (S : mSh) : Nat → mMm → Nat → Int32 → Option (Int64 × mMm)
  | 0, _, _, _ => none
  | n + 1, μ, x0, x1 => (gR S x0 11 0).bind fun v43 => (ldI S μ v43 (0 : Int32)).bind fun v44 => if v44 ≤ x1 then (lX11_digest_369 S FU μ x0 (0 : Int32)) else ((gR S x0 11 0).bind fun v74 => (ldI S μ v74 (1 : Int32)).bind fun v75 => (fX11_longestAt S μ x0 x1 v75).bind fun v76 => (fX11_adds S μ x0 v76.toInt64).bind fun m77 => (fX11_longestByPairs S m77 x0 x1).bind fun v78 => (fX11_adds S m77 x0 v78.toInt64).bind fun m79 => (fX11_distanceAt S m79 x0 x1).bind fun v80 => (fX11_adds S m79 x0 v80.toInt64).bind fun m81 => lX11_digest_315 S n m81 x0 (x1 + (1 : Int32)))
def lX11_digest_304 (k234 : mMm → Nat → Int32 → Option (Int64 × mMm)) (S : mSh) (μ : mMm) (x0 : Nat) (x1 : Int32) (t0 : Int64) (t1 : Nat) : Option (Int64 × mMm) := (fX11_adds S μ t1 t0).bind fun m89 => k234 m89 x0 (x1 + (1 : Int32))
def lX11_digest_259 (k234 : mMm → Nat → Int32 → Option (Int64 × mMm)) (S : mSh) (μ : mMm) (x0 : Nat) (x1 : Int32) (t0 : Int64) (t1 : Nat) : Option (Int64 × mMm) := (fX11_adds S μ t1 t0).bind fun m83 => (fX11_length S m83 x0 x1).bind fun v84 => (fX11_adds S m83 x0 v84.toInt64).bind fun m85 => (fX11_distance S m85 x0 x1).bind fun v86 => if v86 ≤ 0 then ((gR S x0 11 0).bind fun v87 => (ldI S m85 v87 (((50 : Int32) + ((2 : Int32) * x1)) + (1 : Int32))).bind fun v88 => lX11_digest_304 k234 S m85 x0 x1 v88.toInt64 x0) else ((fX11_distance S m85 x0 x1).bind fun v90 => lX11_digest_304 k234 S m85 x0 x1 v90.toInt64 x0)
def lX11_digest_234 (S : mSh) : Nat → mMm → Nat → Int32 → Option (Int64 × mMm)
  | 0, _, _, _ => none
  | n + 1, μ, x0, x1 => (gR S x0 11 0).bind fun v41 => (ldI S μ v41 (6 : Int32)).bind fun v42 => if v42 ≤ x1 then (lX11_digest_315 S FU μ x0 (0 : Int32)) else ((fX11_distance S μ x0 x1).bind fun v82 => if v82 ≤ 0 then (lX11_digest_259 (lX11_digest_234 S n) S μ x0 x1 (0 : Int64) x0) else (lX11_digest_259 (lX11_digest_234 S n) S μ x0 x1 (1 : Int64) x0))
def lX11_digest_193 (S : mSh) : Nat → mMm → Nat → Int32 → Option (Int64 × mMm)
  | 0, _, _, _ => none
  | n + 1, μ, x0, x1 => if (3 : Int32) ≤ x1 then ((gI S μ x0 11 2).bind fun v39 => (fX11_adds S μ x0 v39.toInt64).bind fun m40 => lX11_digest_234 S FU m40 x0 (0 : Int32)) else ((fX11_rowCost S μ x0 x1).bind fun r91 => (fX11_adds S r91.2 x0 r91.1.toInt64).bind fun m92 => (gI S m92 x0 11 6).bind fun v93 => (fX11_adds S m92 x0 v93.toInt64).bind fun m94 => lX11_digest_193 S n m94 x0 (x1 + (1 : Int32)))
def lX11_digest_153 (S : mSh) (μ : mMm) (x0 : Nat) (t0 : Int64) (t1 : Nat) : Option (Int64 × mMm) := (fX11_adds S μ t1 t0).bind fun m30 => (gR S x0 11 0).bind fun v31 => (ldI S m30 v31 (1 : Int32)).bind fun v32 => (fX11_cheapest S m30 x0 v32).bind fun r33 => (fX11_adds S r33.2 x0 r33.1.toInt64).bind fun m34 => (fX11_fromBeginning S m34 x0).bind fun r35 => (fX11_adds S r35.2 x0 r35.1.toInt64).bind fun m36 => (fX11_cheapest S m36 x0 (32 : Int32)).bind fun r37 => (fX11_adds S r37.2 x0 r37.1.toInt64).bind fun m38 => lX11_digest_193 S FU m38 x0 (0 : Int32)
def lX11_digest_25 (S : mSh) : Nat → mMm → Nat → Int32 → Option (Int64 × mMm)
  | 0, _, _, _ => none
  | n + 1, μ, x0, x1 => (gR S x0 11 0).bind fun v6 => (ldI S μ v6 (0 : Int32)).bind fun v7 => if v7 ≤ x1 then ((gR S x0 11 0).bind fun v8 => (ldI S μ v8 (1 : Int32)).bind fun v9 => (fX11_adds S μ x0 v9.toInt64).bind fun m10 => (gR S x0 11 0).bind fun v11 => (ldI S m10 v11 (2 : Int32)).bind fun v12 => (fX11_adds S m10 x0 v12.toInt64).bind fun m13 => (gR S x0 11 0).bind fun v14 => (ldI S m13 v14 (3 : Int32)).bind fun v15 => (fX11_adds S m13 x0 v15.toInt64).bind fun m16 => (gR S x0 11 0).bind fun v17 => (ldI S m16 v17 (6 : Int32)).bind fun v18 => (fX11_adds S m16 x0 v18.toInt64).bind fun m19 => (fX11_cost S m19 x0).bind fun v20 => (fX11_adds S m19 x0 v20.toInt64).bind fun m21 => (fX11_stands S m21 x0).bind fun v22 => (fX11_adds S m21 x0 v22.toInt64).bind fun m23 => (fX11_unpacks S m23 x0).bind fun m24 => (gI S m24 x0 11 12).bind fun v25 => (fX11_adds S m24 x0 v25.toInt64).bind fun m26 => (gI S m26 x0 11 13).bind fun v27 => (fX11_adds S m26 x0 v27.toInt64).bind fun m28 => (fX11_forText S m28 x0).bind fun r29 => if r29.1 = 0 then (lX11_digest_153 S r29.2 x0 (0 : Int64) x0) else (lX11_digest_153 S r29.2 x0 (1 : Int64) x0)) else ((gR S x0 11 0).bind fun v95 => (ldI S μ v95 ((10 : Int32) + x1)).bind fun v96 => (fX11_adds S μ x0 v96.toInt64).bind fun m97 => lX11_digest_25 S n m97 x0 (x1 + (1 : Int32)))
def bX11_digest (S : mSh) (μ : mMm) (o : Nat) : Option (Int64 × mMm) := (pI S μ o 11 11 (0 : Int32)).bind fun m1 => (pL S m1 o 11 19 (4483 : Int64)).bind fun m2 => (gR S o 11 0).bind fun v3 => (ldI S m2 v3 (0 : Int32)).bind fun v4 => (fX11_adds S m2 o v4.toInt64).bind fun m5 => lX11_digest_25 S FU m5 o (0 : Int32)
def fX11_digest (S : mSh) (μ : mMm) (o : Nat) : Option (Int64 × mMm) := if mok S o 11 = true then bX11_digest S μ o else none
abbrev MX11_digest : mM := ((yX11_digest, cX11_digest, 2, (some .long)), (5, 119), (false, false), RX11, eT)
theorem kX11_digest : mCalV MX11_digest RX11 0 := ⟨q1224, q1225, q5, q1226, by decide +kernel⟩
set_option maxHeartbeats 4000000 in
theorem xX11_digest_489 {n0 c0 s0 cx cy : Nat} {S : mSh} : ∀ (n : Nat) (μ : mMm) (x0 : Nat) (x1 : Int32), mX MX11_digest n0 c0 s0 489 [some (.ref x0), some (.int x1)] [] (S, μ, cx, cy) (iMJ S cx cy) (lX11_digest_489 S n μ x0 x1) := by
  intro n
  induction n with
  | zero => intros; exact x_none
  | succ n ih =>
    intro μ x0 x1
    unfold lX11_digest_489
    refine x_iload_n (pc := 489) dX11_digest_489 (i := 1) rfl rfl ?_
    refine x_aload_n (pc := 490) dX11_digest_490 (i := 0) rfl rfl ?_
    refine x_gI (pc := 491) (k := 10) fcX11 dX11_digest_491 q575 (by decide) rfl (fun v57 => ?_)
    refine x_icmp_ge (pc := 494) (tgt := 514) dX11_digest_494 (by decide) ?_ ?_
    · refine x_aload_n (pc := 514) dX11_digest_514 (i := 0) rfl rfl ?_
      refine x_gL (pc := 515) (k := 19) fcX11 dX11_digest_515 q1228 (by decide) rfl (fun v58 => ?_)
      exact x_lret rfl dX11_digest_518 rfl
    · refine x_aload_n (pc := 497) dX11_digest_497 (i := 0) rfl rfl ?_
      refine x_aload_n (pc := 498) dX11_digest_498 (i := 0) rfl rfl ?_
      refine x_gR (pc := 499) (k := 9) fcX11 dX11_digest_499 q143 (by decide) rfl (fun v59 => ?_)
      refine x_iload_n (pc := 502) dX11_digest_502 (i := 1) rfl rfl ?_
      refine x_ldC (pc := 503) dX11_digest_503 (fun v60 => ?_)
      refine x_i2l (pc := 504) dX11_digest_504 ?_
      refine x_callVv (pc := 505) (As := [.long v60.toInt64]) (rest := []) (μf := fun a => a) fcX11 (mX11_adds S μ cx cy x0 v60.toInt64) (fun _ => rfl) rfl (fun _ h => ifok h) dX11_digest_505 q1229 kX11_adds rfl ⟨by decide, by decide⟩ rfl (Nat.le_of_ble_eq_true rfl) (fun m61 => ?_)
      refine x_iinc (pc := 508) (v := x1 + (1 : Int32)) dX11_digest_508 rfl (by rw [show Int32.ofInt (1) = (1 : Int32) from by decide]) (by decide) (l' := [some (.ref x0), some (.int (x1 + (1 : Int32)))]) rfl ?_
      refine x_goto (pc := 511) (tgt := 489) dX11_digest_511 (by decide) ?_
      exact ih m61 x0 (x1 + (1 : Int32)) 
set_option maxHeartbeats 4000000 in
theorem xX11_digest_467 {n0 c0 s0 cx cy : Nat} {S : mSh} (μ : mMm) (x0 : Nat) (d1 : Option Value) : mX MX11_digest n0 c0 s0 467 [some (.ref x0), d1] [] (S, μ, cx, cy) (iMJ S cx cy) (lX11_digest_467 S μ x0) := by
  unfold lX11_digest_467
  refine x_aload_n (pc := 467) dX11_digest_467 (i := 0) rfl rfl ?_
  refine x_aload_n (pc := 468) dX11_digest_468 (i := 0) rfl rfl ?_
  refine x_callVd (pc := 469) (As := []) (rest := [.ref x0]) (vx := fun a => a) (μf := fun _ => μ) fcX11 (mX11_share S μ cx cy x0) (fun _ => rfl) rfl (fun _ h => ifok h) dX11_digest_469 q1162 kX11_share rfl ⟨by decide, by decide⟩ rfl (Nat.le_of_ble_eq_true rfl) (fun v52 => ?_)
  refine x_callSl (pc := 472) (As := [.double v52]) (rest := [.ref x0]) (vx := fun a => a) (μf := fun _ => μ) (mJxe99ae_doubleToLongBits_ccdee S μ cx cy v52) (fun _ => rfl) rfl dX11_digest_472 q1234 kJxe99ae_doubleToLongBits_ccdee rfl ⟨by decide, by decide⟩ rfl (Nat.le_of_ble_eq_true rfl) (fun v53 => ?_)
  refine x_callVv (pc := 475) (As := [.long v53]) (rest := []) (μf := fun a => a) fcX11 (mX11_adds S μ cx cy x0 v53) (fun _ => rfl) rfl (fun _ h => ifok h) dX11_digest_475 q1229 kX11_adds rfl ⟨by decide, by decide⟩ rfl (Nat.le_of_ble_eq_true rfl) (fun m54 => ?_)
  refine x_aload_n (pc := 478) dX11_digest_478 (i := 0) rfl rfl ?_
  refine x_aload_n (pc := 479) dX11_digest_479 (i := 0) rfl rfl ?_
  refine x_gI (pc := 480) (k := 10) fcX11 dX11_digest_480 q575 (by decide) rfl (fun v55 => ?_)
  refine x_i2l (pc := 483) dX11_digest_483 ?_
  refine x_callVv (pc := 484) (As := [.long v55.toInt64]) (rest := []) (μf := fun a => a) fcX11 (mX11_adds S m54 cx cy x0 v55.toInt64) (fun _ => rfl) rfl (fun _ h => ifok h) dX11_digest_484 q1229 kX11_adds rfl ⟨by decide, by decide⟩ rfl (Nat.le_of_ble_eq_true rfl) (fun m56 => ?_)
  refine x_iconst (pc := 487) (v := 0) dX11_digest_487 (by decide) ?_
  refine x_istore_n (pc := 488) dX11_digest_488 (i := 1) rfl (by decide) (l' := [some (.ref x0), some (.int (0 : Int32))]) rfl ?_
  exact xX11_digest_489 FU m56 x0 (0 : Int32) 
set_option maxHeartbeats 4000000 in
theorem xX11_digest_420 {n0 c0 s0 cx cy : Nat} {S : mSh} (μ : mMm) (x0 : Nat) (d1 : Option Value) : mX MX11_digest n0 c0 s0 420 [some (.ref x0), d1] [] (S, μ, cx, cy) (iMJ S cx cy) (lX11_digest_420 S μ x0) := by
  unfold lX11_digest_420
  refine x_aload_n (pc := 420) dX11_digest_420 (i := 0) rfl rfl ?_
  refine x_aload_n (pc := 421) dX11_digest_421 (i := 0) rfl rfl ?_
  refine x_gR (pc := 422) (k := 0) fcX11 dX11_digest_422 q136 (by decide) rfl (fun v47 => ?_)
  refine x_bipush (pc := 425) (v := 7) dX11_digest_425 (by decide) ?_
  refine x_ldI (pc := 427) dX11_digest_427 (fun v48 => ?_)
  refine x_i2l (pc := 428) dX11_digest_428 ?_
  refine x_callVv (pc := 429) (As := [.long v48.toInt64]) (rest := []) (μf := fun a => a) fcX11 (mX11_adds S μ cx cy x0 v48.toInt64) (fun _ => rfl) rfl (fun _ h => ifok h) dX11_digest_429 q1229 kX11_adds rfl ⟨by decide, by decide⟩ rfl (Nat.le_of_ble_eq_true rfl) (fun m49 => ?_)
  refine x_aload_n (pc := 432) dX11_digest_432 (i := 0) rfl rfl ?_
  refine x_gR (pc := 433) (k := 0) fcX11 dX11_digest_433 q136 (by decide) rfl (fun v50 => ?_)
  refine x_bipush (pc := 436) (v := 7) dX11_digest_436 (by decide) ?_
  refine x_ldI (pc := 438) dX11_digest_438 (fun v51 => ?_)
  refine x_iconst (pc := 439) (v := 1) dX11_digest_439 (by decide) ?_
  refine x_icmp_ne (pc := 440) (tgt := 467) dX11_digest_440 (by decide) ?_ ?_
  · refine x_aload_n (pc := 443) dX11_digest_443 (i := 0) rfl rfl ?_
    refine x_aload_n (pc := 444) dX11_digest_444 (i := 0) rfl rfl ?_
    refine x_gR (pc := 445) (k := 0) fcX11 dX11_digest_445 q136 (by decide) rfl (fun v62 => ?_)
    refine x_bipush (pc := 448) (v := 8) dX11_digest_448 (by decide) ?_
    refine x_ldI (pc := 450) dX11_digest_450 (fun v63 => ?_)
    refine x_i2l (pc := 451) dX11_digest_451 ?_
    refine x_callVv (pc := 452) (As := [.long v63.toInt64]) (rest := []) (μf := fun a => a) fcX11 (mX11_adds S m49 cx cy x0 v63.toInt64) (fun _ => rfl) rfl (fun _ h => ifok h) dX11_digest_452 q1229 kX11_adds rfl ⟨by decide, by decide⟩ rfl (Nat.le_of_ble_eq_true rfl) (fun m64 => ?_)
    refine x_aload_n (pc := 455) dX11_digest_455 (i := 0) rfl rfl ?_
    refine x_aload_n (pc := 456) dX11_digest_456 (i := 0) rfl rfl ?_
    refine x_gR (pc := 457) (k := 0) fcX11 dX11_digest_457 q136 (by decide) rfl (fun v65 => ?_)
    refine x_bipush (pc := 460) (v := 9) dX11_digest_460 (by decide) ?_
    refine x_ldI (pc := 462) dX11_digest_462 (fun v66 => ?_)
    refine x_i2l (pc := 463) dX11_digest_463 ?_
    refine x_callVv (pc := 464) (As := [.long v66.toInt64]) (rest := []) (μf := fun a => a) fcX11 (mX11_adds S m64 cx cy x0 v66.toInt64) (fun _ => rfl) rfl (fun _ h => ifok h) dX11_digest_464 q1229 kX11_adds rfl ⟨by decide, by decide⟩ rfl (Nat.le_of_ble_eq_true rfl) (fun m67 => ?_)
    exact xX11_digest_467 m67 x0 _
  · exact xX11_digest_467 m49 x0 _
set_option maxHeartbeats 4000000 in
theorem xX11_digest_369 {n0 c0 s0 cx cy : Nat} {S : mSh} : ∀ (n : Nat) (μ : mMm) (x0 : Nat) (x1 : Int32), mX MX11_digest n0 c0 s0 369 [some (.ref x0), some (.int x1)] [] (S, μ, cx, cy) (iMJ S cx cy) (lX11_digest_369 S n μ x0 x1) := by
  intro n
  induction n with
  | zero => intros; exact x_none
  | succ n ih =>
    intro μ x0 x1
    unfold lX11_digest_369
    refine x_iload_n (pc := 369) dX11_digest_369 (i := 1) rfl rfl ?_
    refine x_bipush (pc := 370) (v := 16) dX11_digest_370 (by decide) ?_
    refine x_icmp_ge (pc := 372) (tgt := 401) dX11_digest_372 (by decide) ?_ ?_
    · refine x_aload_n (pc := 401) dX11_digest_401 (i := 0) rfl rfl ?_
      refine x_gR (pc := 402) (k := 0) fcX11 dX11_digest_402 q136 (by decide) rfl (fun v45 => ?_)
      refine x_iconst (pc := 405) (v := 0) dX11_digest_405 (by decide) ?_
      refine x_ldI (pc := 406) dX11_digest_406 (fun v46 => ?_)
      refine x_iconst (pc := 407) (v := 1) dX11_digest_407 (by decide) ?_
      refine x_icmp_le (pc := 408) (tgt := 420) dX11_digest_408 (by decide) ?_ ?_
      · exact xX11_digest_420 μ x0 _
      · refine x_aload_n (pc := 411) dX11_digest_411 (i := 0) rfl rfl ?_
        refine x_aload_n (pc := 412) dX11_digest_412 (i := 0) rfl rfl ?_
        refine x_callVi (pc := 413) (As := []) (rest := [.ref x0]) (vx := fun a => a) (μf := fun _ => μ) fcX11 (mX11_frequent S μ cx cy x0) (fun _ => rfl) rfl (fun _ h => ifok h) dX11_digest_413 q1150 kX11_frequent rfl ⟨by decide, by decide⟩ rfl (Nat.le_of_ble_eq_true rfl) (fun v68 => ?_)
        refine x_i2l (pc := 416) dX11_digest_416 ?_
        refine x_callVv (pc := 417) (As := [.long v68.toInt64]) (rest := []) (μf := fun a => a) fcX11 (mX11_adds S μ cx cy x0 v68.toInt64) (fun _ => rfl) rfl (fun _ h => ifok h) dX11_digest_417 q1229 kX11_adds rfl ⟨by decide, by decide⟩ rfl (Nat.le_of_ble_eq_true rfl) (fun m69 => ?_)
        exact xX11_digest_420 m69 x0 _
    · refine x_aload_n (pc := 375) dX11_digest_375 (i := 0) rfl rfl ?_
      refine x_aload_n (pc := 376) dX11_digest_376 (i := 0) rfl rfl ?_
      refine x_iload_n (pc := 377) dX11_digest_377 (i := 1) rfl rfl ?_
      refine x_callVi (pc := 378) (As := [.int x1]) (rest := [.ref x0]) (vx := fun a => a) (μf := fun _ => μ) fcX11 (mX11_often S μ cx cy x0 x1) (fun _ => rfl) rfl (fun _ h => ifok h) dX11_digest_378 q1112 kX11_often rfl ⟨by decide, by decide⟩ rfl (Nat.le_of_ble_eq_true rfl) (fun v70 => ?_)
      refine x_i2l (pc := 381) dX11_digest_381 ?_
      refine x_callVv (pc := 382) (As := [.long v70.toInt64]) (rest := []) (μf := fun a => a) fcX11 (mX11_adds S μ cx cy x0 v70.toInt64) (fun _ => rfl) rfl (fun _ h => ifok h) dX11_digest_382 q1229 kX11_adds rfl ⟨by decide, by decide⟩ rfl (Nat.le_of_ble_eq_true rfl) (fun m71 => ?_)
      refine x_aload_n (pc := 385) dX11_digest_385 (i := 0) rfl rfl ?_
      refine x_aload_n (pc := 386) dX11_digest_386 (i := 0) rfl rfl ?_
      refine x_iload_n (pc := 387) dX11_digest_387 (i := 1) rfl rfl ?_
      refine x_callVi (pc := 388) (As := [.int x1]) (rest := [.ref x0]) (vx := fun a => a) (μf := fun _ => m71) fcX11 (mX11_lastOf S m71 cx cy x0 x1) (fun _ => rfl) rfl (fun _ h => ifok h) dX11_digest_388 q1131 kX11_lastOf rfl ⟨by decide, by decide⟩ rfl (Nat.le_of_ble_eq_true rfl) (fun v72 => ?_)
      refine x_i2l (pc := 391) dX11_digest_391 ?_
      refine x_callVv (pc := 392) (As := [.long v72.toInt64]) (rest := []) (μf := fun a => a) fcX11 (mX11_adds S m71 cx cy x0 v72.toInt64) (fun _ => rfl) rfl (fun _ h => ifok h) dX11_digest_392 q1229 kX11_adds rfl ⟨by decide, by decide⟩ rfl (Nat.le_of_ble_eq_true rfl) (fun m73 => ?_)
      refine x_iinc (pc := 395) (v := x1 + (1 : Int32)) dX11_digest_395 rfl (by rw [show Int32.ofInt (1) = (1 : Int32) from by decide]) (by decide) (l' := [some (.ref x0), some (.int (x1 + (1 : Int32)))]) rfl ?_
      refine x_goto (pc := 398) (tgt := 369) dX11_digest_398 (by decide) ?_
      exact ih m73 x0 (x1 + (1 : Int32)) 
set_option maxHeartbeats 4000000 in
theorem xX11_digest_315 {n0 c0 s0 cx cy : Nat} {S : mSh} : ∀ (n : Nat) (μ : mMm) (x0 : Nat) (x1 : Int32), mX MX11_digest n0 c0 s0 315 [some (.ref x0), some (.int x1)] [] (S, μ, cx, cy) (iMJ S cx cy) (lX11_digest_315 S n μ x0 x1) := by
  intro n
  induction n with
  | zero => intros; exact x_none
  | succ n ih =>
    intro μ x0 x1
    unfold lX11_digest_315
    refine x_iload_n (pc := 315) dX11_digest_315 (i := 1) rfl rfl ?_
    refine x_aload_n (pc := 316) dX11_digest_316 (i := 0) rfl rfl ?_
    refine x_gR (pc := 317) (k := 0) fcX11 dX11_digest_317 q136 (by decide) rfl (fun v43 => ?_)
    refine x_iconst (pc := 320) (v := 0) dX11_digest_320 (by decide) ?_
    refine x_ldI (pc := 321) dX11_digest_321 (fun v44 => ?_)
    refine x_icmp_ge (pc := 322) (tgt := 367) dX11_digest_322 (by decide) ?_ ?_
    · refine x_iconst (pc := 367) (v := 0) dX11_digest_367 (by decide) ?_
      refine x_istore_n (pc := 368) dX11_digest_368 (i := 1) rfl (by decide) (l' := [some (.ref x0), some (.int (0 : Int32))]) rfl ?_
      exact xX11_digest_369 FU μ x0 (0 : Int32) 
    · refine x_aload_n (pc := 325) dX11_digest_325 (i := 0) rfl rfl ?_
      refine x_aload_n (pc := 326) dX11_digest_326 (i := 0) rfl rfl ?_
      refine x_iload_n (pc := 327) dX11_digest_327 (i := 1) rfl rfl ?_
      refine x_aload_n (pc := 328) dX11_digest_328 (i := 0) rfl rfl ?_
      refine x_gR (pc := 329) (k := 0) fcX11 dX11_digest_329 q136 (by decide) rfl (fun v74 => ?_)
      refine x_iconst (pc := 332) (v := 1) dX11_digest_332 (by decide) ?_
      refine x_ldI (pc := 333) dX11_digest_333 (fun v75 => ?_)
      refine x_callVi (pc := 334) (As := [.int x1, .int v75]) (rest := [.ref x0]) (vx := fun a => a) (μf := fun _ => μ) fcX11 (mX11_longestAt S μ cx cy x0 x1 v75) (fun _ => rfl) rfl (fun _ h => ifok h) dX11_digest_334 q436 kX11_longestAt rfl ⟨by decide, by decide⟩ rfl (Nat.le_of_ble_eq_true rfl) (fun v76 => ?_)
      refine x_i2l (pc := 337) dX11_digest_337 ?_
      refine x_callVv (pc := 338) (As := [.long v76.toInt64]) (rest := []) (μf := fun a => a) fcX11 (mX11_adds S μ cx cy x0 v76.toInt64) (fun _ => rfl) rfl (fun _ h => ifok h) dX11_digest_338 q1229 kX11_adds rfl ⟨by decide, by decide⟩ rfl (Nat.le_of_ble_eq_true rfl) (fun m77 => ?_)
      refine x_aload_n (pc := 341) dX11_digest_341 (i := 0) rfl rfl ?_
      refine x_aload_n (pc := 342) dX11_digest_342 (i := 0) rfl rfl ?_
      refine x_iload_n (pc := 343) dX11_digest_343 (i := 1) rfl rfl ?_
      refine x_callVi (pc := 344) (As := [.int x1]) (rest := [.ref x0]) (vx := fun a => a) (μf := fun _ => m77) fcX11 (mX11_longestByPairs S m77 cx cy x0 x1) (fun _ => rfl) rfl (fun _ h => ifok h) dX11_digest_344 q998 kX11_longestByPairs rfl ⟨by decide, by decide⟩ rfl (Nat.le_of_ble_eq_true rfl) (fun v78 => ?_)
      refine x_i2l (pc := 347) dX11_digest_347 ?_
      refine x_callVv (pc := 348) (As := [.long v78.toInt64]) (rest := []) (μf := fun a => a) fcX11 (mX11_adds S m77 cx cy x0 v78.toInt64) (fun _ => rfl) rfl (fun _ h => ifok h) dX11_digest_348 q1229 kX11_adds rfl ⟨by decide, by decide⟩ rfl (Nat.le_of_ble_eq_true rfl) (fun m79 => ?_)
      refine x_aload_n (pc := 351) dX11_digest_351 (i := 0) rfl rfl ?_
      refine x_aload_n (pc := 352) dX11_digest_352 (i := 0) rfl rfl ?_
      refine x_iload_n (pc := 353) dX11_digest_353 (i := 1) rfl rfl ?_
      refine x_callVi (pc := 354) (As := [.int x1]) (rest := [.ref x0]) (vx := fun a => a) (μf := fun _ => m79) fcX11 (mX11_distanceAt S m79 cx cy x0 x1) (fun _ => rfl) rfl (fun _ h => ifok h) dX11_digest_354 q1018 kX11_distanceAt rfl ⟨by decide, by decide⟩ rfl (Nat.le_of_ble_eq_true rfl) (fun v80 => ?_)
      refine x_i2l (pc := 357) dX11_digest_357 ?_
      refine x_callVv (pc := 358) (As := [.long v80.toInt64]) (rest := []) (μf := fun a => a) fcX11 (mX11_adds S m79 cx cy x0 v80.toInt64) (fun _ => rfl) rfl (fun _ h => ifok h) dX11_digest_358 q1229 kX11_adds rfl ⟨by decide, by decide⟩ rfl (Nat.le_of_ble_eq_true rfl) (fun m81 => ?_)
      refine x_iinc (pc := 361) (v := x1 + (1 : Int32)) dX11_digest_361 rfl (by rw [show Int32.ofInt (1) = (1 : Int32) from by decide]) (by decide) (l' := [some (.ref x0), some (.int (x1 + (1 : Int32)))]) rfl ?_
      refine x_goto (pc := 364) (tgt := 315) dX11_digest_364 (by decide) ?_
      exact ih m81 x0 (x1 + (1 : Int32)) 
set_option maxHeartbeats 4000000 in
theorem xX11_digest_304 {n0 c0 s0 cx cy : Nat} {S : mSh} {k234 : mMm → Nat → Int32 → Option (Int64 × mMm)} (hk234 : ∀ (μ : mMm) (x0 : Nat) (x1 : Int32), mX MX11_digest n0 c0 s0 234 [some (.ref x0), some (.int x1)] [] (S, μ, cx, cy) (iMJ S cx cy) (k234 μ x0 x1)) (μ : mMm) (x0 : Nat) (x1 : Int32) (t0 : Int64) (t1 : Nat) : mX MX11_digest n0 c0 s0 304 [some (.ref x0), some (.int x1)] [.long t0, .ref t1] (S, μ, cx, cy) (iMJ S cx cy) (lX11_digest_304 k234 S μ x0 x1 t0 t1) := by
  unfold lX11_digest_304
  refine x_callVv (pc := 304) (As := [.long t0]) (rest := []) (μf := fun a => a) fcX11 (mX11_adds S μ cx cy t1 t0) (fun _ => rfl) rfl (fun _ h => ifok h) dX11_digest_304 q1229 kX11_adds rfl ⟨by decide, by decide⟩ rfl (Nat.le_of_ble_eq_true rfl) (fun m89 => ?_)
  refine x_iinc (pc := 307) (v := x1 + (1 : Int32)) dX11_digest_307 rfl (by rw [show Int32.ofInt (1) = (1 : Int32) from by decide]) (by decide) (l' := [some (.ref x0), some (.int (x1 + (1 : Int32)))]) rfl ?_
  refine x_goto (pc := 310) (tgt := 234) dX11_digest_310 (by decide) ?_
  exact hk234 m89 x0 (x1 + (1 : Int32)) 
set_option maxHeartbeats 4000000 in
theorem xX11_digest_259 {n0 c0 s0 cx cy : Nat} {S : mSh} {k234 : mMm → Nat → Int32 → Option (Int64 × mMm)} (hk234 : ∀ (μ : mMm) (x0 : Nat) (x1 : Int32), mX MX11_digest n0 c0 s0 234 [some (.ref x0), some (.int x1)] [] (S, μ, cx, cy) (iMJ S cx cy) (k234 μ x0 x1)) (μ : mMm) (x0 : Nat) (x1 : Int32) (t0 : Int64) (t1 : Nat) : mX MX11_digest n0 c0 s0 259 [some (.ref x0), some (.int x1)] [.long t0, .ref t1] (S, μ, cx, cy) (iMJ S cx cy) (lX11_digest_259 k234 S μ x0 x1 t0 t1) := by
  unfold lX11_digest_259
  refine x_callVv (pc := 259) (As := [.long t0]) (rest := []) (μf := fun a => a) fcX11 (mX11_adds S μ cx cy t1 t0) (fun _ => rfl) rfl (fun _ h => ifok h) dX11_digest_259 q1229 kX11_adds rfl ⟨by decide, by decide⟩ rfl (Nat.le_of_ble_eq_true rfl) (fun m83 => ?_)
  refine x_aload_n (pc := 262) dX11_digest_262 (i := 0) rfl rfl ?_
  refine x_aload_n (pc := 263) dX11_digest_263 (i := 0) rfl rfl ?_
  refine x_iload_n (pc := 264) dX11_digest_264 (i := 1) rfl rfl ?_
  refine x_callVi (pc := 265) (As := [.int x1]) (rest := [.ref x0]) (vx := fun a => a) (μf := fun _ => m83) fcX11 (mX11_length S m83 cx cy x0 x1) (fun _ => rfl) rfl (fun _ h => ifok h) dX11_digest_265 q500 kX11_length rfl ⟨by decide, by decide⟩ rfl (Nat.le_of_ble_eq_true rfl) (fun v84 => ?_)
  refine x_i2l (pc := 268) dX11_digest_268 ?_
  refine x_callVv (pc := 269) (As := [.long v84.toInt64]) (rest := []) (μf := fun a => a) fcX11 (mX11_adds S m83 cx cy x0 v84.toInt64) (fun _ => rfl) rfl (fun _ h => ifok h) dX11_digest_269 q1229 kX11_adds rfl ⟨by decide, by decide⟩ rfl (Nat.le_of_ble_eq_true rfl) (fun m85 => ?_)
  refine x_aload_n (pc := 272) dX11_digest_272 (i := 0) rfl rfl ?_
  refine x_aload_n (pc := 273) dX11_digest_273 (i := 0) rfl rfl ?_
  refine x_iload_n (pc := 274) dX11_digest_274 (i := 1) rfl rfl ?_
  refine x_callVi (pc := 275) (As := [.int x1]) (rest := [.ref x0]) (vx := fun a => a) (μf := fun _ => m85) fcX11 (mX11_distance S m85 cx cy x0 x1) (fun _ => rfl) rfl (fun _ h => ifok h) dX11_digest_275 q496 kX11_distance rfl ⟨by decide, by decide⟩ rfl (Nat.le_of_ble_eq_true rfl) (fun v86 => ?_)
  refine x_if_le (pc := 278) (tgt := 290) dX11_digest_278 (by decide) ?_ ?_
  · refine x_aload_n (pc := 290) dX11_digest_290 (i := 0) rfl rfl ?_
    refine x_gR (pc := 291) (k := 0) fcX11 dX11_digest_291 q136 (by decide) rfl (fun v87 => ?_)
    refine x_bipush (pc := 294) (v := 50) dX11_digest_294 (by decide) ?_
    refine x_iconst (pc := 296) (v := 2) dX11_digest_296 (by decide) ?_
    refine x_iload_n (pc := 297) dX11_digest_297 (i := 1) rfl rfl ?_
    refine x_imul (pc := 298) dX11_digest_298 ?_
    refine x_iadd (pc := 299) dX11_digest_299 ?_
    refine x_iconst (pc := 300) (v := 1) dX11_digest_300 (by decide) ?_
    refine x_iadd (pc := 301) dX11_digest_301 ?_
    refine x_ldI (pc := 302) dX11_digest_302 (fun v88 => ?_)
    refine x_i2l (pc := 303) dX11_digest_303 ?_
    exact xX11_digest_304 (k234 := k234) hk234 m85 x0 x1 v88.toInt64 x0 
  · refine x_aload_n (pc := 281) dX11_digest_281 (i := 0) rfl rfl ?_
    refine x_iload_n (pc := 282) dX11_digest_282 (i := 1) rfl rfl ?_
    refine x_callVi (pc := 283) (As := [.int x1]) (rest := [.ref x0]) (vx := fun a => a) (μf := fun _ => m85) fcX11 (mX11_distance S m85 cx cy x0 x1) (fun _ => rfl) rfl (fun _ h => ifok h) dX11_digest_283 q496 kX11_distance rfl ⟨by decide, by decide⟩ rfl (Nat.le_of_ble_eq_true rfl) (fun v90 => ?_)
    refine x_i2l (pc := 286) dX11_digest_286 ?_
    refine x_goto (pc := 287) (tgt := 304) dX11_digest_287 (by decide) ?_
    exact xX11_digest_304 (k234 := k234) hk234 m85 x0 x1 v90.toInt64 x0 
set_option maxHeartbeats 4000000 in
theorem xX11_digest_234 {n0 c0 s0 cx cy : Nat} {S : mSh} : ∀ (n : Nat) (μ : mMm) (x0 : Nat) (x1 : Int32), mX MX11_digest n0 c0 s0 234 [some (.ref x0), some (.int x1)] [] (S, μ, cx, cy) (iMJ S cx cy) (lX11_digest_234 S n μ x0 x1) := by
  intro n
  induction n with
  | zero => intros; exact x_none
  | succ n ih =>
    intro μ x0 x1
    unfold lX11_digest_234
    refine x_iload_n (pc := 234) dX11_digest_234 (i := 1) rfl rfl ?_
    refine x_aload_n (pc := 235) dX11_digest_235 (i := 0) rfl rfl ?_
    refine x_gR (pc := 236) (k := 0) fcX11 dX11_digest_236 q136 (by decide) rfl (fun v41 => ?_)
    refine x_bipush (pc := 239) (v := 6) dX11_digest_239 (by decide) ?_
    refine x_ldI (pc := 241) dX11_digest_241 (fun v42 => ?_)
    refine x_icmp_ge (pc := 242) (tgt := 313) dX11_digest_242 (by decide) ?_ ?_
    · refine x_iconst (pc := 313) (v := 0) dX11_digest_313 (by decide) ?_
      refine x_istore_n (pc := 314) dX11_digest_314 (i := 1) rfl (by decide) (l' := [some (.ref x0), some (.int (0 : Int32))]) rfl ?_
      exact xX11_digest_315 FU μ x0 (0 : Int32) 
    · refine x_aload_n (pc := 245) dX11_digest_245 (i := 0) rfl rfl ?_
      refine x_aload_n (pc := 246) dX11_digest_246 (i := 0) rfl rfl ?_
      refine x_iload_n (pc := 247) dX11_digest_247 (i := 1) rfl rfl ?_
      refine x_callVi (pc := 248) (As := [.int x1]) (rest := [.ref x0]) (vx := fun a => a) (μf := fun _ => μ) fcX11 (mX11_distance S μ cx cy x0 x1) (fun _ => rfl) rfl (fun _ h => ifok h) dX11_digest_248 q496 kX11_distance rfl ⟨by decide, by decide⟩ rfl (Nat.le_of_ble_eq_true rfl) (fun v82 => ?_)
      refine x_if_le (pc := 251) (tgt := 258) dX11_digest_251 (by decide) ?_ ?_
      · refine x_lconst (pc := 258) (v := 0) dX11_digest_258 (by decide) ?_
        exact xX11_digest_259 (k234 := (lX11_digest_234 S n)) ih μ x0 x1 (0 : Int64) x0 
      · refine x_lconst (pc := 254) (v := 1) dX11_digest_254 (by decide) ?_
        refine x_goto (pc := 255) (tgt := 259) dX11_digest_255 (by decide) ?_
        exact xX11_digest_259 (k234 := (lX11_digest_234 S n)) ih μ x0 x1 (1 : Int64) x0 
set_option maxHeartbeats 4000000 in
theorem xX11_digest_193 {n0 c0 s0 cx cy : Nat} {S : mSh} : ∀ (n : Nat) (μ : mMm) (x0 : Nat) (x1 : Int32), mX MX11_digest n0 c0 s0 193 [some (.ref x0), some (.int x1)] [] (S, μ, cx, cy) (iMJ S cx cy) (lX11_digest_193 S n μ x0 x1) := by
  intro n
  induction n with
  | zero => intros; exact x_none
  | succ n ih =>
    intro μ x0 x1
    unfold lX11_digest_193
    refine x_iload_n (pc := 193) dX11_digest_193 (i := 1) rfl rfl ?_
    refine x_iconst (pc := 194) (v := 3) dX11_digest_194 (by decide) ?_
    refine x_icmp_ge (pc := 195) (tgt := 223) dX11_digest_195 (by decide) ?_ ?_
    · refine x_aload_n (pc := 223) dX11_digest_223 (i := 0) rfl rfl ?_
      refine x_aload_n (pc := 224) dX11_digest_224 (i := 0) rfl rfl ?_
      refine x_gI (pc := 225) (k := 2) fcX11 dX11_digest_225 q215 (by decide) rfl (fun v39 => ?_)
      refine x_i2l (pc := 228) dX11_digest_228 ?_
      refine x_callVv (pc := 229) (As := [.long v39.toInt64]) (rest := []) (μf := fun a => a) fcX11 (mX11_adds S μ cx cy x0 v39.toInt64) (fun _ => rfl) rfl (fun _ h => ifok h) dX11_digest_229 q1229 kX11_adds rfl ⟨by decide, by decide⟩ rfl (Nat.le_of_ble_eq_true rfl) (fun m40 => ?_)
      refine x_iconst (pc := 232) (v := 0) dX11_digest_232 (by decide) ?_
      refine x_istore_n (pc := 233) dX11_digest_233 (i := 1) rfl (by decide) (l' := [some (.ref x0), some (.int (0 : Int32))]) rfl ?_
      exact xX11_digest_234 FU m40 x0 (0 : Int32) 
    · refine x_aload_n (pc := 198) dX11_digest_198 (i := 0) rfl rfl ?_
      refine x_aload_n (pc := 199) dX11_digest_199 (i := 0) rfl rfl ?_
      refine x_iload_n (pc := 200) dX11_digest_200 (i := 1) rfl rfl ?_
      refine x_callVi (pc := 201) (As := [.int x1]) (rest := [.ref x0]) (vx := fun a => a.1) (μf := fun a => a.2) fcX11 (mX11_rowCost S μ cx cy x0 x1) (fun _ => rfl) rfl (fun _ h => ifok h) dX11_digest_201 q1033 kX11_rowCost rfl ⟨by decide, by decide⟩ rfl (Nat.le_of_ble_eq_true rfl) (fun r91 => ?_)
      refine x_i2l (pc := 204) dX11_digest_204 ?_
      refine x_callVv (pc := 205) (As := [.long r91.1.toInt64]) (rest := []) (μf := fun a => a) fcX11 (mX11_adds S r91.2 cx cy x0 r91.1.toInt64) (fun _ => rfl) rfl (fun _ h => ifok h) dX11_digest_205 q1229 kX11_adds rfl ⟨by decide, by decide⟩ rfl (Nat.le_of_ble_eq_true rfl) (fun m92 => ?_)
      refine x_aload_n (pc := 208) dX11_digest_208 (i := 0) rfl rfl ?_
      refine x_aload_n (pc := 209) dX11_digest_209 (i := 0) rfl rfl ?_
      refine x_gI (pc := 210) (k := 6) fcX11 dX11_digest_210 q427 (by decide) rfl (fun v93 => ?_)
      refine x_i2l (pc := 213) dX11_digest_213 ?_
      refine x_callVv (pc := 214) (As := [.long v93.toInt64]) (rest := []) (μf := fun a => a) fcX11 (mX11_adds S m92 cx cy x0 v93.toInt64) (fun _ => rfl) rfl (fun _ h => ifok h) dX11_digest_214 q1229 kX11_adds rfl ⟨by decide, by decide⟩ rfl (Nat.le_of_ble_eq_true rfl) (fun m94 => ?_)
      refine x_iinc (pc := 217) (v := x1 + (1 : Int32)) dX11_digest_217 rfl (by rw [show Int32.ofInt (1) = (1 : Int32) from by decide]) (by decide) (l' := [some (.ref x0), some (.int (x1 + (1 : Int32)))]) rfl ?_
      refine x_goto (pc := 220) (tgt := 193) dX11_digest_220 (by decide) ?_
      exact ih m94 x0 (x1 + (1 : Int32)) 
set_option maxHeartbeats 4000000 in
theorem xX11_digest_153 {n0 c0 s0 cx cy : Nat} {S : mSh} (μ : mMm) (x0 : Nat) (t0 : Int64) (t1 : Nat) (d1 : Option Value) : mX MX11_digest n0 c0 s0 153 [some (.ref x0), d1] [.long t0, .ref t1] (S, μ, cx, cy) (iMJ S cx cy) (lX11_digest_153 S μ x0 t0 t1) := by
  unfold lX11_digest_153
  refine x_callVv (pc := 153) (As := [.long t0]) (rest := []) (μf := fun a => a) fcX11 (mX11_adds S μ cx cy t1 t0) (fun _ => rfl) rfl (fun _ h => ifok h) dX11_digest_153 q1229 kX11_adds rfl ⟨by decide, by decide⟩ rfl (Nat.le_of_ble_eq_true rfl) (fun m30 => ?_)
  refine x_aload_n (pc := 156) dX11_digest_156 (i := 0) rfl rfl ?_
  refine x_aload_n (pc := 157) dX11_digest_157 (i := 0) rfl rfl ?_
  refine x_aload_n (pc := 158) dX11_digest_158 (i := 0) rfl rfl ?_
  refine x_gR (pc := 159) (k := 0) fcX11 dX11_digest_159 q136 (by decide) rfl (fun v31 => ?_)
  refine x_iconst (pc := 162) (v := 1) dX11_digest_162 (by decide) ?_
  refine x_ldI (pc := 163) dX11_digest_163 (fun v32 => ?_)
  refine x_callVi (pc := 164) (As := [.int v32]) (rest := [.ref x0]) (vx := fun a => a.1) (μf := fun a => a.2) fcX11 (mX11_cheapest S m30 cx cy x0 v32) (fun _ => rfl) rfl (fun _ h => ifok h) dX11_digest_164 q1057 kX11_cheapest rfl ⟨by decide, by decide⟩ rfl (Nat.le_of_ble_eq_true rfl) (fun r33 => ?_)
  refine x_i2l (pc := 167) dX11_digest_167 ?_
  refine x_callVv (pc := 168) (As := [.long r33.1.toInt64]) (rest := []) (μf := fun a => a) fcX11 (mX11_adds S r33.2 cx cy x0 r33.1.toInt64) (fun _ => rfl) rfl (fun _ h => ifok h) dX11_digest_168 q1229 kX11_adds rfl ⟨by decide, by decide⟩ rfl (Nat.le_of_ble_eq_true rfl) (fun m34 => ?_)
  refine x_aload_n (pc := 171) dX11_digest_171 (i := 0) rfl rfl ?_
  refine x_aload_n (pc := 172) dX11_digest_172 (i := 0) rfl rfl ?_
  refine x_callVi (pc := 173) (As := []) (rest := [.ref x0]) (vx := fun a => a.1) (μf := fun a => a.2) fcX11 (mX11_fromBeginning S m34 cx cy x0) (fun _ => rfl) rfl (fun _ h => ifok h) dX11_digest_173 q1078 kX11_fromBeginning rfl ⟨by decide, by decide⟩ rfl (Nat.le_of_ble_eq_true rfl) (fun r35 => ?_)
  refine x_i2l (pc := 176) dX11_digest_176 ?_
  refine x_callVv (pc := 177) (As := [.long r35.1.toInt64]) (rest := []) (μf := fun a => a) fcX11 (mX11_adds S r35.2 cx cy x0 r35.1.toInt64) (fun _ => rfl) rfl (fun _ h => ifok h) dX11_digest_177 q1229 kX11_adds rfl ⟨by decide, by decide⟩ rfl (Nat.le_of_ble_eq_true rfl) (fun m36 => ?_)
  refine x_aload_n (pc := 180) dX11_digest_180 (i := 0) rfl rfl ?_
  refine x_aload_n (pc := 181) dX11_digest_181 (i := 0) rfl rfl ?_
  refine x_bipush (pc := 182) (v := 32) dX11_digest_182 (by decide) ?_
  refine x_callVi (pc := 184) (As := [.int (32 : Int32)]) (rest := [.ref x0]) (vx := fun a => a.1) (μf := fun a => a.2) fcX11 (mX11_cheapest S m36 cx cy x0 (32 : Int32)) (fun _ => rfl) rfl (fun _ h => ifok h) dX11_digest_184 q1057 kX11_cheapest rfl ⟨by decide, by decide⟩ rfl (Nat.le_of_ble_eq_true rfl) (fun r37 => ?_)
  refine x_i2l (pc := 187) dX11_digest_187 ?_
  refine x_callVv (pc := 188) (As := [.long r37.1.toInt64]) (rest := []) (μf := fun a => a) fcX11 (mX11_adds S r37.2 cx cy x0 r37.1.toInt64) (fun _ => rfl) rfl (fun _ h => ifok h) dX11_digest_188 q1229 kX11_adds rfl ⟨by decide, by decide⟩ rfl (Nat.le_of_ble_eq_true rfl) (fun m38 => ?_)
  refine x_iconst (pc := 191) (v := 0) dX11_digest_191 (by decide) ?_
  refine x_istore_n (pc := 192) dX11_digest_192 (i := 1) rfl (by decide) (l' := [some (.ref x0), some (.int (0 : Int32))]) rfl ?_
  exact xX11_digest_193 FU m38 x0 (0 : Int32) 
set_option maxHeartbeats 4000000 in
theorem xX11_digest_25 {n0 c0 s0 cx cy : Nat} {S : mSh} : ∀ (n : Nat) (μ : mMm) (x0 : Nat) (x1 : Int32), mX MX11_digest n0 c0 s0 25 [some (.ref x0), some (.int x1)] [] (S, μ, cx, cy) (iMJ S cx cy) (lX11_digest_25 S n μ x0 x1) := by
  intro n
  induction n with
  | zero => intros; exact x_none
  | succ n ih =>
    intro μ x0 x1
    unfold lX11_digest_25
    refine x_iload_n (pc := 25) dX11_digest_25 (i := 1) rfl rfl ?_
    refine x_aload_n (pc := 26) dX11_digest_26 (i := 0) rfl rfl ?_
    refine x_gR (pc := 27) (k := 0) fcX11 dX11_digest_27 q136 (by decide) rfl (fun v6 => ?_)
    refine x_iconst (pc := 30) (v := 0) dX11_digest_30 (by decide) ?_
    refine x_ldI (pc := 31) dX11_digest_31 (fun v7 => ?_)
    refine x_icmp_ge (pc := 32) (tgt := 55) dX11_digest_32 (by decide) ?_ ?_
    · refine x_aload_n (pc := 55) dX11_digest_55 (i := 0) rfl rfl ?_
      refine x_aload_n (pc := 56) dX11_digest_56 (i := 0) rfl rfl ?_
      refine x_gR (pc := 57) (k := 0) fcX11 dX11_digest_57 q136 (by decide) rfl (fun v8 => ?_)
      refine x_iconst (pc := 60) (v := 1) dX11_digest_60 (by decide) ?_
      refine x_ldI (pc := 61) dX11_digest_61 (fun v9 => ?_)
      refine x_i2l (pc := 62) dX11_digest_62 ?_
      refine x_callVv (pc := 63) (As := [.long v9.toInt64]) (rest := []) (μf := fun a => a) fcX11 (mX11_adds S μ cx cy x0 v9.toInt64) (fun _ => rfl) rfl (fun _ h => ifok h) dX11_digest_63 q1229 kX11_adds rfl ⟨by decide, by decide⟩ rfl (Nat.le_of_ble_eq_true rfl) (fun m10 => ?_)
      refine x_aload_n (pc := 66) dX11_digest_66 (i := 0) rfl rfl ?_
      refine x_aload_n (pc := 67) dX11_digest_67 (i := 0) rfl rfl ?_
      refine x_gR (pc := 68) (k := 0) fcX11 dX11_digest_68 q136 (by decide) rfl (fun v11 => ?_)
      refine x_iconst (pc := 71) (v := 2) dX11_digest_71 (by decide) ?_
      refine x_ldI (pc := 72) dX11_digest_72 (fun v12 => ?_)
      refine x_i2l (pc := 73) dX11_digest_73 ?_
      refine x_callVv (pc := 74) (As := [.long v12.toInt64]) (rest := []) (μf := fun a => a) fcX11 (mX11_adds S m10 cx cy x0 v12.toInt64) (fun _ => rfl) rfl (fun _ h => ifok h) dX11_digest_74 q1229 kX11_adds rfl ⟨by decide, by decide⟩ rfl (Nat.le_of_ble_eq_true rfl) (fun m13 => ?_)
      refine x_aload_n (pc := 77) dX11_digest_77 (i := 0) rfl rfl ?_
      refine x_aload_n (pc := 78) dX11_digest_78 (i := 0) rfl rfl ?_
      refine x_gR (pc := 79) (k := 0) fcX11 dX11_digest_79 q136 (by decide) rfl (fun v14 => ?_)
      refine x_iconst (pc := 82) (v := 3) dX11_digest_82 (by decide) ?_
      refine x_ldI (pc := 83) dX11_digest_83 (fun v15 => ?_)
      refine x_i2l (pc := 84) dX11_digest_84 ?_
      refine x_callVv (pc := 85) (As := [.long v15.toInt64]) (rest := []) (μf := fun a => a) fcX11 (mX11_adds S m13 cx cy x0 v15.toInt64) (fun _ => rfl) rfl (fun _ h => ifok h) dX11_digest_85 q1229 kX11_adds rfl ⟨by decide, by decide⟩ rfl (Nat.le_of_ble_eq_true rfl) (fun m16 => ?_)
      refine x_aload_n (pc := 88) dX11_digest_88 (i := 0) rfl rfl ?_
      refine x_aload_n (pc := 89) dX11_digest_89 (i := 0) rfl rfl ?_
      refine x_gR (pc := 90) (k := 0) fcX11 dX11_digest_90 q136 (by decide) rfl (fun v17 => ?_)
      refine x_bipush (pc := 93) (v := 6) dX11_digest_93 (by decide) ?_
      refine x_ldI (pc := 95) dX11_digest_95 (fun v18 => ?_)
      refine x_i2l (pc := 96) dX11_digest_96 ?_
      refine x_callVv (pc := 97) (As := [.long v18.toInt64]) (rest := []) (μf := fun a => a) fcX11 (mX11_adds S m16 cx cy x0 v18.toInt64) (fun _ => rfl) rfl (fun _ h => ifok h) dX11_digest_97 q1229 kX11_adds rfl ⟨by decide, by decide⟩ rfl (Nat.le_of_ble_eq_true rfl) (fun m19 => ?_)
      refine x_aload_n (pc := 100) dX11_digest_100 (i := 0) rfl rfl ?_
      refine x_aload_n (pc := 101) dX11_digest_101 (i := 0) rfl rfl ?_
      refine x_callVi (pc := 102) (As := []) (rest := [.ref x0]) (vx := fun a => a) (μf := fun _ => m19) fcX11 (mX11_cost S m19 cx cy x0) (fun _ => rfl) rfl (fun _ h => ifok h) dX11_digest_102 q901 kX11_cost rfl ⟨by decide, by decide⟩ rfl (Nat.le_of_ble_eq_true rfl) (fun v20 => ?_)
      refine x_i2l (pc := 105) dX11_digest_105 ?_
      refine x_callVv (pc := 106) (As := [.long v20.toInt64]) (rest := []) (μf := fun a => a) fcX11 (mX11_adds S m19 cx cy x0 v20.toInt64) (fun _ => rfl) rfl (fun _ h => ifok h) dX11_digest_106 q1229 kX11_adds rfl ⟨by decide, by decide⟩ rfl (Nat.le_of_ble_eq_true rfl) (fun m21 => ?_)
      refine x_aload_n (pc := 109) dX11_digest_109 (i := 0) rfl rfl ?_
      refine x_aload_n (pc := 110) dX11_digest_110 (i := 0) rfl rfl ?_
      refine x_callVi (pc := 111) (As := []) (rest := [.ref x0]) (vx := fun a => a) (μf := fun _ => m21) fcX11 (mX11_stands S m21 cx cy x0) (fun _ => rfl) rfl (fun _ h => ifok h) dX11_digest_111 q918 kX11_stands rfl ⟨by decide, by decide⟩ rfl (Nat.le_of_ble_eq_true rfl) (fun v22 => ?_)
      refine x_i2l (pc := 114) dX11_digest_114 ?_
      refine x_callVv (pc := 115) (As := [.long v22.toInt64]) (rest := []) (μf := fun a => a) fcX11 (mX11_adds S m21 cx cy x0 v22.toInt64) (fun _ => rfl) rfl (fun _ h => ifok h) dX11_digest_115 q1229 kX11_adds rfl ⟨by decide, by decide⟩ rfl (Nat.le_of_ble_eq_true rfl) (fun m23 => ?_)
      refine x_aload_n (pc := 118) dX11_digest_118 (i := 0) rfl rfl ?_
      refine x_callVv (pc := 119) (As := []) (rest := []) (μf := fun a => a) fcX11 (mX11_unpacks S m23 cx cy x0) (fun _ => rfl) rfl (fun _ h => ifok h) dX11_digest_119 q490 kX11_unpacks rfl ⟨by decide, by decide⟩ rfl (Nat.le_of_ble_eq_true rfl) (fun m24 => ?_)
      refine x_aload_n (pc := 122) dX11_digest_122 (i := 0) rfl rfl ?_
      refine x_aload_n (pc := 123) dX11_digest_123 (i := 0) rfl rfl ?_
      refine x_gI (pc := 124) (k := 12) fcX11 dX11_digest_124 q489 (by decide) rfl (fun v25 => ?_)
      refine x_i2l (pc := 127) dX11_digest_127 ?_
      refine x_callVv (pc := 128) (As := [.long v25.toInt64]) (rest := []) (μf := fun a => a) fcX11 (mX11_adds S m24 cx cy x0 v25.toInt64) (fun _ => rfl) rfl (fun _ h => ifok h) dX11_digest_128 q1229 kX11_adds rfl ⟨by decide, by decide⟩ rfl (Nat.le_of_ble_eq_true rfl) (fun m26 => ?_)
      refine x_aload_n (pc := 131) dX11_digest_131 (i := 0) rfl rfl ?_
      refine x_aload_n (pc := 132) dX11_digest_132 (i := 0) rfl rfl ?_
      refine x_gI (pc := 133) (k := 13) fcX11 dX11_digest_133 q494 (by decide) rfl (fun v27 => ?_)
      refine x_i2l (pc := 136) dX11_digest_136 ?_
      refine x_callVv (pc := 137) (As := [.long v27.toInt64]) (rest := []) (μf := fun a => a) fcX11 (mX11_adds S m26 cx cy x0 v27.toInt64) (fun _ => rfl) rfl (fun _ h => ifok h) dX11_digest_137 q1229 kX11_adds rfl ⟨by decide, by decide⟩ rfl (Nat.le_of_ble_eq_true rfl) (fun m28 => ?_)
      refine x_aload_n (pc := 140) dX11_digest_140 (i := 0) rfl rfl ?_
      refine x_aload_n (pc := 141) dX11_digest_141 (i := 0) rfl rfl ?_
      refine x_callVi (pc := 142) (As := []) (rest := [.ref x0]) (vx := fun a => a.1) (μf := fun a => a.2) fcX11 (mX11_forText S m28 cx cy x0) (fun _ => rfl) rfl (fun _ h => ifok h) dX11_digest_142 q952 kX11_forText rfl ⟨by decide, by decide⟩ rfl (Nat.le_of_ble_eq_true rfl) (fun r29 => ?_)
      refine x_if_eq (pc := 145) (tgt := 152) dX11_digest_145 (by decide) ?_ ?_
      · refine x_lconst (pc := 152) (v := 0) dX11_digest_152 (by decide) ?_
        exact xX11_digest_153 r29.2 x0 (0 : Int64) x0 _
      · refine x_lconst (pc := 148) (v := 1) dX11_digest_148 (by decide) ?_
        refine x_goto (pc := 149) (tgt := 153) dX11_digest_149 (by decide) ?_
        exact xX11_digest_153 r29.2 x0 (1 : Int64) x0 _
    · refine x_aload_n (pc := 35) dX11_digest_35 (i := 0) rfl rfl ?_
      refine x_aload_n (pc := 36) dX11_digest_36 (i := 0) rfl rfl ?_
      refine x_gR (pc := 37) (k := 0) fcX11 dX11_digest_37 q136 (by decide) rfl (fun v95 => ?_)
      refine x_bipush (pc := 40) (v := 10) dX11_digest_40 (by decide) ?_
      refine x_iload_n (pc := 42) dX11_digest_42 (i := 1) rfl rfl ?_
      refine x_iadd (pc := 43) dX11_digest_43 ?_
      refine x_ldI (pc := 44) dX11_digest_44 (fun v96 => ?_)
      refine x_i2l (pc := 45) dX11_digest_45 ?_
      refine x_callVv (pc := 46) (As := [.long v96.toInt64]) (rest := []) (μf := fun a => a) fcX11 (mX11_adds S μ cx cy x0 v96.toInt64) (fun _ => rfl) rfl (fun _ h => ifok h) dX11_digest_46 q1229 kX11_adds rfl ⟨by decide, by decide⟩ rfl (Nat.le_of_ble_eq_true rfl) (fun m97 => ?_)
      refine x_iinc (pc := 49) (v := x1 + (1 : Int32)) dX11_digest_49 rfl (by rw [show Int32.ofInt (1) = (1 : Int32) from by decide]) (by decide) (l' := [some (.ref x0), some (.int (x1 + (1 : Int32)))]) rfl ?_
      refine x_goto (pc := 52) (tgt := 25) dX11_digest_52 (by decide) ?_
      exact ih m97 x0 (x1 + (1 : Int32)) 
set_option maxHeartbeats 4000000 in
theorem xbX11_digest {n0 c0 s0 cx cy : Nat} {S : mSh} {μ : mMm} (o : Nat) : mX MX11_digest n0 c0 s0 0 [some (.ref o), none] [] (S, μ, cx, cy) (iMJ S cx cy) (bX11_digest S μ o) := by
  unfold bX11_digest
  refine x_aload_n (pc := 0) dX11_digest_0 (i := 0) rfl rfl ?_
  refine x_iconst (pc := 1) (v := 0) dX11_digest_1 (by decide) ?_
  refine x_pI (pc := 2) (k := 11) fcX11 dX11_digest_2 q206 (by decide) rfl rfl rfl rfl (fun m1 => ?_)
  refine x_aload_n (pc := 5) dX11_digest_5 (i := 0) rfl rfl ?_
  refine x_ldc2 (pc := 6) (v := 4483) dX11_digest_6 q1227 ?_
  refine x_pL (pc := 9) (k := 19) fcX11 dX11_digest_9 q1228 (by decide) rfl rfl rfl (fun m2 => ?_)
  refine x_aload_n (pc := 12) dX11_digest_12 (i := 0) rfl rfl ?_
  refine x_aload_n (pc := 13) dX11_digest_13 (i := 0) rfl rfl ?_
  refine x_gR (pc := 14) (k := 0) fcX11 dX11_digest_14 q136 (by decide) rfl (fun v3 => ?_)
  refine x_iconst (pc := 17) (v := 0) dX11_digest_17 (by decide) ?_
  refine x_ldI (pc := 18) dX11_digest_18 (fun v4 => ?_)
  refine x_i2l (pc := 19) dX11_digest_19 ?_
  refine x_callVv (pc := 20) (As := [.long v4.toInt64]) (rest := []) (μf := fun a => a) fcX11 (mX11_adds S m2 cx cy o v4.toInt64) (fun _ => rfl) rfl (fun _ h => ifok h) dX11_digest_20 q1229 kX11_adds rfl ⟨by decide, by decide⟩ rfl (Nat.le_of_ble_eq_true rfl) (fun m5 => ?_)
  refine x_iconst (pc := 23) (v := 0) dX11_digest_23 (by decide) ?_
  refine x_istore_n (pc := 24) dX11_digest_24 (i := 1) rfl (by decide) (l' := [some (.ref o), some (.int (0 : Int32))]) rfl ?_
  exact xX11_digest_25 FU m5 o (0 : Int32) 
theorem mX11_digest (S : mSh) (μ : mMm) (cx cy : Nat) (o : Nat) : mMet MX11_digest [.ref o] (S, μ, cx, cy) (iMJ S cx cy) (fX11_digest S μ o) := mMet.of rfl (by decide) rfl (fun h => by cases h) (Nat.le_of_ble_eq_true rfl) (mX.ck (fun _ => xbX11_digest o))
