/-! printed by gen.py: each method as a function of numbers, and that the machine does what it says -/
/-! SlideMills$Letters.get(I)I -/
def bX2_get (S : mSh) (μ : mMm) (o : Nat) (p0 : Int32) : Option (Int32) := if p0 < 0 then (some (0 : Int32)) else ((gI S μ o 2 1).bind fun v1 => if v1 ≤ p0 then (some (0 : Int32)) else ((gR S o 2 0).bind fun v2 => (aL S v2 12).bind fun v3 => if v3 ≤ p0 then (some (0 : Int32)) else ((gR S o 2 0).bind fun v4 => (ldI S μ v4 p0).bind fun v5 => some v5)))
def fX2_get (S : mSh) (μ : mMm) (o : Nat) (p0 : Int32) : Option (Int32) := if mok S o 2 = true then bX2_get S μ o p0 else none
abbrev MX2_get : mM := ((yX2_get, cX2_get, 2, (some .int)), (0, 0), (false, false), RX2, eT)
theorem kX2_get : mCalV MX2_get RX2 1 := ⟨q198, q199, q48, q200, by decide +kernel⟩
set_option maxHeartbeats 4000000 in
theorem xbX2_get {n0 c0 s0 cx cy : Nat} {S : mSh} {μ : mMm} (o : Nat) (p0 : Int32) : mX MX2_get n0 c0 s0 0 [some (.ref o), some (.int p0)] [] (S, μ, cx, cy) (iPI S μ cx cy) (bX2_get S μ o p0) := by
  unfold bX2_get
  refine x_iload_n (pc := 0) dX2_get_0 (i := 1) rfl rfl ?_
  refine x_if_lt (pc := 1) (tgt := 30) dX2_get_1 (by decide) ?_ ?_
  · refine x_iconst (pc := 30) (v := 0) dX2_get_30 (by decide) ?_
    exact x_iret rfl dX2_get_31 rfl rfl
  · refine x_iload_n (pc := 4) dX2_get_4 (i := 1) rfl rfl ?_
    refine x_aload_n (pc := 5) dX2_get_5 (i := 0) rfl rfl ?_
    refine x_gI (pc := 6) (k := 1) fcX2 dX2_get_6 q63 (by decide) rfl (fun v1 => ?_)
    refine x_icmp_ge (pc := 9) (tgt := 30) dX2_get_9 (by decide) ?_ ?_
    · refine x_iconst (pc := 30) (v := 0) dX2_get_30 (by decide) ?_
      exact x_iret rfl dX2_get_31 rfl rfl
    · refine x_iload_n (pc := 12) dX2_get_12 (i := 1) rfl rfl ?_
      refine x_aload_n (pc := 13) dX2_get_13 (i := 0) rfl rfl ?_
      refine x_gR (pc := 14) (k := 0) fcX2 dX2_get_14 q62 (by decide) rfl (fun v2 => ?_)
      refine x_aL (pc := 17) dX2_get_17 (fun v3 => ?_)
      refine x_icmp_ge (pc := 18) (tgt := 30) dX2_get_18 (by decide) ?_ ?_
      · refine x_iconst (pc := 30) (v := 0) dX2_get_30 (by decide) ?_
        exact x_iret rfl dX2_get_31 rfl rfl
      · refine x_aload_n (pc := 21) dX2_get_21 (i := 0) rfl rfl ?_
        refine x_gR (pc := 22) (k := 0) fcX2 dX2_get_22 q62 (by decide) rfl (fun v4 => ?_)
        refine x_iload_n (pc := 25) dX2_get_25 (i := 1) rfl rfl ?_
        refine x_ldI (pc := 26) dX2_get_26 (fun v5 => ?_)
        refine x_goto (pc := 27) (tgt := 31) dX2_get_27 (by decide) ?_
        exact x_iret rfl dX2_get_31 rfl rfl
theorem mX2_get (S : mSh) (μ : mMm) (cx cy : Nat) (o : Nat) (p0 : Int32) : mMet MX2_get [.ref o, .int p0] (S, μ, cx, cy) (iPI S μ cx cy) (fX2_get S μ o p0) := mMet.of rfl (by decide) rfl (fun h => by cases h) (Nat.le_of_ble_eq_true rfl) (mX.ck (fun _ => xbX2_get o p0))
/-! SlideMills$Dictionary.note(II)V -/
def bX0_note (S : mSh) (μ : mMm) (o : Nat) (p0 : Int32) (p1 : Int32) : Option (mMm) := if p0 < 0 then (some μ) else (if (16 : Int32) ≤ p0 then (some μ) else (if p1 < 0 then (some μ) else ((gR S o 0 2).bind fun v1 => (aL S v1 12).bind fun v2 => if v2 ≤ p1 then (some μ) else ((gR S o 0 2).bind fun v3 => (gR S o 0 1).bind fun v4 => (ldI S μ v4 p0).bind fun v5 => (stI S μ v3 p1 v5).bind fun m6 => (gR S o 0 1).bind fun v7 => (stI S m6 v7 p0 p1).bind fun m8 => (gR S o 0 0).bind fun v9 => (ldI S m8 v9 p0).bind fun v10 => (stI S m8 v9 p0 (v10 + (1 : Int32))).bind fun m11 => some m11))))
def fX0_note (S : mSh) (μ : mMm) (o : Nat) (p0 : Int32) (p1 : Int32) : Option (mMm) := if mok S o 0 = true then bX0_note S μ o p0 p1 else none
abbrev MX0_note : mM := ((yX0_note, cX0_note, 3, none), (0, 0), (false, false), RX0, eT)
theorem kX0_note : mCalV MX0_note RX0 2 := ⟨q497, q498, q103, q499, by decide +kernel⟩
set_option maxHeartbeats 4000000 in
theorem xbX0_note {n0 c0 s0 cx cy : Nat} {S : mSh} {μ : mMm} (o : Nat) (p0 : Int32) (p1 : Int32) : mX MX0_note n0 c0 s0 0 [some (.ref o), some (.int p0), some (.int p1)] [] (S, μ, cx, cy) (iMV S cx cy) (bX0_note S μ o p0 p1) := by
  unfold bX0_note
  refine x_iload_n (pc := 0) dX0_note_0 (i := 1) rfl rfl ?_
  refine x_if_lt (pc := 1) (tgt := 52) dX0_note_1 (by decide) ?_ ?_
  · exact x_ret rfl dX0_note_52 rfl
  · refine x_iload_n (pc := 4) dX0_note_4 (i := 1) rfl rfl ?_
    refine x_bipush (pc := 5) (v := 16) dX0_note_5 (by decide) ?_
    refine x_icmp_ge (pc := 7) (tgt := 52) dX0_note_7 (by decide) ?_ ?_
    · exact x_ret rfl dX0_note_52 rfl
    · refine x_iload_n (pc := 10) dX0_note_10 (i := 2) rfl rfl ?_
      refine x_if_lt (pc := 11) (tgt := 52) dX0_note_11 (by decide) ?_ ?_
      · exact x_ret rfl dX0_note_52 rfl
      · refine x_iload_n (pc := 14) dX0_note_14 (i := 2) rfl rfl ?_
        refine x_aload_n (pc := 15) dX0_note_15 (i := 0) rfl rfl ?_
        refine x_gR (pc := 16) (k := 2) fcX0 dX0_note_16 q111 (by decide) rfl (fun v1 => ?_)
        refine x_aL (pc := 19) dX0_note_19 (fun v2 => ?_)
        refine x_icmp_ge (pc := 20) (tgt := 52) dX0_note_20 (by decide) ?_ ?_
        · exact x_ret rfl dX0_note_52 rfl
        · refine x_aload_n (pc := 23) dX0_note_23 (i := 0) rfl rfl ?_
          refine x_gR (pc := 24) (k := 2) fcX0 dX0_note_24 q111 (by decide) rfl (fun v3 => ?_)
          refine x_iload_n (pc := 27) dX0_note_27 (i := 2) rfl rfl ?_
          refine x_aload_n (pc := 28) dX0_note_28 (i := 0) rfl rfl ?_
          refine x_gR (pc := 29) (k := 1) fcX0 dX0_note_29 q110 (by decide) rfl (fun v4 => ?_)
          refine x_iload_n (pc := 32) dX0_note_32 (i := 1) rfl rfl ?_
          refine x_ldI (pc := 33) dX0_note_33 (fun v5 => ?_)
          refine x_stI (pc := 34) dX0_note_34 (fun m6 => ?_)
          refine x_aload_n (pc := 35) dX0_note_35 (i := 0) rfl rfl ?_
          refine x_gR (pc := 36) (k := 1) fcX0 dX0_note_36 q110 (by decide) rfl (fun v7 => ?_)
          refine x_iload_n (pc := 39) dX0_note_39 (i := 1) rfl rfl ?_
          refine x_iload_n (pc := 40) dX0_note_40 (i := 2) rfl rfl ?_
          refine x_stI (pc := 41) dX0_note_41 (fun m8 => ?_)
          refine x_aload_n (pc := 42) dX0_note_42 (i := 0) rfl rfl ?_
          refine x_gR (pc := 43) (k := 0) fcX0 dX0_note_43 q109 (by decide) rfl (fun v9 => ?_)
          refine x_iload_n (pc := 46) dX0_note_46 (i := 1) rfl rfl ?_
          refine x_dup2 (pc := 47) dX0_note_47 rfl rfl ?_
          refine x_ldI (pc := 48) dX0_note_48 (fun v10 => ?_)
          refine x_iconst (pc := 49) (v := 1) dX0_note_49 (by decide) ?_
          refine x_iadd (pc := 50) dX0_note_50 ?_
          refine x_stI (pc := 51) dX0_note_51 (fun m11 => ?_)
          exact x_ret rfl dX0_note_52 rfl
theorem mX0_note (S : mSh) (μ : mMm) (cx cy : Nat) (o : Nat) (p0 : Int32) (p1 : Int32) : mMet MX0_note [.ref o, .int p0, .int p1] (S, μ, cx, cy) (iMV S cx cy) (fX0_note S μ o p0 p1) := mMet.of rfl (by decide) rfl (fun h => by cases h) (Nat.le_of_ble_eq_true rfl) (mX.ck (fun _ => xbX0_note o p0 p1))
/-! SlideMills$Dictionary.read(LSlideMills$Letters;)V -/
def lX0_read_30 (S : mSh) : Nat → mMm → Nat → Nat → Int32 → Option (mMm)
  | 0, _, _, _, _ => none
  | n + 1, μ, x0, x1, x2 => (gI S μ x1 2 1).bind fun v1 => if v1 ≤ (x2 + (1 : Int32)) then (some μ) else ((fX2_get S μ x1 x2).bind fun v2 => (fX2_get S μ x1 (x2 + (1 : Int32))).bind fun v3 => (fX0_note S μ x0 (((4 : Int32) * v2) + v3) x2).bind fun m4 => lX0_read_30 S n m4 x0 x1 (x2 + (1 : Int32)))
def lX0_read_2 (S : mSh) : Nat → mMm → Nat → Nat → Int32 → Option (mMm)
  | 0, _, _, _, _ => none
  | n + 1, μ, x0, x1, x2 => if (16 : Int32) ≤ x2 then (lX0_read_30 S FU μ x0 x1 (0 : Int32)) else ((gR S x0 0 0).bind fun v5 => (stI S μ v5 x2 (0 : Int32)).bind fun m6 => (gR S x0 0 1).bind fun v7 => (stI S m6 v7 x2 (-1 : Int32)).bind fun m8 => lX0_read_2 S n m8 x0 x1 (x2 + (1 : Int32)))
def bX0_read (S : mSh) (μ : mMm) (o : Nat) (p0 : Nat) : Option (mMm) := lX0_read_2 S FU μ o p0 (0 : Int32)
def fX0_read (S : mSh) (μ : mMm) (o : Nat) (p0 : Nat) : Option (mMm) := if mok S o 0 = true then bX0_read S μ o p0 else none
abbrev MX0_read : mM := ((yX0_read, cX0_read, 3, none), (1, 22), (false, false), RX0, eT)
theorem kX0_read : mCalV MX0_read RX0 1 := ⟨q491, q492, q103, q493, by decide +kernel⟩
set_option maxHeartbeats 4000000 in
theorem xX0_read_30 {n0 c0 s0 cx cy : Nat} {S : mSh} : ∀ (n : Nat) (μ : mMm) (x0 : Nat) (x1 : Nat) (x2 : Int32), mX MX0_read n0 c0 s0 30 [some (.ref x0), some (.ref x1), some (.int x2)] [] (S, μ, cx, cy) (iMV S cx cy) (lX0_read_30 S n μ x0 x1 x2) := by
  intro n
  induction n with
  | zero => intros; exact x_none
  | succ n ih =>
    intro μ x0 x1 x2
    unfold lX0_read_30
    refine x_iload_n (pc := 30) dX0_read_30 (i := 2) rfl rfl ?_
    refine x_iconst (pc := 31) (v := 1) dX0_read_31 (by decide) ?_
    refine x_iadd (pc := 32) dX0_read_32 ?_
    refine x_aload_n (pc := 33) dX0_read_33 (i := 1) rfl rfl ?_
    refine x_gI (pc := 34) (k := 1) fcX2 dX0_read_34 q494 (by decide) rfl (fun v1 => ?_)
    refine x_icmp_ge (pc := 37) (tgt := 66) dX0_read_37 (by decide) ?_ ?_
    · exact x_ret rfl dX0_read_66 rfl
    · refine x_aload_n (pc := 40) dX0_read_40 (i := 0) rfl rfl ?_
      refine x_iconst (pc := 41) (v := 4) dX0_read_41 (by decide) ?_
      refine x_aload_n (pc := 42) dX0_read_42 (i := 1) rfl rfl ?_
      refine x_iload_n (pc := 43) dX0_read_43 (i := 2) rfl rfl ?_
      refine x_callVi (pc := 44) (As := [.int x2]) (rest := [.int (4 : Int32), .ref x0]) (vx := fun a => a) (μf := fun _ => μ) fcX2 (mX2_get S μ cx cy x1 x2) (fun _ => rfl) rfl (fun _ h => ifok h) dX0_read_44 q495 kX2_get rfl ⟨by decide, by decide⟩ rfl (Nat.le_of_ble_eq_true rfl) (fun v2 => ?_)
      refine x_imul (pc := 47) dX0_read_47 ?_
      refine x_aload_n (pc := 48) dX0_read_48 (i := 1) rfl rfl ?_
      refine x_iload_n (pc := 49) dX0_read_49 (i := 2) rfl rfl ?_
      refine x_iconst (pc := 50) (v := 1) dX0_read_50 (by decide) ?_
      refine x_iadd (pc := 51) dX0_read_51 ?_
      refine x_callVi (pc := 52) (As := [.int (x2 + (1 : Int32))]) (rest := [.int ((4 : Int32) * v2), .ref x0]) (vx := fun a => a) (μf := fun _ => μ) fcX2 (mX2_get S μ cx cy x1 (x2 + (1 : Int32))) (fun _ => rfl) rfl (fun _ h => ifok h) dX0_read_52 q495 kX2_get rfl ⟨by decide, by decide⟩ rfl (Nat.le_of_ble_eq_true rfl) (fun v3 => ?_)
      refine x_iadd (pc := 55) dX0_read_55 ?_
      refine x_iload_n (pc := 56) dX0_read_56 (i := 2) rfl rfl ?_
      refine x_callVv (pc := 57) (As := [.int (((4 : Int32) * v2) + v3), .int x2]) (rest := []) (μf := fun a => a) fcX0 (mX0_note S μ cx cy x0 (((4 : Int32) * v2) + v3) x2) (fun _ => rfl) rfl (fun _ h => ifok h) dX0_read_57 q496 kX0_note rfl ⟨by decide, by decide⟩ rfl (Nat.le_of_ble_eq_true rfl) (fun m4 => ?_)
      refine x_iinc (pc := 60) (v := x2 + (1 : Int32)) dX0_read_60 rfl (by rw [show Int32.ofInt (1) = (1 : Int32) from by decide]) (by decide) (l' := [some (.ref x0), some (.ref x1), some (.int (x2 + (1 : Int32)))]) rfl ?_
      refine x_goto (pc := 63) (tgt := 30) dX0_read_63 (by decide) ?_
      exact ih m4 x0 x1 (x2 + (1 : Int32)) 
set_option maxHeartbeats 4000000 in
theorem xX0_read_2 {n0 c0 s0 cx cy : Nat} {S : mSh} : ∀ (n : Nat) (μ : mMm) (x0 : Nat) (x1 : Nat) (x2 : Int32), mX MX0_read n0 c0 s0 2 [some (.ref x0), some (.ref x1), some (.int x2)] [] (S, μ, cx, cy) (iMV S cx cy) (lX0_read_2 S n μ x0 x1 x2) := by
  intro n
  induction n with
  | zero => intros; exact x_none
  | succ n ih =>
    intro μ x0 x1 x2
    unfold lX0_read_2
    refine x_iload_n (pc := 2) dX0_read_2 (i := 2) rfl rfl ?_
    refine x_bipush (pc := 3) (v := 16) dX0_read_3 (by decide) ?_
    refine x_icmp_ge (pc := 5) (tgt := 28) dX0_read_5 (by decide) ?_ ?_
    · refine x_iconst (pc := 28) (v := 0) dX0_read_28 (by decide) ?_
      refine x_istore_n (pc := 29) dX0_read_29 (i := 2) rfl (by decide) (l' := [some (.ref x0), some (.ref x1), some (.int (0 : Int32))]) rfl ?_
      exact xX0_read_30 FU μ x0 x1 (0 : Int32) 
    · refine x_aload_n (pc := 8) dX0_read_8 (i := 0) rfl rfl ?_
      refine x_gR (pc := 9) (k := 0) fcX0 dX0_read_9 q109 (by decide) rfl (fun v5 => ?_)
      refine x_iload_n (pc := 12) dX0_read_12 (i := 2) rfl rfl ?_
      refine x_iconst (pc := 13) (v := 0) dX0_read_13 (by decide) ?_
      refine x_stI (pc := 14) dX0_read_14 (fun m6 => ?_)
      refine x_aload_n (pc := 15) dX0_read_15 (i := 0) rfl rfl ?_
      refine x_gR (pc := 16) (k := 1) fcX0 dX0_read_16 q110 (by decide) rfl (fun v7 => ?_)
      refine x_iload_n (pc := 19) dX0_read_19 (i := 2) rfl rfl ?_
      refine x_iconst (pc := 20) (v := -1) dX0_read_20 (by decide) ?_
      refine x_stI (pc := 21) dX0_read_21 (fun m8 => ?_)
      refine x_iinc (pc := 22) (v := x2 + (1 : Int32)) dX0_read_22 rfl (by rw [show Int32.ofInt (1) = (1 : Int32) from by decide]) (by decide) (l' := [some (.ref x0), some (.ref x1), some (.int (x2 + (1 : Int32)))]) rfl ?_
      refine x_goto (pc := 25) (tgt := 2) dX0_read_25 (by decide) ?_
      exact ih m8 x0 x1 (x2 + (1 : Int32)) 
set_option maxHeartbeats 4000000 in
theorem xbX0_read {n0 c0 s0 cx cy : Nat} {S : mSh} {μ : mMm} (o : Nat) (p0 : Nat) : mX MX0_read n0 c0 s0 0 [some (.ref o), some (.ref p0), none] [] (S, μ, cx, cy) (iMV S cx cy) (bX0_read S μ o p0) := by
  unfold bX0_read
  refine x_iconst (pc := 0) (v := 0) dX0_read_0 (by decide) ?_
  refine x_istore_n (pc := 1) dX0_read_1 (i := 2) rfl (by decide) (l' := [some (.ref o), some (.ref p0), some (.int (0 : Int32))]) rfl ?_
  exact xX0_read_2 FU μ o p0 (0 : Int32) 
theorem mX0_read (S : mSh) (μ : mMm) (cx cy : Nat) (o : Nat) (p0 : Nat) : mMet MX0_read [.ref o, .ref p0] (S, μ, cx, cy) (iMV S cx cy) (fX0_read S μ o p0) := mMet.of rfl (by decide) rfl (fun h => by cases h) (Nat.le_of_ble_eq_true rfl) (mX.ck (fun _ => xbX0_read o p0))
/-! SlideMills$Dictionary.times(I)I -/
def bX0_times (S : mSh) (μ : mMm) (o : Nat) (p0 : Int32) : Option (Int32) := if p0 < 0 then (some (0 : Int32)) else ((gR S o 0 0).bind fun v1 => (aL S v1 12).bind fun v2 => if v2 ≤ p0 then (some (0 : Int32)) else ((gR S o 0 0).bind fun v3 => (ldI S μ v3 p0).bind fun v4 => some v4))
def fX0_times (S : mSh) (μ : mMm) (o : Nat) (p0 : Int32) : Option (Int32) := if mok S o 0 = true then bX0_times S μ o p0 else none
abbrev MX0_times : mM := ((yX0_times, cX0_times, 2, (some .int)), (0, 0), (false, false), RX0, eT)
theorem kX0_times : mCalV MX0_times RX0 1 := ⟨q521, q522, q103, q523, by decide +kernel⟩
set_option maxHeartbeats 4000000 in
theorem xbX0_times {n0 c0 s0 cx cy : Nat} {S : mSh} {μ : mMm} (o : Nat) (p0 : Int32) : mX MX0_times n0 c0 s0 0 [some (.ref o), some (.int p0)] [] (S, μ, cx, cy) (iPI S μ cx cy) (bX0_times S μ o p0) := by
  unfold bX0_times
  refine x_iload_n (pc := 0) dX0_times_0 (i := 1) rfl rfl ?_
  refine x_if_lt (pc := 1) (tgt := 22) dX0_times_1 (by decide) ?_ ?_
  · refine x_iconst (pc := 22) (v := 0) dX0_times_22 (by decide) ?_
    exact x_iret rfl dX0_times_23 rfl rfl
  · refine x_iload_n (pc := 4) dX0_times_4 (i := 1) rfl rfl ?_
    refine x_aload_n (pc := 5) dX0_times_5 (i := 0) rfl rfl ?_
    refine x_gR (pc := 6) (k := 0) fcX0 dX0_times_6 q109 (by decide) rfl (fun v1 => ?_)
    refine x_aL (pc := 9) dX0_times_9 (fun v2 => ?_)
    refine x_icmp_ge (pc := 10) (tgt := 22) dX0_times_10 (by decide) ?_ ?_
    · refine x_iconst (pc := 22) (v := 0) dX0_times_22 (by decide) ?_
      exact x_iret rfl dX0_times_23 rfl rfl
    · refine x_aload_n (pc := 13) dX0_times_13 (i := 0) rfl rfl ?_
      refine x_gR (pc := 14) (k := 0) fcX0 dX0_times_14 q109 (by decide) rfl (fun v3 => ?_)
      refine x_iload_n (pc := 17) dX0_times_17 (i := 1) rfl rfl ?_
      refine x_ldI (pc := 18) dX0_times_18 (fun v4 => ?_)
      refine x_goto (pc := 19) (tgt := 23) dX0_times_19 (by decide) ?_
      exact x_iret rfl dX0_times_23 rfl rfl
theorem mX0_times (S : mSh) (μ : mMm) (cx cy : Nat) (o : Nat) (p0 : Int32) : mMet MX0_times [.ref o, .int p0] (S, μ, cx, cy) (iPI S μ cx cy) (fX0_times S μ o p0) := mMet.of rfl (by decide) rfl (fun h => by cases h) (Nat.le_of_ble_eq_true rfl) (mX.ck (fun _ => xbX0_times o p0))
/-! SlideMills$Dictionary.lastPlace(I)I -/
def bX0_lastPlace (S : mSh) (μ : mMm) (o : Nat) (p0 : Int32) : Option (Int32) := if p0 < 0 then (some (-1 : Int32)) else ((gR S o 0 1).bind fun v1 => (aL S v1 12).bind fun v2 => if v2 ≤ p0 then (some (-1 : Int32)) else ((gR S o 0 1).bind fun v3 => (ldI S μ v3 p0).bind fun v4 => some v4))
def fX0_lastPlace (S : mSh) (μ : mMm) (o : Nat) (p0 : Int32) : Option (Int32) := if mok S o 0 = true then bX0_lastPlace S μ o p0 else none
abbrev MX0_lastPlace : mM := ((yX0_lastPlace, cX0_lastPlace, 2, (some .int)), (0, 0), (false, false), RX0, eT)
theorem kX0_lastPlace : mCalV MX0_lastPlace RX0 1 := ⟨q529, q530, q103, q531, by decide +kernel⟩
set_option maxHeartbeats 4000000 in
theorem xbX0_lastPlace {n0 c0 s0 cx cy : Nat} {S : mSh} {μ : mMm} (o : Nat) (p0 : Int32) : mX MX0_lastPlace n0 c0 s0 0 [some (.ref o), some (.int p0)] [] (S, μ, cx, cy) (iPI S μ cx cy) (bX0_lastPlace S μ o p0) := by
  unfold bX0_lastPlace
  refine x_iload_n (pc := 0) dX0_lastPlace_0 (i := 1) rfl rfl ?_
  refine x_if_lt (pc := 1) (tgt := 22) dX0_lastPlace_1 (by decide) ?_ ?_
  · refine x_iconst (pc := 22) (v := -1) dX0_lastPlace_22 (by decide) ?_
    exact x_iret rfl dX0_lastPlace_23 rfl rfl
  · refine x_iload_n (pc := 4) dX0_lastPlace_4 (i := 1) rfl rfl ?_
    refine x_aload_n (pc := 5) dX0_lastPlace_5 (i := 0) rfl rfl ?_
    refine x_gR (pc := 6) (k := 1) fcX0 dX0_lastPlace_6 q110 (by decide) rfl (fun v1 => ?_)
    refine x_aL (pc := 9) dX0_lastPlace_9 (fun v2 => ?_)
    refine x_icmp_ge (pc := 10) (tgt := 22) dX0_lastPlace_10 (by decide) ?_ ?_
    · refine x_iconst (pc := 22) (v := -1) dX0_lastPlace_22 (by decide) ?_
      exact x_iret rfl dX0_lastPlace_23 rfl rfl
    · refine x_aload_n (pc := 13) dX0_lastPlace_13 (i := 0) rfl rfl ?_
      refine x_gR (pc := 14) (k := 1) fcX0 dX0_lastPlace_14 q110 (by decide) rfl (fun v3 => ?_)
      refine x_iload_n (pc := 17) dX0_lastPlace_17 (i := 1) rfl rfl ?_
      refine x_ldI (pc := 18) dX0_lastPlace_18 (fun v4 => ?_)
      refine x_goto (pc := 19) (tgt := 23) dX0_lastPlace_19 (by decide) ?_
      exact x_iret rfl dX0_lastPlace_23 rfl rfl
theorem mX0_lastPlace (S : mSh) (μ : mMm) (cx cy : Nat) (o : Nat) (p0 : Int32) : mMet MX0_lastPlace [.ref o, .int p0] (S, μ, cx, cy) (iPI S μ cx cy) (fX0_lastPlace S μ o p0) := mMet.of rfl (by decide) rfl (fun h => by cases h) (Nat.le_of_ble_eq_true rfl) (mX.ck (fun _ => xbX0_lastPlace o p0))
/-! SlideMills$Dictionary.earlierPlace(I)I -/
def bX0_earlierPlace (S : mSh) (μ : mMm) (o : Nat) (p0 : Int32) : Option (Int32) := if p0 < 0 then (some (-1 : Int32)) else ((gR S o 0 2).bind fun v1 => (aL S v1 12).bind fun v2 => if v2 ≤ p0 then (some (-1 : Int32)) else ((gR S o 0 2).bind fun v3 => (ldI S μ v3 p0).bind fun v4 => some v4))
def fX0_earlierPlace (S : mSh) (μ : mMm) (o : Nat) (p0 : Int32) : Option (Int32) := if mok S o 0 = true then bX0_earlierPlace S μ o p0 else none
abbrev MX0_earlierPlace : mM := ((yX0_earlierPlace, cX0_earlierPlace, 2, (some .int)), (0, 0), (false, false), RX0, eT)
theorem kX0_earlierPlace : mCalV MX0_earlierPlace RX0 1 := ⟨q505, q506, q103, q507, by decide +kernel⟩
set_option maxHeartbeats 4000000 in
theorem xbX0_earlierPlace {n0 c0 s0 cx cy : Nat} {S : mSh} {μ : mMm} (o : Nat) (p0 : Int32) : mX MX0_earlierPlace n0 c0 s0 0 [some (.ref o), some (.int p0)] [] (S, μ, cx, cy) (iPI S μ cx cy) (bX0_earlierPlace S μ o p0) := by
  unfold bX0_earlierPlace
  refine x_iload_n (pc := 0) dX0_earlierPlace_0 (i := 1) rfl rfl ?_
  refine x_if_lt (pc := 1) (tgt := 22) dX0_earlierPlace_1 (by decide) ?_ ?_
  · refine x_iconst (pc := 22) (v := -1) dX0_earlierPlace_22 (by decide) ?_
    exact x_iret rfl dX0_earlierPlace_23 rfl rfl
  · refine x_iload_n (pc := 4) dX0_earlierPlace_4 (i := 1) rfl rfl ?_
    refine x_aload_n (pc := 5) dX0_earlierPlace_5 (i := 0) rfl rfl ?_
    refine x_gR (pc := 6) (k := 2) fcX0 dX0_earlierPlace_6 q111 (by decide) rfl (fun v1 => ?_)
    refine x_aL (pc := 9) dX0_earlierPlace_9 (fun v2 => ?_)
    refine x_icmp_ge (pc := 10) (tgt := 22) dX0_earlierPlace_10 (by decide) ?_ ?_
    · refine x_iconst (pc := 22) (v := -1) dX0_earlierPlace_22 (by decide) ?_
      exact x_iret rfl dX0_earlierPlace_23 rfl rfl
    · refine x_aload_n (pc := 13) dX0_earlierPlace_13 (i := 0) rfl rfl ?_
      refine x_gR (pc := 14) (k := 2) fcX0 dX0_earlierPlace_14 q111 (by decide) rfl (fun v3 => ?_)
      refine x_iload_n (pc := 17) dX0_earlierPlace_17 (i := 1) rfl rfl ?_
      refine x_ldI (pc := 18) dX0_earlierPlace_18 (fun v4 => ?_)
      refine x_goto (pc := 19) (tgt := 23) dX0_earlierPlace_19 (by decide) ?_
      exact x_iret rfl dX0_earlierPlace_23 rfl rfl
theorem mX0_earlierPlace (S : mSh) (μ : mMm) (cx cy : Nat) (o : Nat) (p0 : Int32) : mMet MX0_earlierPlace [.ref o, .int p0] (S, μ, cx, cy) (iPI S μ cx cy) (fX0_earlierPlace S μ o p0) := mMet.of rfl (by decide) rfl (fun h => by cases h) (Nat.le_of_ble_eq_true rfl) (mX.ck (fun _ => xbX0_earlierPlace o p0))
/-! SlideMills$Dictionary.commonest()I -/
def lX0_commonest_27 (k4 : Nat → Int32 → Int32 → Option (Int32)) (S : mSh) (μ : mMm) (x0 : Nat) (x1 : Int32) (x2 : Int32) : Option (Int32) := k4 x0 x1 (x2 + (1 : Int32))
def lX0_commonest_4 (S : mSh) (μ : mMm) : Nat → Nat → Int32 → Int32 → Option (Int32)
  | 0, _, _, _ => none
  | n + 1, x0, x1, x2 => if (16 : Int32) ≤ x2 then (some x1) else ((gR S x0 0 0).bind fun v1 => (ldI S μ v1 x2).bind fun v2 => (gR S x0 0 0).bind fun v3 => (ldI S μ v3 x1).bind fun v4 => if v2 ≤ v4 then (lX0_commonest_27 (lX0_commonest_4 S μ n) S μ x0 x1 x2) else (lX0_commonest_27 (lX0_commonest_4 S μ n) S μ x0 x2 x2))
def bX0_commonest (S : mSh) (μ : mMm) (o : Nat) : Option (Int32) := lX0_commonest_4 S μ FU o (0 : Int32) (1 : Int32)
def fX0_commonest (S : mSh) (μ : mMm) (o : Nat) : Option (Int32) := if mok S o 0 = true then bX0_commonest S μ o else none
abbrev MX0_commonest : mM := ((yX0_commonest, cX0_commonest, 3, (some .int)), (0, 0), (false, false), RX0, eT)
theorem kX0_commonest : mCalV MX0_commonest RX0 0 := ⟨q553, q554, q103, q555, by decide +kernel⟩
set_option maxHeartbeats 4000000 in
theorem xX0_commonest_27 {n0 c0 s0 cx cy : Nat} {S : mSh} {μ : mMm} {k4 : Nat → Int32 → Int32 → Option (Int32)} (hk4 : ∀ (x0 : Nat) (x1 : Int32) (x2 : Int32), mX MX0_commonest n0 c0 s0 4 [some (.ref x0), some (.int x1), some (.int x2)] [] (S, μ, cx, cy) (iPI S μ cx cy) (k4 x0 x1 x2)) (x0 : Nat) (x1 : Int32) (x2 : Int32) : mX MX0_commonest n0 c0 s0 27 [some (.ref x0), some (.int x1), some (.int x2)] [] (S, μ, cx, cy) (iPI S μ cx cy) (lX0_commonest_27 k4 S μ x0 x1 x2) := by
  unfold lX0_commonest_27
  refine x_iinc (pc := 27) (v := x2 + (1 : Int32)) dX0_commonest_27 rfl (by rw [show Int32.ofInt (1) = (1 : Int32) from by decide]) (by decide) (l' := [some (.ref x0), some (.int x1), some (.int (x2 + (1 : Int32)))]) rfl ?_
  refine x_goto (pc := 30) (tgt := 4) dX0_commonest_30 (by decide) ?_
  exact hk4 x0 x1 (x2 + (1 : Int32)) 
set_option maxHeartbeats 4000000 in
theorem xX0_commonest_4 {n0 c0 s0 cx cy : Nat} {S : mSh} {μ : mMm} : ∀ (n : Nat) (x0 : Nat) (x1 : Int32) (x2 : Int32), mX MX0_commonest n0 c0 s0 4 [some (.ref x0), some (.int x1), some (.int x2)] [] (S, μ, cx, cy) (iPI S μ cx cy) (lX0_commonest_4 S μ n x0 x1 x2) := by
  intro n
  induction n with
  | zero => intros; exact x_none
  | succ n ih =>
    intro x0 x1 x2
    unfold lX0_commonest_4
    refine x_iload_n (pc := 4) dX0_commonest_4 (i := 2) rfl rfl ?_
    refine x_bipush (pc := 5) (v := 16) dX0_commonest_5 (by decide) ?_
    refine x_icmp_ge (pc := 7) (tgt := 33) dX0_commonest_7 (by decide) ?_ ?_
    · refine x_iload_n (pc := 33) dX0_commonest_33 (i := 1) rfl rfl ?_
      exact x_iret rfl dX0_commonest_34 rfl rfl
    · refine x_aload_n (pc := 10) dX0_commonest_10 (i := 0) rfl rfl ?_
      refine x_gR (pc := 11) (k := 0) fcX0 dX0_commonest_11 q109 (by decide) rfl (fun v1 => ?_)
      refine x_iload_n (pc := 14) dX0_commonest_14 (i := 2) rfl rfl ?_
      refine x_ldI (pc := 15) dX0_commonest_15 (fun v2 => ?_)
      refine x_aload_n (pc := 16) dX0_commonest_16 (i := 0) rfl rfl ?_
      refine x_gR (pc := 17) (k := 0) fcX0 dX0_commonest_17 q109 (by decide) rfl (fun v3 => ?_)
      refine x_iload_n (pc := 20) dX0_commonest_20 (i := 1) rfl rfl ?_
      refine x_ldI (pc := 21) dX0_commonest_21 (fun v4 => ?_)
      refine x_icmp_le (pc := 22) (tgt := 27) dX0_commonest_22 (by decide) ?_ ?_
      · exact xX0_commonest_27 (k4 := (lX0_commonest_4 S μ n)) ih x0 x1 x2
      · refine x_iload_n (pc := 25) dX0_commonest_25 (i := 2) rfl rfl ?_
        refine x_istore_n (pc := 26) dX0_commonest_26 (i := 1) rfl (by decide) (l' := [some (.ref x0), some (.int x2), some (.int x2)]) rfl ?_
        exact xX0_commonest_27 (k4 := (lX0_commonest_4 S μ n)) ih x0 x2 x2 
set_option maxHeartbeats 4000000 in
theorem xbX0_commonest {n0 c0 s0 cx cy : Nat} {S : mSh} {μ : mMm} (o : Nat) : mX MX0_commonest n0 c0 s0 0 [some (.ref o), none, none] [] (S, μ, cx, cy) (iPI S μ cx cy) (bX0_commonest S μ o) := by
  unfold bX0_commonest
  refine x_iconst (pc := 0) (v := 0) dX0_commonest_0 (by decide) ?_
  refine x_istore_n (pc := 1) dX0_commonest_1 (i := 1) rfl (by decide) (l' := [some (.ref o), some (.int (0 : Int32)), none]) rfl ?_
  refine x_iconst (pc := 2) (v := 1) dX0_commonest_2 (by decide) ?_
  refine x_istore_n (pc := 3) dX0_commonest_3 (i := 2) rfl (by decide) (l' := [some (.ref o), some (.int (0 : Int32)), some (.int (1 : Int32))]) rfl ?_
  exact xX0_commonest_4 FU o (0 : Int32) (1 : Int32) 
theorem mX0_commonest (S : mSh) (μ : mMm) (cx cy : Nat) (o : Nat) : mMet MX0_commonest [.ref o] (S, μ, cx, cy) (iPI S μ cx cy) (fX0_commonest S μ o) := mMet.of rfl (by decide) rfl (fun h => by cases h) (Nat.le_of_ble_eq_true rfl) (mX.ck (fun _ => xbX0_commonest o))
/-! SlideMills$Letters.copyFrom(LSlideMills$Letters;)V -/
def lX2_copyFrom_38 (S : mSh) (μ : mMm) (x0 : Nat) (x1 : Nat) : Option (mMm) := (gI S μ x1 2 1).bind fun v3 => (pI S μ x0 2 1 v3).bind fun m4 => some m4
def lX2_copyFrom_2 (S : mSh) : Nat → mMm → Nat → Nat → Int32 → Option (mMm)
  | 0, _, _, _, _ => none
  | n + 1, μ, x0, x1, x2 => (gR S x0 2 0).bind fun v1 => (aL S v1 12).bind fun v2 => if v2 ≤ x2 then (lX2_copyFrom_38 S μ x0 x1) else ((gR S x1 2 0).bind fun v5 => (aL S v5 12).bind fun v6 => if v6 ≤ x2 then (lX2_copyFrom_38 S μ x0 x1) else ((gR S x0 2 0).bind fun v7 => (gR S x1 2 0).bind fun v8 => (ldI S μ v8 x2).bind fun v9 => (stI S μ v7 x2 v9).bind fun m10 => lX2_copyFrom_2 S n m10 x0 x1 (x2 + (1 : Int32))))
def bX2_copyFrom (S : mSh) (μ : mMm) (o : Nat) (p0 : Nat) : Option (mMm) := lX2_copyFrom_2 S FU μ o p0 (0 : Int32)
def fX2_copyFrom (S : mSh) (μ : mMm) (o : Nat) (p0 : Nat) : Option (mMm) := if mok S o 2 = true then bX2_copyFrom S μ o p0 else none
abbrev MX2_copyFrom : mM := ((yX2_copyFrom, cX2_copyFrom, 3, none), (0, 0), (false, false), RX2, eT)
theorem kX2_copyFrom : mCalV MX2_copyFrom RX2 1 := ⟨q164, q165, q48, q166, by decide +kernel⟩
set_option maxHeartbeats 4000000 in
theorem xX2_copyFrom_38 {n0 c0 s0 cx cy : Nat} {S : mSh} (μ : mMm) (x0 : Nat) (x1 : Nat) (d2 : Option Value) : mX MX2_copyFrom n0 c0 s0 38 [some (.ref x0), some (.ref x1), d2] [] (S, μ, cx, cy) (iMV S cx cy) (lX2_copyFrom_38 S μ x0 x1) := by
  unfold lX2_copyFrom_38
  refine x_aload_n (pc := 38) dX2_copyFrom_38 (i := 0) rfl rfl ?_
  refine x_aload_n (pc := 39) dX2_copyFrom_39 (i := 1) rfl rfl ?_
  refine x_gI (pc := 40) (k := 1) fcX2 dX2_copyFrom_40 q63 (by decide) rfl (fun v3 => ?_)
  refine x_pI (pc := 43) (k := 1) fcX2 dX2_copyFrom_43 q63 (by decide) rfl rfl rfl rfl (fun m4 => ?_)
  exact x_ret rfl dX2_copyFrom_46 rfl
set_option maxHeartbeats 4000000 in
theorem xX2_copyFrom_2 {n0 c0 s0 cx cy : Nat} {S : mSh} : ∀ (n : Nat) (μ : mMm) (x0 : Nat) (x1 : Nat) (x2 : Int32), mX MX2_copyFrom n0 c0 s0 2 [some (.ref x0), some (.ref x1), some (.int x2)] [] (S, μ, cx, cy) (iMV S cx cy) (lX2_copyFrom_2 S n μ x0 x1 x2) := by
  intro n
  induction n with
  | zero => intros; exact x_none
  | succ n ih =>
    intro μ x0 x1 x2
    unfold lX2_copyFrom_2
    refine x_iload_n (pc := 2) dX2_copyFrom_2 (i := 2) rfl rfl ?_
    refine x_aload_n (pc := 3) dX2_copyFrom_3 (i := 0) rfl rfl ?_
    refine x_gR (pc := 4) (k := 0) fcX2 dX2_copyFrom_4 q62 (by decide) rfl (fun v1 => ?_)
    refine x_aL (pc := 7) dX2_copyFrom_7 (fun v2 => ?_)
    refine x_icmp_ge (pc := 8) (tgt := 38) dX2_copyFrom_8 (by decide) ?_ ?_
    · exact xX2_copyFrom_38 μ x0 x1 _
    · refine x_iload_n (pc := 11) dX2_copyFrom_11 (i := 2) rfl rfl ?_
      refine x_aload_n (pc := 12) dX2_copyFrom_12 (i := 1) rfl rfl ?_
      refine x_gR (pc := 13) (k := 0) fcX2 dX2_copyFrom_13 q62 (by decide) rfl (fun v5 => ?_)
      refine x_aL (pc := 16) dX2_copyFrom_16 (fun v6 => ?_)
      refine x_icmp_ge (pc := 17) (tgt := 38) dX2_copyFrom_17 (by decide) ?_ ?_
      · exact xX2_copyFrom_38 μ x0 x1 _
      · refine x_aload_n (pc := 20) dX2_copyFrom_20 (i := 0) rfl rfl ?_
        refine x_gR (pc := 21) (k := 0) fcX2 dX2_copyFrom_21 q62 (by decide) rfl (fun v7 => ?_)
        refine x_iload_n (pc := 24) dX2_copyFrom_24 (i := 2) rfl rfl ?_
        refine x_aload_n (pc := 25) dX2_copyFrom_25 (i := 1) rfl rfl ?_
        refine x_gR (pc := 26) (k := 0) fcX2 dX2_copyFrom_26 q62 (by decide) rfl (fun v8 => ?_)
        refine x_iload_n (pc := 29) dX2_copyFrom_29 (i := 2) rfl rfl ?_
        refine x_ldI (pc := 30) dX2_copyFrom_30 (fun v9 => ?_)
        refine x_stI (pc := 31) dX2_copyFrom_31 (fun m10 => ?_)
        refine x_iinc (pc := 32) (v := x2 + (1 : Int32)) dX2_copyFrom_32 rfl (by rw [show Int32.ofInt (1) = (1 : Int32) from by decide]) (by decide) (l' := [some (.ref x0), some (.ref x1), some (.int (x2 + (1 : Int32)))]) rfl ?_
        refine x_goto (pc := 35) (tgt := 2) dX2_copyFrom_35 (by decide) ?_
        exact ih m10 x0 x1 (x2 + (1 : Int32)) 
set_option maxHeartbeats 4000000 in
theorem xbX2_copyFrom {n0 c0 s0 cx cy : Nat} {S : mSh} {μ : mMm} (o : Nat) (p0 : Nat) : mX MX2_copyFrom n0 c0 s0 0 [some (.ref o), some (.ref p0), none] [] (S, μ, cx, cy) (iMV S cx cy) (bX2_copyFrom S μ o p0) := by
  unfold bX2_copyFrom
  refine x_iconst (pc := 0) (v := 0) dX2_copyFrom_0 (by decide) ?_
  refine x_istore_n (pc := 1) dX2_copyFrom_1 (i := 2) rfl (by decide) (l' := [some (.ref o), some (.ref p0), some (.int (0 : Int32))]) rfl ?_
  exact xX2_copyFrom_2 FU μ o p0 (0 : Int32) 
theorem mX2_copyFrom (S : mSh) (μ : mMm) (cx cy : Nat) (o : Nat) (p0 : Nat) : mMet MX2_copyFrom [.ref o, .ref p0] (S, μ, cx, cy) (iMV S cx cy) (fX2_copyFrom S μ o p0) := mMet.of rfl (by decide) rfl (fun h => by cases h) (Nat.le_of_ble_eq_true rfl) (mX.ck (fun _ => xbX2_copyFrom o p0))
/-! SlideMills$Sack.distance(I)I -/
def bX5_distance (S : mSh) (μ : mMm) (o : Nat) (p0 : Int32) : Option (Int32) := if p0 < 0 then (some (0 : Int32)) else ((gR S o 5 0).bind fun v1 => (aL S v1 12).bind fun v2 => if v2 ≤ p0 then (some (0 : Int32)) else ((gR S o 5 0).bind fun v3 => (ldI S μ v3 p0).bind fun v4 => some v4))
def fX5_distance (S : mSh) (μ : mMm) (o : Nat) (p0 : Int32) : Option (Int32) := if mok S o 5 = true then bX5_distance S μ o p0 else none
abbrev MX5_distance : mM := ((yX5_distance, cX5_distance, 2, (some .int)), (0, 0), (false, false), RX5, eT)
theorem kX5_distance : mCalV MX5_distance RX5 1 := ⟨q172, q173, q36, q174, by decide +kernel⟩
set_option maxHeartbeats 4000000 in
theorem xbX5_distance {n0 c0 s0 cx cy : Nat} {S : mSh} {μ : mMm} (o : Nat) (p0 : Int32) : mX MX5_distance n0 c0 s0 0 [some (.ref o), some (.int p0)] [] (S, μ, cx, cy) (iPI S μ cx cy) (bX5_distance S μ o p0) := by
  unfold bX5_distance
  refine x_iload_n (pc := 0) dX5_distance_0 (i := 1) rfl rfl ?_
  refine x_if_lt (pc := 1) (tgt := 22) dX5_distance_1 (by decide) ?_ ?_
  · refine x_iconst (pc := 22) (v := 0) dX5_distance_22 (by decide) ?_
    exact x_iret rfl dX5_distance_23 rfl rfl
  · refine x_iload_n (pc := 4) dX5_distance_4 (i := 1) rfl rfl ?_
    refine x_aload_n (pc := 5) dX5_distance_5 (i := 0) rfl rfl ?_
    refine x_gR (pc := 6) (k := 0) fcX5 dX5_distance_6 q68 (by decide) rfl (fun v1 => ?_)
    refine x_aL (pc := 9) dX5_distance_9 (fun v2 => ?_)
    refine x_icmp_ge (pc := 10) (tgt := 22) dX5_distance_10 (by decide) ?_ ?_
    · refine x_iconst (pc := 22) (v := 0) dX5_distance_22 (by decide) ?_
      exact x_iret rfl dX5_distance_23 rfl rfl
    · refine x_aload_n (pc := 13) dX5_distance_13 (i := 0) rfl rfl ?_
      refine x_gR (pc := 14) (k := 0) fcX5 dX5_distance_14 q68 (by decide) rfl (fun v3 => ?_)
      refine x_iload_n (pc := 17) dX5_distance_17 (i := 1) rfl rfl ?_
      refine x_ldI (pc := 18) dX5_distance_18 (fun v4 => ?_)
      refine x_goto (pc := 19) (tgt := 23) dX5_distance_19 (by decide) ?_
      exact x_iret rfl dX5_distance_23 rfl rfl
theorem mX5_distance (S : mSh) (μ : mMm) (cx cy : Nat) (o : Nat) (p0 : Int32) : mMet MX5_distance [.ref o, .int p0] (S, μ, cx, cy) (iPI S μ cx cy) (fX5_distance S μ o p0) := mMet.of rfl (by decide) rfl (fun h => by cases h) (Nat.le_of_ble_eq_true rfl) (mX.ck (fun _ => xbX5_distance o p0))
/-! SlideMills$Sack.value(I)I -/
def bX5_value (S : mSh) (μ : mMm) (o : Nat) (p0 : Int32) : Option (Int32) := if p0 < 0 then (some (0 : Int32)) else ((gR S o 5 1).bind fun v1 => (aL S v1 12).bind fun v2 => if v2 ≤ p0 then (some (0 : Int32)) else ((gR S o 5 1).bind fun v3 => (ldI S μ v3 p0).bind fun v4 => some v4))
def fX5_value (S : mSh) (μ : mMm) (o : Nat) (p0 : Int32) : Option (Int32) := if mok S o 5 = true then bX5_value S μ o p0 else none
abbrev MX5_value : mM := ((yX5_value, cX5_value, 2, (some .int)), (0, 0), (false, false), RX5, eT)
theorem kX5_value : mCalV MX5_value RX5 1 := ⟨q176, q177, q36, q178, by decide +kernel⟩
set_option maxHeartbeats 4000000 in
theorem xbX5_value {n0 c0 s0 cx cy : Nat} {S : mSh} {μ : mMm} (o : Nat) (p0 : Int32) : mX MX5_value n0 c0 s0 0 [some (.ref o), some (.int p0)] [] (S, μ, cx, cy) (iPI S μ cx cy) (bX5_value S μ o p0) := by
  unfold bX5_value
  refine x_iload_n (pc := 0) dX5_value_0 (i := 1) rfl rfl ?_
  refine x_if_lt (pc := 1) (tgt := 22) dX5_value_1 (by decide) ?_ ?_
  · refine x_iconst (pc := 22) (v := 0) dX5_value_22 (by decide) ?_
    exact x_iret rfl dX5_value_23 rfl rfl
  · refine x_iload_n (pc := 4) dX5_value_4 (i := 1) rfl rfl ?_
    refine x_aload_n (pc := 5) dX5_value_5 (i := 0) rfl rfl ?_
    refine x_gR (pc := 6) (k := 1) fcX5 dX5_value_6 q69 (by decide) rfl (fun v1 => ?_)
    refine x_aL (pc := 9) dX5_value_9 (fun v2 => ?_)
    refine x_icmp_ge (pc := 10) (tgt := 22) dX5_value_10 (by decide) ?_ ?_
    · refine x_iconst (pc := 22) (v := 0) dX5_value_22 (by decide) ?_
      exact x_iret rfl dX5_value_23 rfl rfl
    · refine x_aload_n (pc := 13) dX5_value_13 (i := 0) rfl rfl ?_
      refine x_gR (pc := 14) (k := 1) fcX5 dX5_value_14 q69 (by decide) rfl (fun v3 => ?_)
      refine x_iload_n (pc := 17) dX5_value_17 (i := 1) rfl rfl ?_
      refine x_ldI (pc := 18) dX5_value_18 (fun v4 => ?_)
      refine x_goto (pc := 19) (tgt := 23) dX5_value_19 (by decide) ?_
      exact x_iret rfl dX5_value_23 rfl rfl
theorem mX5_value (S : mSh) (μ : mMm) (cx cy : Nat) (o : Nat) (p0 : Int32) : mMet MX5_value [.ref o, .int p0] (S, μ, cx, cy) (iPI S μ cx cy) (fX5_value S μ o p0) := mMet.of rfl (by decide) rfl (fun h => by cases h) (Nat.le_of_ble_eq_true rfl) (mX.ck (fun _ => xbX5_value o p0))
/-! SlideMills$Sack.copyFrom(LSlideMills$Sack;)V -/
def lX5_copyFrom_50 (k2 : mMm → Nat → Nat → Int32 → Option (mMm)) (S : mSh) (μ : mMm) (x0 : Nat) (x1 : Nat) (x2 : Int32) : Option (mMm) := k2 μ x0 x1 (x2 + (1 : Int32))
def lX5_copyFrom_2 (S : mSh) : Nat → mMm → Nat → Nat → Int32 → Option (mMm)
  | 0, _, _, _, _ => none
  | n + 1, μ, x0, x1, x2 => (gI S μ x1 5 2).bind fun v1 => if v1 ≤ x2 then ((gI S μ x1 5 2).bind fun v2 => (pI S μ x0 5 2 v2).bind fun m3 => some m3) else ((gR S x0 5 0).bind fun v4 => (aL S v4 12).bind fun v5 => if v5 ≤ x2 then (lX5_copyFrom_50 (lX5_copyFrom_2 S n) S μ x0 x1 x2) else ((gR S x0 5 1).bind fun v6 => (aL S v6 12).bind fun v7 => if v7 ≤ x2 then (lX5_copyFrom_50 (lX5_copyFrom_2 S n) S μ x0 x1 x2) else ((gR S x0 5 0).bind fun v8 => (fX5_distance S μ x1 x2).bind fun v9 => (stI S μ v8 x2 v9).bind fun m10 => (gR S x0 5 1).bind fun v11 => (fX5_value S m10 x1 x2).bind fun v12 => (stI S m10 v11 x2 v12).bind fun m13 => lX5_copyFrom_50 (lX5_copyFrom_2 S n) S m13 x0 x1 x2)))
def bX5_copyFrom (S : mSh) (μ : mMm) (o : Nat) (p0 : Nat) : Option (mMm) := lX5_copyFrom_2 S FU μ o p0 (0 : Int32)
def fX5_copyFrom (S : mSh) (μ : mMm) (o : Nat) (p0 : Nat) : Option (mMm) := if mok S o 5 = true then bX5_copyFrom S μ o p0 else none
abbrev MX5_copyFrom : mM := ((yX5_copyFrom, cX5_copyFrom, 3, none), (1, 21), (false, false), RX5, eT)
theorem kX5_copyFrom : mCalV MX5_copyFrom RX5 1 := ⟨q168, q169, q36, q170, by decide +kernel⟩
set_option maxHeartbeats 4000000 in
theorem xX5_copyFrom_50 {n0 c0 s0 cx cy : Nat} {S : mSh} {k2 : mMm → Nat → Nat → Int32 → Option (mMm)} (hk2 : ∀ (μ : mMm) (x0 : Nat) (x1 : Nat) (x2 : Int32), mX MX5_copyFrom n0 c0 s0 2 [some (.ref x0), some (.ref x1), some (.int x2)] [] (S, μ, cx, cy) (iMV S cx cy) (k2 μ x0 x1 x2)) (μ : mMm) (x0 : Nat) (x1 : Nat) (x2 : Int32) : mX MX5_copyFrom n0 c0 s0 50 [some (.ref x0), some (.ref x1), some (.int x2)] [] (S, μ, cx, cy) (iMV S cx cy) (lX5_copyFrom_50 k2 S μ x0 x1 x2) := by
  unfold lX5_copyFrom_50
  refine x_iinc (pc := 50) (v := x2 + (1 : Int32)) dX5_copyFrom_50 rfl (by rw [show Int32.ofInt (1) = (1 : Int32) from by decide]) (by decide) (l' := [some (.ref x0), some (.ref x1), some (.int (x2 + (1 : Int32)))]) rfl ?_
  refine x_goto (pc := 53) (tgt := 2) dX5_copyFrom_53 (by decide) ?_
  exact hk2 μ x0 x1 (x2 + (1 : Int32)) 
set_option maxHeartbeats 4000000 in
theorem xX5_copyFrom_2 {n0 c0 s0 cx cy : Nat} {S : mSh} : ∀ (n : Nat) (μ : mMm) (x0 : Nat) (x1 : Nat) (x2 : Int32), mX MX5_copyFrom n0 c0 s0 2 [some (.ref x0), some (.ref x1), some (.int x2)] [] (S, μ, cx, cy) (iMV S cx cy) (lX5_copyFrom_2 S n μ x0 x1 x2) := by
  intro n
  induction n with
  | zero => intros; exact x_none
  | succ n ih =>
    intro μ x0 x1 x2
    unfold lX5_copyFrom_2
    refine x_iload_n (pc := 2) dX5_copyFrom_2 (i := 2) rfl rfl ?_
    refine x_aload_n (pc := 3) dX5_copyFrom_3 (i := 1) rfl rfl ?_
    refine x_gI (pc := 4) (k := 2) fcX5 dX5_copyFrom_4 q70 (by decide) rfl (fun v1 => ?_)
    refine x_icmp_ge (pc := 7) (tgt := 56) dX5_copyFrom_7 (by decide) ?_ ?_
    · refine x_aload_n (pc := 56) dX5_copyFrom_56 (i := 0) rfl rfl ?_
      refine x_aload_n (pc := 57) dX5_copyFrom_57 (i := 1) rfl rfl ?_
      refine x_gI (pc := 58) (k := 2) fcX5 dX5_copyFrom_58 q70 (by decide) rfl (fun v2 => ?_)
      refine x_pI (pc := 61) (k := 2) fcX5 dX5_copyFrom_61 q70 (by decide) rfl rfl rfl rfl (fun m3 => ?_)
      exact x_ret rfl dX5_copyFrom_64 rfl
    · refine x_iload_n (pc := 10) dX5_copyFrom_10 (i := 2) rfl rfl ?_
      refine x_aload_n (pc := 11) dX5_copyFrom_11 (i := 0) rfl rfl ?_
      refine x_gR (pc := 12) (k := 0) fcX5 dX5_copyFrom_12 q68 (by decide) rfl (fun v4 => ?_)
      refine x_aL (pc := 15) dX5_copyFrom_15 (fun v5 => ?_)
      refine x_icmp_ge (pc := 16) (tgt := 50) dX5_copyFrom_16 (by decide) ?_ ?_
      · exact xX5_copyFrom_50 (k2 := (lX5_copyFrom_2 S n)) ih μ x0 x1 x2
      · refine x_iload_n (pc := 19) dX5_copyFrom_19 (i := 2) rfl rfl ?_
        refine x_aload_n (pc := 20) dX5_copyFrom_20 (i := 0) rfl rfl ?_
        refine x_gR (pc := 21) (k := 1) fcX5 dX5_copyFrom_21 q69 (by decide) rfl (fun v6 => ?_)
        refine x_aL (pc := 24) dX5_copyFrom_24 (fun v7 => ?_)
        refine x_icmp_ge (pc := 25) (tgt := 50) dX5_copyFrom_25 (by decide) ?_ ?_
        · exact xX5_copyFrom_50 (k2 := (lX5_copyFrom_2 S n)) ih μ x0 x1 x2
        · refine x_aload_n (pc := 28) dX5_copyFrom_28 (i := 0) rfl rfl ?_
          refine x_gR (pc := 29) (k := 0) fcX5 dX5_copyFrom_29 q68 (by decide) rfl (fun v8 => ?_)
          refine x_iload_n (pc := 32) dX5_copyFrom_32 (i := 2) rfl rfl ?_
          refine x_aload_n (pc := 33) dX5_copyFrom_33 (i := 1) rfl rfl ?_
          refine x_iload_n (pc := 34) dX5_copyFrom_34 (i := 2) rfl rfl ?_
          refine x_callVi (pc := 35) (As := [.int x2]) (rest := [.int x2, .ref v8]) (vx := fun a => a) (μf := fun _ => μ) fcX5 (mX5_distance S μ cx cy x1 x2) (fun _ => rfl) rfl (fun _ h => ifok h) dX5_copyFrom_35 q171 kX5_distance rfl ⟨by decide, by decide⟩ rfl (Nat.le_of_ble_eq_true rfl) (fun v9 => ?_)
          refine x_stI (pc := 38) dX5_copyFrom_38 (fun m10 => ?_)
          refine x_aload_n (pc := 39) dX5_copyFrom_39 (i := 0) rfl rfl ?_
          refine x_gR (pc := 40) (k := 1) fcX5 dX5_copyFrom_40 q69 (by decide) rfl (fun v11 => ?_)
          refine x_iload_n (pc := 43) dX5_copyFrom_43 (i := 2) rfl rfl ?_
          refine x_aload_n (pc := 44) dX5_copyFrom_44 (i := 1) rfl rfl ?_
          refine x_iload_n (pc := 45) dX5_copyFrom_45 (i := 2) rfl rfl ?_
          refine x_callVi (pc := 46) (As := [.int x2]) (rest := [.int x2, .ref v11]) (vx := fun a => a) (μf := fun _ => m10) fcX5 (mX5_value S m10 cx cy x1 x2) (fun _ => rfl) rfl (fun _ h => ifok h) dX5_copyFrom_46 q175 kX5_value rfl ⟨by decide, by decide⟩ rfl (Nat.le_of_ble_eq_true rfl) (fun v12 => ?_)
          refine x_stI (pc := 49) dX5_copyFrom_49 (fun m13 => ?_)
          exact xX5_copyFrom_50 (k2 := (lX5_copyFrom_2 S n)) ih m13 x0 x1 x2 
set_option maxHeartbeats 4000000 in
theorem xbX5_copyFrom {n0 c0 s0 cx cy : Nat} {S : mSh} {μ : mMm} (o : Nat) (p0 : Nat) : mX MX5_copyFrom n0 c0 s0 0 [some (.ref o), some (.ref p0), none] [] (S, μ, cx, cy) (iMV S cx cy) (bX5_copyFrom S μ o p0) := by
  unfold bX5_copyFrom
  refine x_iconst (pc := 0) (v := 0) dX5_copyFrom_0 (by decide) ?_
  refine x_istore_n (pc := 1) dX5_copyFrom_1 (i := 2) rfl (by decide) (l' := [some (.ref o), some (.ref p0), some (.int (0 : Int32))]) rfl ?_
  exact xX5_copyFrom_2 FU μ o p0 (0 : Int32) 
theorem mX5_copyFrom (S : mSh) (μ : mMm) (cx cy : Nat) (o : Nat) (p0 : Nat) : mMet MX5_copyFrom [.ref o, .ref p0] (S, μ, cx, cy) (iMV S cx cy) (fX5_copyFrom S μ o p0) := mMet.of rfl (by decide) rfl (fun h => by cases h) (Nat.le_of_ble_eq_true rfl) (mX.ck (fun _ => xbX5_copyFrom o p0))
/-! SlideMills$Settings.copyFrom(LSlideMills$Settings;)V -/
def bX6_copyFrom (S : mSh) (μ : mMm) (o : Nat) (p0 : Nat) : Option (mMm) := (gI S μ p0 6 0).bind fun v1 => (pI S μ o 6 0 v1).bind fun m2 => (gI S m2 p0 6 1).bind fun v3 => (pI S m2 o 6 1 v3).bind fun m4 => (gI S m4 p0 6 2).bind fun v5 => (pI S m4 o 6 2 v5).bind fun m6 => (gI S m6 p0 6 3).bind fun v7 => (pI S m6 o 6 3 v7).bind fun m8 => (gI S m8 p0 6 4).bind fun v9 => (pI S m8 o 6 4 v9).bind fun m10 => some m10
def fX6_copyFrom (S : mSh) (μ : mMm) (o : Nat) (p0 : Nat) : Option (mMm) := if mok S o 6 = true then bX6_copyFrom S μ o p0 else none
abbrev MX6_copyFrom : mM := ((yX6_copyFrom, cX6_copyFrom, 2, none), (0, 0), (false, false), RX6, eT)
theorem kX6_copyFrom : mCalV MX6_copyFrom RX6 1 := ⟨q180, q181, q54, q182, by decide +kernel⟩
set_option maxHeartbeats 4000000 in
theorem xbX6_copyFrom {n0 c0 s0 cx cy : Nat} {S : mSh} {μ : mMm} (o : Nat) (p0 : Nat) : mX MX6_copyFrom n0 c0 s0 0 [some (.ref o), some (.ref p0)] [] (S, μ, cx, cy) (iMV S cx cy) (bX6_copyFrom S μ o p0) := by
  unfold bX6_copyFrom
  refine x_aload_n (pc := 0) dX6_copyFrom_0 (i := 0) rfl rfl ?_
  refine x_aload_n (pc := 1) dX6_copyFrom_1 (i := 1) rfl rfl ?_
  refine x_gI (pc := 2) (k := 0) fcX6 dX6_copyFrom_2 q75 (by decide) rfl (fun v1 => ?_)
  refine x_pI (pc := 5) (k := 0) fcX6 dX6_copyFrom_5 q75 (by decide) rfl rfl rfl rfl (fun m2 => ?_)
  refine x_aload_n (pc := 8) dX6_copyFrom_8 (i := 0) rfl rfl ?_
  refine x_aload_n (pc := 9) dX6_copyFrom_9 (i := 1) rfl rfl ?_
  refine x_gI (pc := 10) (k := 1) fcX6 dX6_copyFrom_10 q76 (by decide) rfl (fun v3 => ?_)
  refine x_pI (pc := 13) (k := 1) fcX6 dX6_copyFrom_13 q76 (by decide) rfl rfl rfl rfl (fun m4 => ?_)
  refine x_aload_n (pc := 16) dX6_copyFrom_16 (i := 0) rfl rfl ?_
  refine x_aload_n (pc := 17) dX6_copyFrom_17 (i := 1) rfl rfl ?_
  refine x_gI (pc := 18) (k := 2) fcX6 dX6_copyFrom_18 q77 (by decide) rfl (fun v5 => ?_)
  refine x_pI (pc := 21) (k := 2) fcX6 dX6_copyFrom_21 q77 (by decide) rfl rfl rfl rfl (fun m6 => ?_)
  refine x_aload_n (pc := 24) dX6_copyFrom_24 (i := 0) rfl rfl ?_
  refine x_aload_n (pc := 25) dX6_copyFrom_25 (i := 1) rfl rfl ?_
  refine x_gI (pc := 26) (k := 3) fcX6 dX6_copyFrom_26 q78 (by decide) rfl (fun v7 => ?_)
  refine x_pI (pc := 29) (k := 3) fcX6 dX6_copyFrom_29 q78 (by decide) rfl rfl rfl rfl (fun m8 => ?_)
  refine x_aload_n (pc := 32) dX6_copyFrom_32 (i := 0) rfl rfl ?_
  refine x_aload_n (pc := 33) dX6_copyFrom_33 (i := 1) rfl rfl ?_
  refine x_gI (pc := 34) (k := 4) fcX6 dX6_copyFrom_34 q79 (by decide) rfl (fun v9 => ?_)
  refine x_pI (pc := 37) (k := 4) fcX6 dX6_copyFrom_37 q79 (by decide) rfl rfl rfl rfl (fun m10 => ?_)
  exact x_ret rfl dX6_copyFrom_40 rfl
theorem mX6_copyFrom (S : mSh) (μ : mMm) (cx cy : Nat) (o : Nat) (p0 : Nat) : mMet MX6_copyFrom [.ref o, .ref p0] (S, μ, cx, cy) (iMV S cx cy) (fX6_copyFrom S μ o p0) := mMet.of rfl (by decide) rfl (fun h => by cases h) (Nat.le_of_ble_eq_true rfl) (mX.ck (fun _ => xbX6_copyFrom o p0))
/-! SlideMills$Letters.has(I)Z -/
def bX2_has (S : mSh) (μ : mMm) (o : Nat) (p0 : Int32) : Option (Int32) := if p0 < 0 then (some (0 : Int32)) else ((gI S μ o 2 1).bind fun v1 => if v1 ≤ p0 then (some (0 : Int32)) else (some (1 : Int32)))
def fX2_has (S : mSh) (μ : mMm) (o : Nat) (p0 : Int32) : Option (Int32) := if mok S o 2 = true then bX2_has S μ o p0 else none
abbrev MX2_has : mM := ((yX2_has, cX2_has, 2, (some .boolean)), (0, 0), (false, false), RX2, eT)
theorem kX2_has : mCalV MX2_has RX2 1 := ⟨q194, q195, q48, q196, by decide +kernel⟩
set_option maxHeartbeats 4000000 in
theorem xbX2_has {n0 c0 s0 cx cy : Nat} {S : mSh} {μ : mMm} (o : Nat) (p0 : Int32) : mX MX2_has n0 c0 s0 0 [some (.ref o), some (.int p0)] [] (S, μ, cx, cy) (iPI S μ cx cy) (bX2_has S μ o p0) := by
  unfold bX2_has
  refine x_iload_n (pc := 0) dX2_has_0 (i := 1) rfl rfl ?_
  refine x_if_lt (pc := 1) (tgt := 16) dX2_has_1 (by decide) ?_ ?_
  · refine x_iconst (pc := 16) (v := 0) dX2_has_16 (by decide) ?_
    exact x_iret rfl dX2_has_17 rfl rfl
  · refine x_iload_n (pc := 4) dX2_has_4 (i := 1) rfl rfl ?_
    refine x_aload_n (pc := 5) dX2_has_5 (i := 0) rfl rfl ?_
    refine x_gI (pc := 6) (k := 1) fcX2 dX2_has_6 q63 (by decide) rfl (fun v1 => ?_)
    refine x_icmp_ge (pc := 9) (tgt := 16) dX2_has_9 (by decide) ?_ ?_
    · refine x_iconst (pc := 16) (v := 0) dX2_has_16 (by decide) ?_
      exact x_iret rfl dX2_has_17 rfl rfl
    · refine x_iconst (pc := 12) (v := 1) dX2_has_12 (by decide) ?_
      refine x_goto (pc := 13) (tgt := 17) dX2_has_13 (by decide) ?_
      exact x_iret rfl dX2_has_17 rfl rfl
theorem mX2_has (S : mSh) (μ : mMm) (cx cy : Nat) (o : Nat) (p0 : Int32) : mMet MX2_has [.ref o, .int p0] (S, μ, cx, cy) (iPI S μ cx cy) (fX2_has S μ o p0) := mMet.of rfl (by decide) rfl (fun h => by cases h) (Nat.le_of_ble_eq_true rfl) (mX.ck (fun _ => xbX2_has o p0))
/-! SlideMills$Letters.put(I)V -/
def bX2_put (S : mSh) (μ : mMm) (o : Nat) (p0 : Int32) : Option (mMm) := (gI S μ o 2 1).bind fun v1 => if v1 < 0 then (some μ) else ((gI S μ o 2 1).bind fun v2 => (gR S o 2 0).bind fun v3 => (aL S v3 12).bind fun v4 => if v4 ≤ v2 then (some μ) else ((gR S o 2 0).bind fun v5 => (gI S μ o 2 1).bind fun v6 => (stI S μ v5 v6 p0).bind fun m7 => (gI S m7 o 2 1).bind fun v8 => (pI S m7 o 2 1 (v8 + (1 : Int32))).bind fun m9 => some m9))
def fX2_put (S : mSh) (μ : mMm) (o : Nat) (p0 : Int32) : Option (mMm) := if mok S o 2 = true then bX2_put S μ o p0 else none
abbrev MX2_put : mM := ((yX2_put, cX2_put, 2, none), (0, 0), (false, false), RX2, eT)
theorem kX2_put : mCalV MX2_put RX2 1 := ⟨q184, q185, q48, q186, by decide +kernel⟩
set_option maxHeartbeats 4000000 in
theorem xbX2_put {n0 c0 s0 cx cy : Nat} {S : mSh} {μ : mMm} (o : Nat) (p0 : Int32) : mX MX2_put n0 c0 s0 0 [some (.ref o), some (.int p0)] [] (S, μ, cx, cy) (iMV S cx cy) (bX2_put S μ o p0) := by
  unfold bX2_put
  refine x_aload_n (pc := 0) dX2_put_0 (i := 0) rfl rfl ?_
  refine x_gI (pc := 1) (k := 1) fcX2 dX2_put_1 q63 (by decide) rfl (fun v1 => ?_)
  refine x_if_lt (pc := 4) (tgt := 39) dX2_put_4 (by decide) ?_ ?_
  · exact x_ret rfl dX2_put_39 rfl
  · refine x_aload_n (pc := 7) dX2_put_7 (i := 0) rfl rfl ?_
    refine x_gI (pc := 8) (k := 1) fcX2 dX2_put_8 q63 (by decide) rfl (fun v2 => ?_)
    refine x_aload_n (pc := 11) dX2_put_11 (i := 0) rfl rfl ?_
    refine x_gR (pc := 12) (k := 0) fcX2 dX2_put_12 q62 (by decide) rfl (fun v3 => ?_)
    refine x_aL (pc := 15) dX2_put_15 (fun v4 => ?_)
    refine x_icmp_ge (pc := 16) (tgt := 39) dX2_put_16 (by decide) ?_ ?_
    · exact x_ret rfl dX2_put_39 rfl
    · refine x_aload_n (pc := 19) dX2_put_19 (i := 0) rfl rfl ?_
      refine x_gR (pc := 20) (k := 0) fcX2 dX2_put_20 q62 (by decide) rfl (fun v5 => ?_)
      refine x_aload_n (pc := 23) dX2_put_23 (i := 0) rfl rfl ?_
      refine x_gI (pc := 24) (k := 1) fcX2 dX2_put_24 q63 (by decide) rfl (fun v6 => ?_)
      refine x_iload_n (pc := 27) dX2_put_27 (i := 1) rfl rfl ?_
      refine x_stI (pc := 28) dX2_put_28 (fun m7 => ?_)
      refine x_aload_n (pc := 29) dX2_put_29 (i := 0) rfl rfl ?_
      refine x_dup (pc := 30) dX2_put_30 rfl ?_
      refine x_gI (pc := 31) (k := 1) fcX2 dX2_put_31 q63 (by decide) rfl (fun v8 => ?_)
      refine x_iconst (pc := 34) (v := 1) dX2_put_34 (by decide) ?_
      refine x_iadd (pc := 35) dX2_put_35 ?_
      refine x_pI (pc := 36) (k := 1) fcX2 dX2_put_36 q63 (by decide) rfl rfl rfl rfl (fun m9 => ?_)
      exact x_ret rfl dX2_put_39 rfl
theorem mX2_put (S : mSh) (μ : mMm) (cx cy : Nat) (o : Nat) (p0 : Int32) : mMet MX2_put [.ref o, .int p0] (S, μ, cx, cy) (iMV S cx cy) (fX2_put S μ o p0) := mMet.of rfl (by decide) rfl (fun h => by cases h) (Nat.le_of_ble_eq_true rfl) (mX.ck (fun _ => xbX2_put o p0))
/-! SlideMills$Letters.replace(II)V -/
def bX2_replace (S : mSh) (μ : mMm) (o : Nat) (p0 : Int32) (p1 : Int32) : Option (mMm) := if p0 < 0 then (some μ) else ((gR S o 2 0).bind fun v1 => (aL S v1 12).bind fun v2 => if v2 ≤ p0 then (some μ) else ((gR S o 2 0).bind fun v3 => (stI S μ v3 p0 p1).bind fun m4 => some m4))
def fX2_replace (S : mSh) (μ : mMm) (o : Nat) (p0 : Int32) (p1 : Int32) : Option (mMm) := if mok S o 2 = true then bX2_replace S μ o p0 p1 else none
abbrev MX2_replace : mM := ((yX2_replace, cX2_replace, 3, none), (0, 0), (false, false), RX2, eT)
theorem kX2_replace : mCalV MX2_replace RX2 2 := ⟨q202, q203, q48, q204, by decide +kernel⟩
set_option maxHeartbeats 4000000 in
theorem xbX2_replace {n0 c0 s0 cx cy : Nat} {S : mSh} {μ : mMm} (o : Nat) (p0 : Int32) (p1 : Int32) : mX MX2_replace n0 c0 s0 0 [some (.ref o), some (.int p0), some (.int p1)] [] (S, μ, cx, cy) (iMV S cx cy) (bX2_replace S μ o p0 p1) := by
  unfold bX2_replace
  refine x_iload_n (pc := 0) dX2_replace_0 (i := 1) rfl rfl ?_
  refine x_if_lt (pc := 1) (tgt := 20) dX2_replace_1 (by decide) ?_ ?_
  · exact x_ret rfl dX2_replace_20 rfl
  · refine x_iload_n (pc := 4) dX2_replace_4 (i := 1) rfl rfl ?_
    refine x_aload_n (pc := 5) dX2_replace_5 (i := 0) rfl rfl ?_
    refine x_gR (pc := 6) (k := 0) fcX2 dX2_replace_6 q62 (by decide) rfl (fun v1 => ?_)
    refine x_aL (pc := 9) dX2_replace_9 (fun v2 => ?_)
    refine x_icmp_ge (pc := 10) (tgt := 20) dX2_replace_10 (by decide) ?_ ?_
    · exact x_ret rfl dX2_replace_20 rfl
    · refine x_aload_n (pc := 13) dX2_replace_13 (i := 0) rfl rfl ?_
      refine x_gR (pc := 14) (k := 0) fcX2 dX2_replace_14 q62 (by decide) rfl (fun v3 => ?_)
      refine x_iload_n (pc := 17) dX2_replace_17 (i := 1) rfl rfl ?_
      refine x_iload_n (pc := 18) dX2_replace_18 (i := 2) rfl rfl ?_
      refine x_stI (pc := 19) dX2_replace_19 (fun m4 => ?_)
      exact x_ret rfl dX2_replace_20 rfl
theorem mX2_replace (S : mSh) (μ : mMm) (cx cy : Nat) (o : Nat) (p0 : Int32) (p1 : Int32) : mMet MX2_replace [.ref o, .int p0, .int p1] (S, μ, cx, cy) (iMV S cx cy) (fX2_replace S μ o p0 p1) := mMet.of rfl (by decide) rfl (fun h => by cases h) (Nat.le_of_ble_eq_true rfl) (mX.ck (fun _ => xbX2_replace o p0 p1))
/-! SlideMills$Letters.clear()V -/
def bX2_clear (S : mSh) (μ : mMm) (o : Nat) : Option (mMm) := (pI S μ o 2 1 (0 : Int32)).bind fun m1 => some m1
def fX2_clear (S : mSh) (μ : mMm) (o : Nat) : Option (mMm) := if mok S o 2 = true then bX2_clear S μ o else none
abbrev MX2_clear : mM := ((yX2_clear, cX2_clear, 1, none), (0, 0), (false, false), RX2, eT)
theorem kX2_clear : mCalV MX2_clear RX2 0 := ⟨q348, q349, q48, q350, by decide +kernel⟩
set_option maxHeartbeats 4000000 in
theorem xbX2_clear {n0 c0 s0 cx cy : Nat} {S : mSh} {μ : mMm} (o : Nat) : mX MX2_clear n0 c0 s0 0 [some (.ref o)] [] (S, μ, cx, cy) (iMV S cx cy) (bX2_clear S μ o) := by
  unfold bX2_clear
  refine x_aload_n (pc := 0) dX2_clear_0 (i := 0) rfl rfl ?_
  refine x_iconst (pc := 1) (v := 0) dX2_clear_1 (by decide) ?_
  refine x_pI (pc := 2) (k := 1) fcX2 dX2_clear_2 q63 (by decide) rfl rfl rfl rfl (fun m1 => ?_)
  exact x_ret rfl dX2_clear_5 rfl
theorem mX2_clear (S : mSh) (μ : mMm) (cx cy : Nat) (o : Nat) : mMet MX2_clear [.ref o] (S, μ, cx, cy) (iMV S cx cy) (fX2_clear S μ o) := mMet.of rfl (by decide) rfl (fun h => by cases h) (Nat.le_of_ble_eq_true rfl) (mX.ck (fun _ => xbX2_clear o))
/-! SlideMills$Letters.isLike(LSlideMills$Letters;)Z -/
def lX2_isLike_15 (S : mSh) (μ : mMm) : Nat → Nat → Nat → Int32 → Option (Int32)
  | 0, _, _, _ => none
  | n + 1, x0, x1, x2 => (gI S μ x0 2 1).bind fun v3 => if v3 ≤ x2 then (some (1 : Int32)) else ((fX2_get S μ x0 x2).bind fun v4 => (fX2_get S μ x1 x2).bind fun v5 => if v4 = v5 then (lX2_isLike_15 S μ n x0 x1 (x2 + (1 : Int32))) else (some (0 : Int32)))
def bX2_isLike (S : mSh) (μ : mMm) (o : Nat) (p0 : Nat) : Option (Int32) := (gI S μ o 2 1).bind fun v1 => (gI S μ p0 2 1).bind fun v2 => if v1 = v2 then (lX2_isLike_15 S μ FU o p0 (0 : Int32)) else (some (0 : Int32))
def fX2_isLike (S : mSh) (μ : mMm) (o : Nat) (p0 : Nat) : Option (Int32) := if mok S o 2 = true then bX2_isLike S μ o p0 else none
abbrev MX2_isLike : mM := ((yX2_isLike, cX2_isLike, 3, (some .boolean)), (1, 21), (false, false), RX2, eT)
theorem kX2_isLike : mCalV MX2_isLike RX2 1 := ⟨q456, q457, q48, q458, by decide +kernel⟩
set_option maxHeartbeats 4000000 in
theorem xX2_isLike_15 {n0 c0 s0 cx cy : Nat} {S : mSh} {μ : mMm} : ∀ (n : Nat) (x0 : Nat) (x1 : Nat) (x2 : Int32), mX MX2_isLike n0 c0 s0 15 [some (.ref x0), some (.ref x1), some (.int x2)] [] (S, μ, cx, cy) (iPI S μ cx cy) (lX2_isLike_15 S μ n x0 x1 x2) := by
  intro n
  induction n with
  | zero => intros; exact x_none
  | succ n ih =>
    intro x0 x1 x2
    unfold lX2_isLike_15
    refine x_iload_n (pc := 15) dX2_isLike_15 (i := 2) rfl rfl ?_
    refine x_aload_n (pc := 16) dX2_isLike_16 (i := 0) rfl rfl ?_
    refine x_gI (pc := 17) (k := 1) fcX2 dX2_isLike_17 q63 (by decide) rfl (fun v3 => ?_)
    refine x_icmp_ge (pc := 20) (tgt := 44) dX2_isLike_20 (by decide) ?_ ?_
    · refine x_iconst (pc := 44) (v := 1) dX2_isLike_44 (by decide) ?_
      exact x_iret rfl dX2_isLike_45 rfl rfl
    · refine x_aload_n (pc := 23) dX2_isLike_23 (i := 0) rfl rfl ?_
      refine x_iload_n (pc := 24) dX2_isLike_24 (i := 2) rfl rfl ?_
      refine x_callVi (pc := 25) (As := [.int x2]) (rest := []) (vx := fun a => a) (μf := fun _ => μ) fcX2 (mX2_get S μ cx cy x0 x2) (fun _ => rfl) rfl (fun _ h => ifok h) dX2_isLike_25 q459 kX2_get rfl ⟨by decide, by decide⟩ rfl (Nat.le_of_ble_eq_true rfl) (fun v4 => ?_)
      refine x_aload_n (pc := 28) dX2_isLike_28 (i := 1) rfl rfl ?_
      refine x_iload_n (pc := 29) dX2_isLike_29 (i := 2) rfl rfl ?_
      refine x_callVi (pc := 30) (As := [.int x2]) (rest := [.int v4]) (vx := fun a => a) (μf := fun _ => μ) fcX2 (mX2_get S μ cx cy x1 x2) (fun _ => rfl) rfl (fun _ h => ifok h) dX2_isLike_30 q459 kX2_get rfl ⟨by decide, by decide⟩ rfl (Nat.le_of_ble_eq_true rfl) (fun v5 => ?_)
      refine x_icmp_eq (pc := 33) (tgt := 38) dX2_isLike_33 (by decide) ?_ ?_
      · refine x_iinc (pc := 38) (v := x2 + (1 : Int32)) dX2_isLike_38 rfl (by rw [show Int32.ofInt (1) = (1 : Int32) from by decide]) (by decide) (l' := [some (.ref x0), some (.ref x1), some (.int (x2 + (1 : Int32)))]) rfl ?_
        refine x_goto (pc := 41) (tgt := 15) dX2_isLike_41 (by decide) ?_
        exact ih x0 x1 (x2 + (1 : Int32)) 
      · refine x_iconst (pc := 36) (v := 0) dX2_isLike_36 (by decide) ?_
        exact x_iret rfl dX2_isLike_37 rfl rfl
set_option maxHeartbeats 4000000 in
theorem xbX2_isLike {n0 c0 s0 cx cy : Nat} {S : mSh} {μ : mMm} (o : Nat) (p0 : Nat) : mX MX2_isLike n0 c0 s0 0 [some (.ref o), some (.ref p0), none] [] (S, μ, cx, cy) (iPI S μ cx cy) (bX2_isLike S μ o p0) := by
  unfold bX2_isLike
  refine x_aload_n (pc := 0) dX2_isLike_0 (i := 0) rfl rfl ?_
  refine x_gI (pc := 1) (k := 1) fcX2 dX2_isLike_1 q63 (by decide) rfl (fun v1 => ?_)
  refine x_aload_n (pc := 4) dX2_isLike_4 (i := 1) rfl rfl ?_
  refine x_gI (pc := 5) (k := 1) fcX2 dX2_isLike_5 q63 (by decide) rfl (fun v2 => ?_)
  refine x_icmp_eq (pc := 8) (tgt := 13) dX2_isLike_8 (by decide) ?_ ?_
  · refine x_iconst (pc := 13) (v := 0) dX2_isLike_13 (by decide) ?_
    refine x_istore_n (pc := 14) dX2_isLike_14 (i := 2) rfl (by decide) (l' := [some (.ref o), some (.ref p0), some (.int (0 : Int32))]) rfl ?_
    exact xX2_isLike_15 FU o p0 (0 : Int32) 
  · refine x_iconst (pc := 11) (v := 0) dX2_isLike_11 (by decide) ?_
    exact x_iret rfl dX2_isLike_12 rfl rfl
theorem mX2_isLike (S : mSh) (μ : mMm) (cx cy : Nat) (o : Nat) (p0 : Nat) : mMet MX2_isLike [.ref o, .ref p0] (S, μ, cx, cy) (iPI S μ cx cy) (fX2_isLike S μ o p0) := mMet.of rfl (by decide) rfl (fun h => by cases h) (Nat.le_of_ble_eq_true rfl) (mX.ck (fun _ => xbX2_isLike o p0))
/-! SlideMills$Sack.clear()V -/
def bX5_clear (S : mSh) (μ : mMm) (o : Nat) : Option (mMm) := (pI S μ o 5 2 (0 : Int32)).bind fun m1 => some m1
def fX5_clear (S : mSh) (μ : mMm) (o : Nat) : Option (mMm) := if mok S o 5 = true then bX5_clear S μ o else none
abbrev MX5_clear : mM := ((yX5_clear, cX5_clear, 1, none), (0, 0), (false, false), RX5, eT)
theorem kX5_clear : mCalV MX5_clear RX5 0 := ⟨q265, q266, q36, q267, by decide +kernel⟩
set_option maxHeartbeats 4000000 in
theorem xbX5_clear {n0 c0 s0 cx cy : Nat} {S : mSh} {μ : mMm} (o : Nat) : mX MX5_clear n0 c0 s0 0 [some (.ref o)] [] (S, μ, cx, cy) (iMV S cx cy) (bX5_clear S μ o) := by
  unfold bX5_clear
  refine x_aload_n (pc := 0) dX5_clear_0 (i := 0) rfl rfl ?_
  refine x_iconst (pc := 1) (v := 0) dX5_clear_1 (by decide) ?_
  refine x_pI (pc := 2) (k := 2) fcX5 dX5_clear_2 q70 (by decide) rfl rfl rfl rfl (fun m1 => ?_)
  exact x_ret rfl dX5_clear_5 rfl
theorem mX5_clear (S : mSh) (μ : mMm) (cx cy : Nat) (o : Nat) : mMet MX5_clear [.ref o] (S, μ, cx, cy) (iMV S cx cy) (fX5_clear S μ o) := mMet.of rfl (by decide) rfl (fun h => by cases h) (Nat.le_of_ble_eq_true rfl) (mX.ck (fun _ => xbX5_clear o))
/-! SlideMills$Sack.put(II)V -/
def bX5_put (S : mSh) (μ : mMm) (o : Nat) (p0 : Int32) (p1 : Int32) : Option (mMm) := (gI S μ o 5 2).bind fun v1 => if v1 < 0 then (some μ) else ((gI S μ o 5 2).bind fun v2 => (gR S o 5 0).bind fun v3 => (aL S v3 12).bind fun v4 => if v4 ≤ v2 then (some μ) else ((gI S μ o 5 2).bind fun v5 => (gR S o 5 1).bind fun v6 => (aL S v6 12).bind fun v7 => if v7 ≤ v5 then (some μ) else ((gR S o 5 0).bind fun v8 => (gI S μ o 5 2).bind fun v9 => (stI S μ v8 v9 p0).bind fun m10 => (gR S o 5 1).bind fun v11 => (gI S m10 o 5 2).bind fun v12 => (stI S m10 v11 v12 p1).bind fun m13 => (gI S m13 o 5 2).bind fun v14 => (pI S m13 o 5 2 (v14 + (1 : Int32))).bind fun m15 => some m15)))
def fX5_put (S : mSh) (μ : mMm) (o : Nat) (p0 : Int32) (p1 : Int32) : Option (mMm) := if mok S o 5 = true then bX5_put S μ o p0 p1 else none
abbrev MX5_put : mM := ((yX5_put, cX5_put, 3, none), (0, 0), (false, false), RX5, eT)
theorem kX5_put : mCalV MX5_put RX5 2 := ⟨q318, q319, q36, q320, by decide +kernel⟩
set_option maxHeartbeats 4000000 in
theorem xbX5_put {n0 c0 s0 cx cy : Nat} {S : mSh} {μ : mMm} (o : Nat) (p0 : Int32) (p1 : Int32) : mX MX5_put n0 c0 s0 0 [some (.ref o), some (.int p0), some (.int p1)] [] (S, μ, cx, cy) (iMV S cx cy) (bX5_put S μ o p0 p1) := by
  unfold bX5_put
  refine x_aload_n (pc := 0) dX5_put_0 (i := 0) rfl rfl ?_
  refine x_gI (pc := 1) (k := 2) fcX5 dX5_put_1 q70 (by decide) rfl (fun v1 => ?_)
  refine x_if_lt (pc := 4) (tgt := 61) dX5_put_4 (by decide) ?_ ?_
  · exact x_ret rfl dX5_put_61 rfl
  · refine x_aload_n (pc := 7) dX5_put_7 (i := 0) rfl rfl ?_
    refine x_gI (pc := 8) (k := 2) fcX5 dX5_put_8 q70 (by decide) rfl (fun v2 => ?_)
    refine x_aload_n (pc := 11) dX5_put_11 (i := 0) rfl rfl ?_
    refine x_gR (pc := 12) (k := 0) fcX5 dX5_put_12 q68 (by decide) rfl (fun v3 => ?_)
    refine x_aL (pc := 15) dX5_put_15 (fun v4 => ?_)
    refine x_icmp_ge (pc := 16) (tgt := 61) dX5_put_16 (by decide) ?_ ?_
    · exact x_ret rfl dX5_put_61 rfl
    · refine x_aload_n (pc := 19) dX5_put_19 (i := 0) rfl rfl ?_
      refine x_gI (pc := 20) (k := 2) fcX5 dX5_put_20 q70 (by decide) rfl (fun v5 => ?_)
      refine x_aload_n (pc := 23) dX5_put_23 (i := 0) rfl rfl ?_
      refine x_gR (pc := 24) (k := 1) fcX5 dX5_put_24 q69 (by decide) rfl (fun v6 => ?_)
      refine x_aL (pc := 27) dX5_put_27 (fun v7 => ?_)
      refine x_icmp_ge (pc := 28) (tgt := 61) dX5_put_28 (by decide) ?_ ?_
      · exact x_ret rfl dX5_put_61 rfl
      · refine x_aload_n (pc := 31) dX5_put_31 (i := 0) rfl rfl ?_
        refine x_gR (pc := 32) (k := 0) fcX5 dX5_put_32 q68 (by decide) rfl (fun v8 => ?_)
        refine x_aload_n (pc := 35) dX5_put_35 (i := 0) rfl rfl ?_
        refine x_gI (pc := 36) (k := 2) fcX5 dX5_put_36 q70 (by decide) rfl (fun v9 => ?_)
        refine x_iload_n (pc := 39) dX5_put_39 (i := 1) rfl rfl ?_
        refine x_stI (pc := 40) dX5_put_40 (fun m10 => ?_)
        refine x_aload_n (pc := 41) dX5_put_41 (i := 0) rfl rfl ?_
        refine x_gR (pc := 42) (k := 1) fcX5 dX5_put_42 q69 (by decide) rfl (fun v11 => ?_)
        refine x_aload_n (pc := 45) dX5_put_45 (i := 0) rfl rfl ?_
        refine x_gI (pc := 46) (k := 2) fcX5 dX5_put_46 q70 (by decide) rfl (fun v12 => ?_)
        refine x_iload_n (pc := 49) dX5_put_49 (i := 2) rfl rfl ?_
        refine x_stI (pc := 50) dX5_put_50 (fun m13 => ?_)
        refine x_aload_n (pc := 51) dX5_put_51 (i := 0) rfl rfl ?_
        refine x_dup (pc := 52) dX5_put_52 rfl ?_
        refine x_gI (pc := 53) (k := 2) fcX5 dX5_put_53 q70 (by decide) rfl (fun v14 => ?_)
        refine x_iconst (pc := 56) (v := 1) dX5_put_56 (by decide) ?_
        refine x_iadd (pc := 57) dX5_put_57 ?_
        refine x_pI (pc := 58) (k := 2) fcX5 dX5_put_58 q70 (by decide) rfl rfl rfl rfl (fun m15 => ?_)
        exact x_ret rfl dX5_put_61 rfl
theorem mX5_put (S : mSh) (μ : mMm) (cx cy : Nat) (o : Nat) (p0 : Int32) (p1 : Int32) : mMet MX5_put [.ref o, .int p0, .int p1] (S, μ, cx, cy) (iMV S cx cy) (fX5_put S μ o p0 p1) := mMet.of rfl (by decide) rfl (fun h => by cases h) (Nat.le_of_ble_eq_true rfl) (mX.ck (fun _ => xbX5_put o p0 p1))
/-! SlideMills$Sack.has(I)Z -/
def bX5_has (S : mSh) (μ : mMm) (o : Nat) (p0 : Int32) : Option (Int32) := if p0 < 0 then (some (0 : Int32)) else ((gI S μ o 5 2).bind fun v1 => if v1 ≤ p0 then (some (0 : Int32)) else (some (1 : Int32)))
def fX5_has (S : mSh) (μ : mMm) (o : Nat) (p0 : Int32) : Option (Int32) := if mok S o 5 = true then bX5_has S μ o p0 else none
abbrev MX5_has : mM := ((yX5_has, cX5_has, 2, (some .boolean)), (0, 0), (false, false), RX5, eT)
theorem kX5_has : mCalV MX5_has RX5 1 := ⟨q410, q411, q36, q412, by decide +kernel⟩
set_option maxHeartbeats 4000000 in
theorem xbX5_has {n0 c0 s0 cx cy : Nat} {S : mSh} {μ : mMm} (o : Nat) (p0 : Int32) : mX MX5_has n0 c0 s0 0 [some (.ref o), some (.int p0)] [] (S, μ, cx, cy) (iPI S μ cx cy) (bX5_has S μ o p0) := by
  unfold bX5_has
  refine x_iload_n (pc := 0) dX5_has_0 (i := 1) rfl rfl ?_
  refine x_if_lt (pc := 1) (tgt := 16) dX5_has_1 (by decide) ?_ ?_
  · refine x_iconst (pc := 16) (v := 0) dX5_has_16 (by decide) ?_
    exact x_iret rfl dX5_has_17 rfl rfl
  · refine x_iload_n (pc := 4) dX5_has_4 (i := 1) rfl rfl ?_
    refine x_aload_n (pc := 5) dX5_has_5 (i := 0) rfl rfl ?_
    refine x_gI (pc := 6) (k := 2) fcX5 dX5_has_6 q70 (by decide) rfl (fun v1 => ?_)
    refine x_icmp_ge (pc := 9) (tgt := 16) dX5_has_9 (by decide) ?_ ?_
    · refine x_iconst (pc := 16) (v := 0) dX5_has_16 (by decide) ?_
      exact x_iret rfl dX5_has_17 rfl rfl
    · refine x_iconst (pc := 12) (v := 1) dX5_has_12 (by decide) ?_
      refine x_goto (pc := 13) (tgt := 17) dX5_has_13 (by decide) ?_
      exact x_iret rfl dX5_has_17 rfl rfl
theorem mX5_has (S : mSh) (μ : mMm) (cx cy : Nat) (o : Nat) (p0 : Int32) : mMet MX5_has [.ref o, .int p0] (S, μ, cx, cy) (iPI S μ cx cy) (fX5_has S μ o p0) := mMet.of rfl (by decide) rfl (fun h => by cases h) (Nat.le_of_ble_eq_true rfl) (mX.ck (fun _ => xbX5_has o p0))
/-! SlideMills$Sack.isFull()Z -/
def bX5_isFull (S : mSh) (μ : mMm) (o : Nat) : Option (Int32) := (gI S μ o 5 2).bind fun v1 => if v1 < (40 : Int32) then (some (0 : Int32)) else (some (1 : Int32))
def fX5_isFull (S : mSh) (μ : mMm) (o : Nat) : Option (Int32) := if mok S o 5 = true then bX5_isFull S μ o else none
abbrev MX5_isFull : mM := ((yX5_isFull, cX5_isFull, 1, (some .boolean)), (0, 0), (false, false), RX5, eT)
theorem kX5_isFull : mCalV MX5_isFull RX5 0 := ⟨q377, q378, q36, q379, by decide +kernel⟩
set_option maxHeartbeats 4000000 in
theorem xbX5_isFull {n0 c0 s0 cx cy : Nat} {S : mSh} {μ : mMm} (o : Nat) : mX MX5_isFull n0 c0 s0 0 [some (.ref o)] [] (S, μ, cx, cy) (iPI S μ cx cy) (bX5_isFull S μ o) := by
  unfold bX5_isFull
  refine x_aload_n (pc := 0) dX5_isFull_0 (i := 0) rfl rfl ?_
  refine x_gI (pc := 1) (k := 2) fcX5 dX5_isFull_1 q70 (by decide) rfl (fun v1 => ?_)
  refine x_bipush (pc := 4) (v := 40) dX5_isFull_4 (by decide) ?_
  refine x_icmp_lt (pc := 6) (tgt := 13) dX5_isFull_6 (by decide) ?_ ?_
  · refine x_iconst (pc := 13) (v := 0) dX5_isFull_13 (by decide) ?_
    exact x_iret rfl dX5_isFull_14 rfl rfl
  · refine x_iconst (pc := 9) (v := 1) dX5_isFull_9 (by decide) ?_
    refine x_goto (pc := 10) (tgt := 14) dX5_isFull_10 (by decide) ?_
    exact x_iret rfl dX5_isFull_14 rfl rfl
theorem mX5_isFull (S : mSh) (μ : mMm) (cx cy : Nat) (o : Nat) : mMet MX5_isFull [.ref o] (S, μ, cx, cy) (iPI S μ cx cy) (fX5_isFull S μ o) := mMet.of rfl (by decide) rfl (fun h => by cases h) (Nat.le_of_ble_eq_true rfl) (mX.ck (fun _ => xbX5_isFull o))
/-! SlideMills$Sack.length(I)I -/
def bX5_length (S : mSh) (μ : mMm) (o : Nat) (p0 : Int32) : Option (Int32) := (fX5_distance S μ o p0).bind fun v1 => if v1 = 0 then (some (1 : Int32)) else ((fX5_value S μ o p0).bind fun v2 => some v2)
def fX5_length (S : mSh) (μ : mMm) (o : Nat) (p0 : Int32) : Option (Int32) := if mok S o 5 = true then bX5_length S μ o p0 else none
abbrev MX5_length : mM := ((yX5_length, cX5_length, 2, (some .int)), (1, 21), (false, false), RX5, eT)
theorem kX5_length : mCalV MX5_length RX5 1 := ⟨q353, q354, q36, q355, by decide +kernel⟩
set_option maxHeartbeats 4000000 in
theorem xbX5_length {n0 c0 s0 cx cy : Nat} {S : mSh} {μ : mMm} (o : Nat) (p0 : Int32) : mX MX5_length n0 c0 s0 0 [some (.ref o), some (.int p0)] [] (S, μ, cx, cy) (iPI S μ cx cy) (bX5_length S μ o p0) := by
  unfold bX5_length
  refine x_aload_n (pc := 0) dX5_length_0 (i := 0) rfl rfl ?_
  refine x_iload_n (pc := 1) dX5_length_1 (i := 1) rfl rfl ?_
  refine x_callVi (pc := 2) (As := [.int p0]) (rest := []) (vx := fun a => a) (μf := fun _ => μ) fcX5 (mX5_distance S μ cx cy o p0) (fun _ => rfl) rfl (fun _ h => ifok h) dX5_length_2 q171 kX5_distance rfl ⟨by decide, by decide⟩ rfl (Nat.le_of_ble_eq_true rfl) (fun v1 => ?_)
  refine x_if_ne (pc := 5) (tgt := 12) dX5_length_5 (by decide) ?_ ?_
  · refine x_iconst (pc := 8) (v := 1) dX5_length_8 (by decide) ?_
    refine x_goto (pc := 9) (tgt := 17) dX5_length_9 (by decide) ?_
    exact x_iret rfl dX5_length_17 rfl rfl
  · refine x_aload_n (pc := 12) dX5_length_12 (i := 0) rfl rfl ?_
    refine x_iload_n (pc := 13) dX5_length_13 (i := 1) rfl rfl ?_
    refine x_callVi (pc := 14) (As := [.int p0]) (rest := []) (vx := fun a => a) (μf := fun _ => μ) fcX5 (mX5_value S μ cx cy o p0) (fun _ => rfl) rfl (fun _ h => ifok h) dX5_length_14 q175 kX5_value rfl ⟨by decide, by decide⟩ rfl (Nat.le_of_ble_eq_true rfl) (fun v2 => ?_)
    exact x_iret rfl dX5_length_17 rfl rfl
theorem mX5_length (S : mSh) (μ : mMm) (cx cy : Nat) (o : Nat) (p0 : Int32) : mMet MX5_length [.ref o, .int p0] (S, μ, cx, cy) (iPI S μ cx cy) (fX5_length S μ o p0) := mMet.of rfl (by decide) rfl (fun h => by cases h) (Nat.le_of_ble_eq_true rfl) (mX.ck (fun _ => xbX5_length o p0))
/-! SlideMills$Sack.cost(LSlideMills$Settings;)I -/
def lX5_cost_32 (k4 : Nat → Nat → Int32 → Int32 → Option (Int32)) (S : mSh) (μ : mMm) (x0 : Nat) (x1 : Nat) (x3 : Int32) (t0 : Int32) (t1 : Int32) : Option (Int32) := k4 x0 x1 (t1 + t0) (x3 + (1 : Int32))
def lX5_cost_4 (S : mSh) (μ : mMm) : Nat → Nat → Nat → Int32 → Int32 → Option (Int32)
  | 0, _, _, _, _ => none
  | n + 1, x0, x1, x2, x3 => (gI S μ x0 5 2).bind fun v1 => if v1 ≤ x3 then (some x2) else ((fX5_distance S μ x0 x3).bind fun v2 => if v2 = 0 then ((gI S μ x1 6 3).bind fun v4 => lX5_cost_32 (lX5_cost_4 S μ n) S μ x0 x1 x3 v4 x2) else ((gI S μ x1 6 4).bind fun v3 => lX5_cost_32 (lX5_cost_4 S μ n) S μ x0 x1 x3 v3 x2))
def bX5_cost (S : mSh) (μ : mMm) (o : Nat) (p0 : Nat) : Option (Int32) := lX5_cost_4 S μ FU o p0 (0 : Int32) (0 : Int32)
def fX5_cost (S : mSh) (μ : mMm) (o : Nat) (p0 : Nat) : Option (Int32) := if mok S o 5 = true then bX5_cost S μ o p0 else none
abbrev MX5_cost : mM := ((yX5_cost, cX5_cost, 4, (some .int)), (1, 21), (false, false), RX5, eT)
theorem kX5_cost : mCalV MX5_cost RX5 1 := ⟨q437, q438, q36, q439, by decide +kernel⟩
set_option maxHeartbeats 4000000 in
theorem xX5_cost_32 {n0 c0 s0 cx cy : Nat} {S : mSh} {μ : mMm} {k4 : Nat → Nat → Int32 → Int32 → Option (Int32)} (hk4 : ∀ (x0 : Nat) (x1 : Nat) (x2 : Int32) (x3 : Int32), mX MX5_cost n0 c0 s0 4 [some (.ref x0), some (.ref x1), some (.int x2), some (.int x3)] [] (S, μ, cx, cy) (iPI S μ cx cy) (k4 x0 x1 x2 x3)) (x0 : Nat) (x1 : Nat) (x3 : Int32) (t0 : Int32) (t1 : Int32) (d2 : Option Value) : mX MX5_cost n0 c0 s0 32 [some (.ref x0), some (.ref x1), d2, some (.int x3)] [.int t0, .int t1] (S, μ, cx, cy) (iPI S μ cx cy) (lX5_cost_32 k4 S μ x0 x1 x3 t0 t1) := by
  unfold lX5_cost_32
  refine x_iadd (pc := 32) dX5_cost_32 ?_
  refine x_istore_n (pc := 33) dX5_cost_33 (i := 2) rfl (by decide) (l' := [some (.ref x0), some (.ref x1), some (.int (t1 + t0)), some (.int x3)]) rfl ?_
  refine x_iinc (pc := 34) (v := x3 + (1 : Int32)) dX5_cost_34 rfl (by rw [show Int32.ofInt (1) = (1 : Int32) from by decide]) (by decide) (l' := [some (.ref x0), some (.ref x1), some (.int (t1 + t0)), some (.int (x3 + (1 : Int32)))]) rfl ?_
  refine x_goto (pc := 37) (tgt := 4) dX5_cost_37 (by decide) ?_
  exact hk4 x0 x1 (t1 + t0) (x3 + (1 : Int32)) 
set_option maxHeartbeats 4000000 in
theorem xX5_cost_4 {n0 c0 s0 cx cy : Nat} {S : mSh} {μ : mMm} : ∀ (n : Nat) (x0 : Nat) (x1 : Nat) (x2 : Int32) (x3 : Int32), mX MX5_cost n0 c0 s0 4 [some (.ref x0), some (.ref x1), some (.int x2), some (.int x3)] [] (S, μ, cx, cy) (iPI S μ cx cy) (lX5_cost_4 S μ n x0 x1 x2 x3) := by
  intro n
  induction n with
  | zero => intros; exact x_none
  | succ n ih =>
    intro x0 x1 x2 x3
    unfold lX5_cost_4
    refine x_iload_n (pc := 4) dX5_cost_4 (i := 3) rfl rfl ?_
    refine x_aload_n (pc := 5) dX5_cost_5 (i := 0) rfl rfl ?_
    refine x_gI (pc := 6) (k := 2) fcX5 dX5_cost_6 q70 (by decide) rfl (fun v1 => ?_)
    refine x_icmp_ge (pc := 9) (tgt := 40) dX5_cost_9 (by decide) ?_ ?_
    · refine x_iload_n (pc := 40) dX5_cost_40 (i := 2) rfl rfl ?_
      exact x_iret rfl dX5_cost_41 rfl rfl
    · refine x_iload_n (pc := 12) dX5_cost_12 (i := 2) rfl rfl ?_
      refine x_aload_n (pc := 13) dX5_cost_13 (i := 0) rfl rfl ?_
      refine x_iload_n (pc := 14) dX5_cost_14 (i := 3) rfl rfl ?_
      refine x_callVi (pc := 15) (As := [.int x3]) (rest := [.int x2]) (vx := fun a => a) (μf := fun _ => μ) fcX5 (mX5_distance S μ cx cy x0 x3) (fun _ => rfl) rfl (fun _ h => ifok h) dX5_cost_15 q171 kX5_distance rfl ⟨by decide, by decide⟩ rfl (Nat.le_of_ble_eq_true rfl) (fun v2 => ?_)
      refine x_if_ne (pc := 18) (tgt := 28) dX5_cost_18 (by decide) ?_ ?_
      · refine x_aload_n (pc := 21) dX5_cost_21 (i := 1) rfl rfl ?_
        refine x_gI (pc := 22) (k := 3) fcX6 dX5_cost_22 q440 (by decide) rfl (fun v4 => ?_)
        refine x_goto (pc := 25) (tgt := 32) dX5_cost_25 (by decide) ?_
        exact xX5_cost_32 (k4 := (lX5_cost_4 S μ n)) ih x0 x1 x3 v4 x2 _
      · refine x_aload_n (pc := 28) dX5_cost_28 (i := 1) rfl rfl ?_
        refine x_gI (pc := 29) (k := 4) fcX6 dX5_cost_29 q441 (by decide) rfl (fun v3 => ?_)
        exact xX5_cost_32 (k4 := (lX5_cost_4 S μ n)) ih x0 x1 x3 v3 x2 _
set_option maxHeartbeats 4000000 in
theorem xbX5_cost {n0 c0 s0 cx cy : Nat} {S : mSh} {μ : mMm} (o : Nat) (p0 : Nat) : mX MX5_cost n0 c0 s0 0 [some (.ref o), some (.ref p0), none, none] [] (S, μ, cx, cy) (iPI S μ cx cy) (bX5_cost S μ o p0) := by
  unfold bX5_cost
  refine x_iconst (pc := 0) (v := 0) dX5_cost_0 (by decide) ?_
  refine x_istore_n (pc := 1) dX5_cost_1 (i := 2) rfl (by decide) (l' := [some (.ref o), some (.ref p0), some (.int (0 : Int32)), none]) rfl ?_
  refine x_iconst (pc := 2) (v := 0) dX5_cost_2 (by decide) ?_
  refine x_istore_n (pc := 3) dX5_cost_3 (i := 3) rfl (by decide) (l' := [some (.ref o), some (.ref p0), some (.int (0 : Int32)), some (.int (0 : Int32))]) rfl ?_
  exact xX5_cost_4 FU o p0 (0 : Int32) (0 : Int32) 
theorem mX5_cost (S : mSh) (μ : mMm) (cx cy : Nat) (o : Nat) (p0 : Nat) : mMet MX5_cost [.ref o, .ref p0] (S, μ, cx, cy) (iPI S μ cx cy) (fX5_cost S μ o p0) := mMet.of rfl (by decide) rfl (fun h => by cases h) (Nat.le_of_ble_eq_true rfl) (mX.ck (fun _ => xbX5_cost o p0))
/-! SlideMills$Sack.letters()I -/
def lX5_letters_4 (S : mSh) (μ : mMm) : Nat → Nat → Int32 → Int32 → Option (Int32)
  | 0, _, _, _ => none
  | n + 1, x0, x1, x2 => (gI S μ x0 5 2).bind fun v1 => if v1 ≤ x2 then (some x1) else ((fX5_length S μ x0 x2).bind fun v2 => lX5_letters_4 S μ n x0 (x1 + v2) (x2 + (1 : Int32)))
def bX5_letters (S : mSh) (μ : mMm) (o : Nat) : Option (Int32) := lX5_letters_4 S μ FU o (0 : Int32) (0 : Int32)
def fX5_letters (S : mSh) (μ : mMm) (o : Nat) : Option (Int32) := if mok S o 5 = true then bX5_letters S μ o else none
abbrev MX5_letters : mM := ((yX5_letters, cX5_letters, 3, (some .int)), (2, 42), (false, false), RX5, eT)
theorem kX5_letters : mCalV MX5_letters RX5 0 := ⟨q447, q448, q36, q449, by decide +kernel⟩
set_option maxHeartbeats 4000000 in
theorem xX5_letters_4 {n0 c0 s0 cx cy : Nat} {S : mSh} {μ : mMm} : ∀ (n : Nat) (x0 : Nat) (x1 : Int32) (x2 : Int32), mX MX5_letters n0 c0 s0 4 [some (.ref x0), some (.int x1), some (.int x2)] [] (S, μ, cx, cy) (iPI S μ cx cy) (lX5_letters_4 S μ n x0 x1 x2) := by
  intro n
  induction n with
  | zero => intros; exact x_none
  | succ n ih =>
    intro x0 x1 x2
    unfold lX5_letters_4
    refine x_iload_n (pc := 4) dX5_letters_4 (i := 2) rfl rfl ?_
    refine x_aload_n (pc := 5) dX5_letters_5 (i := 0) rfl rfl ?_
    refine x_gI (pc := 6) (k := 2) fcX5 dX5_letters_6 q70 (by decide) rfl (fun v1 => ?_)
    refine x_icmp_ge (pc := 9) (tgt := 26) dX5_letters_9 (by decide) ?_ ?_
    · refine x_iload_n (pc := 26) dX5_letters_26 (i := 1) rfl rfl ?_
      exact x_iret rfl dX5_letters_27 rfl rfl
    · refine x_iload_n (pc := 12) dX5_letters_12 (i := 1) rfl rfl ?_
      refine x_aload_n (pc := 13) dX5_letters_13 (i := 0) rfl rfl ?_
      refine x_iload_n (pc := 14) dX5_letters_14 (i := 2) rfl rfl ?_
      refine x_callVi (pc := 15) (As := [.int x2]) (rest := [.int x1]) (vx := fun a => a) (μf := fun _ => μ) fcX5 (mX5_length S μ cx cy x0 x2) (fun _ => rfl) rfl (fun _ h => ifok h) dX5_letters_15 q450 kX5_length rfl ⟨by decide, by decide⟩ rfl (Nat.le_of_ble_eq_true rfl) (fun v2 => ?_)
      refine x_iadd (pc := 18) dX5_letters_18 ?_
      refine x_istore_n (pc := 19) dX5_letters_19 (i := 1) rfl (by decide) (l' := [some (.ref x0), some (.int (x1 + v2)), some (.int x2)]) rfl ?_
      refine x_iinc (pc := 20) (v := x2 + (1 : Int32)) dX5_letters_20 rfl (by rw [show Int32.ofInt (1) = (1 : Int32) from by decide]) (by decide) (l' := [some (.ref x0), some (.int (x1 + v2)), some (.int (x2 + (1 : Int32)))]) rfl ?_
      refine x_goto (pc := 23) (tgt := 4) dX5_letters_23 (by decide) ?_
      exact ih x0 (x1 + v2) (x2 + (1 : Int32)) 
set_option maxHeartbeats 4000000 in
theorem xbX5_letters {n0 c0 s0 cx cy : Nat} {S : mSh} {μ : mMm} (o : Nat) : mX MX5_letters n0 c0 s0 0 [some (.ref o), none, none] [] (S, μ, cx, cy) (iPI S μ cx cy) (bX5_letters S μ o) := by
  unfold bX5_letters
  refine x_iconst (pc := 0) (v := 0) dX5_letters_0 (by decide) ?_
  refine x_istore_n (pc := 1) dX5_letters_1 (i := 1) rfl (by decide) (l' := [some (.ref o), some (.int (0 : Int32)), none]) rfl ?_
  refine x_iconst (pc := 2) (v := 0) dX5_letters_2 (by decide) ?_
  refine x_istore_n (pc := 3) dX5_letters_3 (i := 2) rfl (by decide) (l' := [some (.ref o), some (.int (0 : Int32)), some (.int (0 : Int32))]) rfl ?_
  exact xX5_letters_4 FU o (0 : Int32) (0 : Int32) 
theorem mX5_letters (S : mSh) (μ : mMm) (cx cy : Nat) (o : Nat) : mMet MX5_letters [.ref o] (S, μ, cx, cy) (iPI S μ cx cy) (fX5_letters S μ o) := mMet.of rfl (by decide) rfl (fun h => by cases h) (Nat.le_of_ble_eq_true rfl) (mX.ck (fun _ => xbX5_letters o))
