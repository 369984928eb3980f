/-! printed by gen.py: each method as a function of numbers, and that the machine does what it says -/
/-! SlideMills.isLetter(I)Z -/
def fX10_isLetter (p0 : Int32) : Option (Int32) := if p0 < 0 then (some (0 : Int32)) else (if (4 : Int32) ≤ p0 then (some (0 : Int32)) else (some (1 : Int32)))
abbrev MX10_isLetter : mM := ((yX10_isLetter, cX10_isLetter, 1, (some .boolean)), (0, 0), (false, false), RX10, eT)
theorem kX10_isLetter : mCalS MX10_isLetter 1 := ⟨q161, q2, q162, by decide +kernel⟩
set_option maxHeartbeats 4000000 in
theorem xbX10_isLetter {n0 c0 s0 cx cy : Nat} {S : mSh} {μ : mMm} (p0 : Int32) : mX MX10_isLetter n0 c0 s0 0 [some (.int p0)] [] (S, μ, cx, cy) (iPI S μ cx cy) (fX10_isLetter p0) := by
  unfold fX10_isLetter
  refine x_iload_n (pc := 0) dX10_isLetter_0 (i := 0) rfl rfl ?_
  refine x_if_lt (pc := 1) (tgt := 13) dX10_isLetter_1 (by decide) ?_ ?_
  · refine x_iconst (pc := 13) (v := 0) dX10_isLetter_13 (by decide) ?_
    exact x_iret rfl dX10_isLetter_14 rfl rfl
  · refine x_iload_n (pc := 4) dX10_isLetter_4 (i := 0) rfl rfl ?_
    refine x_iconst (pc := 5) (v := 4) dX10_isLetter_5 (by decide) ?_
    refine x_icmp_ge (pc := 6) (tgt := 13) dX10_isLetter_6 (by decide) ?_ ?_
    · refine x_iconst (pc := 13) (v := 0) dX10_isLetter_13 (by decide) ?_
      exact x_iret rfl dX10_isLetter_14 rfl rfl
    · refine x_iconst (pc := 9) (v := 1) dX10_isLetter_9 (by decide) ?_
      refine x_goto (pc := 10) (tgt := 14) dX10_isLetter_10 (by decide) ?_
      exact x_iret rfl dX10_isLetter_14 rfl rfl
theorem mX10_isLetter (S : mSh) (μ : mMm) (cx cy : Nat) (p0 : Int32) : mMet MX10_isLetter [.int p0] (S, μ, cx, cy) (iPI S μ cx cy) (fX10_isLetter p0) := mMet.of rfl (by decide) rfl (fun h => by cases h) (Nat.le_of_ble_eq_true rfl) (xbX10_isLetter p0)
/-! SlideMills.addLetter(I)I -/
def bX10_addLetter (S : mSh) (μ : mMm) (o : Nat) (p0 : Int32) : Option ((Int32 ⊕ Nat) × mMm) := (fX10_isLetter p0).bind fun v1 => if v1 = 0 then (some (.inr 0, μ)) else ((gR S o 10 0).bind fun v2 => (gR S v2 7 0).bind fun v3 => (gI S μ v3 2 1).bind fun v4 => if v4 < (40 : Int32) then ((gR S o 10 3).bind fun v5 => (gR S o 10 0).bind fun v6 => (fX1_push S μ v5 v6).bind fun m7 => (gR S o 10 0).bind fun v8 => (gR S v8 7 0).bind fun v9 => (fX2_put S m7 v9 p0).bind fun m10 => (gR S o 10 0).bind fun v11 => (gR S v11 7 0).bind fun v12 => (gI S m10 v12 2 1).bind fun v13 => some (.inl v13, m10)) else (some (.inr 1, μ)))
def fX10_addLetter (S : mSh) (μ : mMm) (o : Nat) (p0 : Int32) : Option ((Int32 ⊕ Nat) × mMm) := if mok S o 10 = true then bX10_addLetter S μ o p0 else none
abbrev MX10_addLetter : mM := ((yX10_addLetter, cX10_addLetter, 2, (some .int)), (6, 90), (false, false), RX10, eT)
theorem kX10_addLetter : mCalV MX10_addLetter RX10 1 := ⟨q152, q153, q2, q154, by decide +kernel⟩
set_option maxHeartbeats 4000000 in
theorem xbX10_addLetter {n0 c0 s0 cx cy : Nat} {S : mSh} {μ : mMm} (o : Nat) (p0 : Int32) : mX MX10_addLetter n0 c0 s0 0 [some (.ref o), some (.int p0)] [] (S, μ, cx, cy) (iTI S cx cy) (bX10_addLetter S μ o p0) := by
  unfold bX10_addLetter
  refine x_iload_n (pc := 0) dX10_addLetter_0 (i := 1) rfl rfl ?_
  refine x_callSi (pc := 1) (As := [.int p0]) (rest := []) (vx := fun a => a) (μf := fun _ => μ) (mX10_isLetter S μ cx cy p0) (fun _ => rfl) rfl dX10_addLetter_1 q160 kX10_isLetter rfl ⟨by decide, by decide⟩ rfl (Nat.le_of_ble_eq_true rfl) (fun v1 => ?_)
  refine x_if_ne (pc := 4) (tgt := 17) dX10_addLetter_4 (by decide) ?_ ?_
  · exact x_throw rfl ⟨81, 83, 85, "letter out of range", dX10_addLetter_7, dX10_addLetter_10, Or.inl ⟨dX10_addLetter_11, dX10_addLetter_13, dX10_addLetter_16⟩, rfl, q155, q156, Or.inl ⟨rfl, rfl⟩, by decide, by decide, by decide⟩ (Nat.le_of_ble_eq_true rfl)
  · refine x_aload_n (pc := 17) dX10_addLetter_17 (i := 0) rfl rfl ?_
    refine x_gR (pc := 18) (k := 0) fcX10 dX10_addLetter_18 q16 (by decide) rfl (fun v2 => ?_)
    refine x_gR (pc := 21) (k := 0) fcX7 dX10_addLetter_21 q30 (by decide) rfl (fun v3 => ?_)
    refine x_gI (pc := 24) (k := 1) fcX2 dX10_addLetter_24 q159 (by decide) rfl (fun v4 => ?_)
    refine x_bipush (pc := 27) (v := 40) dX10_addLetter_27 (by decide) ?_
    refine x_icmp_lt (pc := 29) (tgt := 42) dX10_addLetter_29 (by decide) ?_ ?_
    · refine x_aload_n (pc := 42) dX10_addLetter_42 (i := 0) rfl rfl ?_
      refine x_gR (pc := 43) (k := 3) fcX10 dX10_addLetter_43 q22 (by decide) rfl (fun v5 => ?_)
      refine x_aload_n (pc := 46) dX10_addLetter_46 (i := 0) rfl rfl ?_
      refine x_gR (pc := 47) (k := 0) fcX10 dX10_addLetter_47 q16 (by decide) rfl (fun v6 => ?_)
      refine x_callVv (pc := 50) (As := [.ref v6]) (rest := []) (μf := fun a => a) fcX1 (mX1_push S μ cx cy v5 v6) (fun _ => rfl) rfl (fun _ h => ifok h) dX10_addLetter_50 q163 kX1_push rfl ⟨by decide, by decide⟩ rfl (Nat.le_of_ble_eq_true rfl) (fun m7 => ?_)
      refine x_aload_n (pc := 53) dX10_addLetter_53 (i := 0) rfl rfl ?_
      refine x_gR (pc := 54) (k := 0) fcX10 dX10_addLetter_54 q16 (by decide) rfl (fun v8 => ?_)
      refine x_gR (pc := 57) (k := 0) fcX7 dX10_addLetter_57 q30 (by decide) rfl (fun v9 => ?_)
      refine x_iload_n (pc := 60) dX10_addLetter_60 (i := 1) rfl rfl ?_
      refine x_callVv (pc := 61) (As := [.int p0]) (rest := []) (μf := fun a => a) fcX2 (mX2_put S m7 cx cy v9 p0) (fun _ => rfl) rfl (fun _ h => ifok h) dX10_addLetter_61 q191 kX2_put rfl ⟨by decide, by decide⟩ rfl (Nat.le_of_ble_eq_true rfl) (fun m10 => ?_)
      refine x_aload_n (pc := 64) dX10_addLetter_64 (i := 0) rfl rfl ?_
      refine x_gR (pc := 65) (k := 0) fcX10 dX10_addLetter_65 q16 (by decide) rfl (fun v11 => ?_)
      refine x_gR (pc := 68) (k := 0) fcX7 dX10_addLetter_68 q30 (by decide) rfl (fun v12 => ?_)
      refine x_gI (pc := 71) (k := 1) fcX2 dX10_addLetter_71 q159 (by decide) rfl (fun v13 => ?_)
      exact x_iret rfl dX10_addLetter_74 rfl rfl
    · exact x_throw rfl ⟨94, 96, 98, "the text is full", dX10_addLetter_32, dX10_addLetter_35, Or.inl ⟨dX10_addLetter_36, dX10_addLetter_38, dX10_addLetter_41⟩, rfl, q157, q158, Or.inr (Or.inl ⟨rfl, rfl⟩), by decide, by decide, by decide⟩ (Nat.le_of_ble_eq_true rfl)
theorem mX10_addLetter (S : mSh) (μ : mMm) (cx cy : Nat) (o : Nat) (p0 : Int32) : mMet MX10_addLetter [.ref o, .int p0] (S, μ, cx, cy) (iTI S cx cy) (fX10_addLetter S μ o p0) := mMet.of rfl (by decide) rfl (fun h => by cases h) (Nat.le_of_ble_eq_true rfl) (mX.ck (fun _ => xbX10_addLetter o p0))
/-! SlideMills.setLetter(II)I -/
def bX10_setLetter (S : mSh) (μ : mMm) (o : Nat) (p0 : Int32) (p1 : Int32) : Option ((Int32 ⊕ Nat) × mMm) := (gR S o 10 0).bind fun v1 => (gR S v1 7 0).bind fun v2 => (fX2_has S μ v2 p0).bind fun v3 => if v3 = 0 then (some (.inr 2, μ)) else ((fX10_isLetter p1).bind fun v4 => if v4 = 0 then (some (.inr 0, μ)) else ((gR S o 10 3).bind fun v5 => (gR S o 10 0).bind fun v6 => (fX1_push S μ v5 v6).bind fun m7 => (gR S o 10 0).bind fun v8 => (gR S v8 7 0).bind fun v9 => (fX2_get S m7 v9 p0).bind fun v10 => (gR S o 10 0).bind fun v11 => (gR S v11 7 0).bind fun v12 => (fX2_replace S m7 v12 p0 p1).bind fun m13 => some (.inl v10, m13)))
def fX10_setLetter (S : mSh) (μ : mMm) (o : Nat) (p0 : Int32) (p1 : Int32) : Option ((Int32 ⊕ Nat) × mMm) := if mok S o 10 = true then bX10_setLetter S μ o p0 p1 else none
abbrev MX10_setLetter : mM := ((yX10_setLetter, cX10_setLetter, 4, (some .int)), (6, 90), (false, false), RX10, eT)
theorem kX10_setLetter : mCalV MX10_setLetter RX10 2 := ⟨q225, q226, q2, q227, by decide +kernel⟩
set_option maxHeartbeats 4000000 in
theorem xbX10_setLetter {n0 c0 s0 cx cy : Nat} {S : mSh} {μ : mMm} (o : Nat) (p0 : Int32) (p1 : Int32) : mX MX10_setLetter n0 c0 s0 0 [some (.ref o), some (.int p0), some (.int p1), none] [] (S, μ, cx, cy) (iTI S cx cy) (bX10_setLetter S μ o p0 p1) := by
  unfold bX10_setLetter
  refine x_aload_n (pc := 0) dX10_setLetter_0 (i := 0) rfl rfl ?_
  refine x_gR (pc := 1) (k := 0) fcX10 dX10_setLetter_1 q16 (by decide) rfl (fun v1 => ?_)
  refine x_gR (pc := 4) (k := 0) fcX7 dX10_setLetter_4 q30 (by decide) rfl (fun v2 => ?_)
  refine x_iload_n (pc := 7) dX10_setLetter_7 (i := 1) rfl rfl ?_
  refine x_callVi (pc := 8) (As := [.int p0]) (rest := []) (vx := fun a => a) (μf := fun _ => μ) fcX2 (mX2_has S μ cx cy v2 p0) (fun _ => rfl) rfl (fun _ h => ifok h) dX10_setLetter_8 q230 kX2_has rfl ⟨by decide, by decide⟩ rfl (Nat.le_of_ble_eq_true rfl) (fun v3 => ?_)
  refine x_if_ne (pc := 11) (tgt := 24) dX10_setLetter_11 (by decide) ?_ ?_
  · exact x_throw rfl ⟨110, 112, 114, "no such place", dX10_setLetter_14, dX10_setLetter_17, Or.inl ⟨dX10_setLetter_18, dX10_setLetter_20, dX10_setLetter_23⟩, rfl, q228, q229, Or.inr (Or.inr ⟨rfl, rfl⟩), by decide, by decide, by decide⟩ (Nat.le_of_ble_eq_true rfl)
  · refine x_iload_n (pc := 24) dX10_setLetter_24 (i := 2) rfl rfl ?_
    refine x_callSi (pc := 25) (As := [.int p1]) (rest := []) (vx := fun a => a) (μf := fun _ => μ) (mX10_isLetter S μ cx cy p1) (fun _ => rfl) rfl dX10_setLetter_25 q160 kX10_isLetter rfl ⟨by decide, by decide⟩ rfl (Nat.le_of_ble_eq_true rfl) (fun v4 => ?_)
    refine x_if_ne (pc := 28) (tgt := 41) dX10_setLetter_28 (by decide) ?_ ?_
    · exact x_throw rfl ⟨81, 83, 85, "letter out of range", dX10_setLetter_31, dX10_setLetter_34, Or.inl ⟨dX10_setLetter_35, dX10_setLetter_37, dX10_setLetter_40⟩, rfl, q155, q156, Or.inl ⟨rfl, rfl⟩, by decide, by decide, by decide⟩ (Nat.le_of_ble_eq_true rfl)
    · refine x_aload_n (pc := 41) dX10_setLetter_41 (i := 0) rfl rfl ?_
      refine x_gR (pc := 42) (k := 3) fcX10 dX10_setLetter_42 q22 (by decide) rfl (fun v5 => ?_)
      refine x_aload_n (pc := 45) dX10_setLetter_45 (i := 0) rfl rfl ?_
      refine x_gR (pc := 46) (k := 0) fcX10 dX10_setLetter_46 q16 (by decide) rfl (fun v6 => ?_)
      refine x_callVv (pc := 49) (As := [.ref v6]) (rest := []) (μf := fun a => a) fcX1 (mX1_push S μ cx cy v5 v6) (fun _ => rfl) rfl (fun _ h => ifok h) dX10_setLetter_49 q163 kX1_push rfl ⟨by decide, by decide⟩ rfl (Nat.le_of_ble_eq_true rfl) (fun m7 => ?_)
      refine x_aload_n (pc := 52) dX10_setLetter_52 (i := 0) rfl rfl ?_
      refine x_gR (pc := 53) (k := 0) fcX10 dX10_setLetter_53 q16 (by decide) rfl (fun v8 => ?_)
      refine x_gR (pc := 56) (k := 0) fcX7 dX10_setLetter_56 q30 (by decide) rfl (fun v9 => ?_)
      refine x_iload_n (pc := 59) dX10_setLetter_59 (i := 1) rfl rfl ?_
      refine x_callVi (pc := 60) (As := [.int p0]) (rest := []) (vx := fun a => a) (μf := fun _ => m7) fcX2 (mX2_get S m7 cx cy v9 p0) (fun _ => rfl) rfl (fun _ h => ifok h) dX10_setLetter_60 q234 kX2_get rfl ⟨by decide, by decide⟩ rfl (Nat.le_of_ble_eq_true rfl) (fun v10 => ?_)
      refine x_istore_n (pc := 63) dX10_setLetter_63 (i := 3) rfl (by decide) (l' := [some (.ref o), some (.int p0), some (.int p1), some (.int v10)]) rfl ?_
      refine x_aload_n (pc := 64) dX10_setLetter_64 (i := 0) rfl rfl ?_
      refine x_gR (pc := 65) (k := 0) fcX10 dX10_setLetter_65 q16 (by decide) rfl (fun v11 => ?_)
      refine x_gR (pc := 68) (k := 0) fcX7 dX10_setLetter_68 q30 (by decide) rfl (fun v12 => ?_)
      refine x_iload_n (pc := 71) dX10_setLetter_71 (i := 1) rfl rfl ?_
      refine x_iload_n (pc := 72) dX10_setLetter_72 (i := 2) rfl rfl ?_
      refine x_callVv (pc := 73) (As := [.int p0, .int p1]) (rest := []) (μf := fun a => a) fcX2 (mX2_replace S m7 cx cy v12 p0 p1) (fun _ => rfl) rfl (fun _ h => ifok h) dX10_setLetter_73 q238 kX2_replace rfl ⟨by decide, by decide⟩ rfl (Nat.le_of_ble_eq_true rfl) (fun m13 => ?_)
      refine x_iload_n (pc := 76) dX10_setLetter_76 (i := 3) rfl rfl ?_
      exact x_iret rfl dX10_setLetter_77 rfl rfl
theorem mX10_setLetter (S : mSh) (μ : mMm) (cx cy : Nat) (o : Nat) (p0 : Int32) (p1 : Int32) : mMet MX10_setLetter [.ref o, .int p0, .int p1] (S, μ, cx, cy) (iTI S cx cy) (fX10_setLetter S μ o p0 p1) := mMet.of rfl (by decide) rfl (fun h => by cases h) (Nat.le_of_ble_eq_true rfl) (mX.ck (fun _ => xbX10_setLetter o p0 p1))
/-! SlideMills.emptyText()I -/
def bX10_emptyText (S : mSh) (μ : mMm) (o : Nat) : Option (Int32 × mMm) := (gR S o 10 3).bind fun v1 => (gR S o 10 0).bind fun v2 => (fX1_push S μ v1 v2).bind fun m3 => (gR S o 10 0).bind fun v4 => (gR S v4 7 0).bind fun v5 => (gI S m3 v5 2 1).bind fun v6 => (gR S o 10 0).bind fun v7 => (gR S v7 7 0).bind fun v8 => (fX2_clear S m3 v8).bind fun m9 => some (v6, m9)
def fX10_emptyText (S : mSh) (μ : mMm) (o : Nat) : Option (Int32 × mMm) := if mok S o 10 = true then bX10_emptyText S μ o else none
abbrev MX10_emptyText : mM := ((yX10_emptyText, cX10_emptyText, 2, (some .int)), (4, 85), (false, false), RX10, eT)
theorem kX10_emptyText : mCalV MX10_emptyText RX10 0 := ⟨q251, q252, q2, q253, by decide +kernel⟩
set_option maxHeartbeats 4000000 in
theorem xbX10_emptyText {n0 c0 s0 cx cy : Nat} {S : mSh} {μ : mMm} (o : Nat) : mX MX10_emptyText n0 c0 s0 0 [some (.ref o), none] [] (S, μ, cx, cy) (iMI S cx cy) (bX10_emptyText S μ o) := by
  unfold bX10_emptyText
  refine x_aload_n (pc := 0) dX10_emptyText_0 (i := 0) rfl rfl ?_
  refine x_gR (pc := 1) (k := 3) fcX10 dX10_emptyText_1 q22 (by decide) rfl (fun v1 => ?_)
  refine x_aload_n (pc := 4) dX10_emptyText_4 (i := 0) rfl rfl ?_
  refine x_gR (pc := 5) (k := 0) fcX10 dX10_emptyText_5 q16 (by decide) rfl (fun v2 => ?_)
  refine x_callVv (pc := 8) (As := [.ref v2]) (rest := []) (μf := fun a => a) fcX1 (mX1_push S μ cx cy v1 v2) (fun _ => rfl) rfl (fun _ h => ifok h) dX10_emptyText_8 q163 kX1_push rfl ⟨by decide, by decide⟩ rfl (Nat.le_of_ble_eq_true rfl) (fun m3 => ?_)
  refine x_aload_n (pc := 11) dX10_emptyText_11 (i := 0) rfl rfl ?_
  refine x_gR (pc := 12) (k := 0) fcX10 dX10_emptyText_12 q16 (by decide) rfl (fun v4 => ?_)
  refine x_gR (pc := 15) (k := 0) fcX7 dX10_emptyText_15 q30 (by decide) rfl (fun v5 => ?_)
  refine x_gI (pc := 18) (k := 1) fcX2 dX10_emptyText_18 q159 (by decide) rfl (fun v6 => ?_)
  refine x_istore_n (pc := 21) dX10_emptyText_21 (i := 1) rfl (by decide) (l' := [some (.ref o), some (.int v6)]) rfl ?_
  refine x_aload_n (pc := 22) dX10_emptyText_22 (i := 0) rfl rfl ?_
  refine x_gR (pc := 23) (k := 0) fcX10 dX10_emptyText_23 q16 (by decide) rfl (fun v7 => ?_)
  refine x_gR (pc := 26) (k := 0) fcX7 dX10_emptyText_26 q30 (by decide) rfl (fun v8 => ?_)
  refine x_callVv (pc := 29) (As := []) (rest := []) (μf := fun a => a) fcX2 (mX2_clear S m3 cx cy v8) (fun _ => rfl) rfl (fun _ h => ifok h) dX10_emptyText_29 q254 kX2_clear rfl ⟨by decide, by decide⟩ rfl (Nat.le_of_ble_eq_true rfl) (fun m9 => ?_)
  refine x_iload_n (pc := 32) dX10_emptyText_32 (i := 1) rfl rfl ?_
  exact x_iret rfl dX10_emptyText_33 rfl rfl
theorem mX10_emptyText (S : mSh) (μ : mMm) (cx cy : Nat) (o : Nat) : mMet MX10_emptyText [.ref o] (S, μ, cx, cy) (iMI S cx cy) (fX10_emptyText S μ o) := mMet.of rfl (by decide) rfl (fun h => by cases h) (Nat.le_of_ble_eq_true rfl) (mX.ck (fun _ => xbX10_emptyText o))
/-! SlideMills.isBetween(III)Z -/
def fX10_isBetween (p0 : Int32) (p1 : Int32) (p2 : Int32) : Option (Int32) := if p0 < p1 then (some (0 : Int32)) else (if p2 < p0 then (some (0 : Int32)) else (some (1 : Int32)))
abbrev MX10_isBetween : mM := ((yX10_isBetween, cX10_isBetween, 3, (some .boolean)), (0, 0), (false, false), RX10, eT)
theorem kX10_isBetween : mCalS MX10_isBetween 3 := ⟨q279, q2, q280, by decide +kernel⟩
set_option maxHeartbeats 4000000 in
theorem xbX10_isBetween {n0 c0 s0 cx cy : Nat} {S : mSh} {μ : mMm} (p0 : Int32) (p1 : Int32) (p2 : Int32) : mX MX10_isBetween n0 c0 s0 0 [some (.int p0), some (.int p1), some (.int p2)] [] (S, μ, cx, cy) (iPI S μ cx cy) (fX10_isBetween p0 p1 p2) := by
  unfold fX10_isBetween
  refine x_iload_n (pc := 0) dX10_isBetween_0 (i := 0) rfl rfl ?_
  refine x_iload_n (pc := 1) dX10_isBetween_1 (i := 1) rfl rfl ?_
  refine x_icmp_lt (pc := 2) (tgt := 14) dX10_isBetween_2 (by decide) ?_ ?_
  · refine x_iconst (pc := 14) (v := 0) dX10_isBetween_14 (by decide) ?_
    exact x_iret rfl dX10_isBetween_15 rfl rfl
  · refine x_iload_n (pc := 5) dX10_isBetween_5 (i := 0) rfl rfl ?_
    refine x_iload_n (pc := 6) dX10_isBetween_6 (i := 2) rfl rfl ?_
    refine x_icmp_gt (pc := 7) (tgt := 14) dX10_isBetween_7 (by decide) ?_ ?_
    · refine x_iconst (pc := 14) (v := 0) dX10_isBetween_14 (by decide) ?_
      exact x_iret rfl dX10_isBetween_15 rfl rfl
    · refine x_iconst (pc := 10) (v := 1) dX10_isBetween_10 (by decide) ?_
      refine x_goto (pc := 11) (tgt := 15) dX10_isBetween_11 (by decide) ?_
      exact x_iret rfl dX10_isBetween_15 rfl rfl
theorem mX10_isBetween (S : mSh) (μ : mMm) (cx cy : Nat) (p0 : Int32) (p1 : Int32) (p2 : Int32) : mMet MX10_isBetween [.int p0, .int p1, .int p2] (S, μ, cx, cy) (iPI S μ cx cy) (fX10_isBetween p0 p1 p2) := mMet.of rfl (by decide) rfl (fun h => by cases h) (Nat.le_of_ble_eq_true rfl) (xbX10_isBetween p0 p1 p2)
/-! SlideMills.setWindow(I)I -/
def bX10_setWindow (S : mSh) (μ : mMm) (o : Nat) (p0 : Int32) : Option ((Int32 ⊕ Nat) × mMm) := (fX10_isBetween p0 (1 : Int32) (32 : Int32)).bind fun v1 => if v1 = 0 then (some (.inr 0, μ)) else ((gR S o 10 3).bind fun v2 => (gR S o 10 0).bind fun v3 => (fX1_push S μ v2 v3).bind fun m4 => (gR S o 10 0).bind fun v5 => (gR S v5 7 2).bind fun v6 => (gI S m4 v6 6 0).bind fun v7 => (gR S o 10 0).bind fun v8 => (gR S v8 7 2).bind fun v9 => (pI S m4 v9 6 0 p0).bind fun m10 => some (.inl v7, m10))
def fX10_setWindow (S : mSh) (μ : mMm) (o : Nat) (p0 : Int32) : Option ((Int32 ⊕ Nat) × mMm) := if mok S o 10 = true then bX10_setWindow S μ o p0 else none
abbrev MX10_setWindow : mM := ((yX10_setWindow, cX10_setWindow, 3, (some .int)), (6, 90), (false, false), RX10, eT)
theorem kX10_setWindow : mCalV MX10_setWindow RX10 1 := ⟨q274, q275, q2, q276, by decide +kernel⟩
set_option maxHeartbeats 4000000 in
theorem xbX10_setWindow {n0 c0 s0 cx cy : Nat} {S : mSh} {μ : mMm} (o : Nat) (p0 : Int32) : mX MX10_setWindow n0 c0 s0 0 [some (.ref o), some (.int p0), none] [] (S, μ, cx, cy) (iTI S cx cy) (bX10_setWindow S μ o p0) := by
  unfold bX10_setWindow
  refine x_iload_n (pc := 0) dX10_setWindow_0 (i := 1) rfl rfl ?_
  refine x_iconst (pc := 1) (v := 1) dX10_setWindow_1 (by decide) ?_
  refine x_bipush (pc := 2) (v := 32) dX10_setWindow_2 (by decide) ?_
  refine x_callSi (pc := 4) (As := [.int p0, .int (1 : Int32), .int (32 : Int32)]) (rest := []) (vx := fun a => a) (μf := fun _ => μ) (mX10_isBetween S μ cx cy p0 (1 : Int32) (32 : Int32)) (fun _ => rfl) rfl dX10_setWindow_4 q278 kX10_isBetween rfl ⟨by decide, by decide⟩ rfl (Nat.le_of_ble_eq_true rfl) (fun v1 => ?_)
  refine x_if_ne (pc := 7) (tgt := 20) dX10_setWindow_7 (by decide) ?_ ?_
  · exact x_throw rfl ⟨81, 130, 85, "places out of range", dX10_setWindow_10, dX10_setWindow_13, Or.inl ⟨dX10_setWindow_14, dX10_setWindow_16, dX10_setWindow_19⟩, rfl, q155, q156, Or.inl ⟨rfl, rfl⟩, by decide, by decide, by decide⟩ (Nat.le_of_ble_eq_true rfl)
  · refine x_aload_n (pc := 20) dX10_setWindow_20 (i := 0) rfl rfl ?_
    refine x_gR (pc := 21) (k := 3) fcX10 dX10_setWindow_21 q22 (by decide) rfl (fun v2 => ?_)
    refine x_aload_n (pc := 24) dX10_setWindow_24 (i := 0) rfl rfl ?_
    refine x_gR (pc := 25) (k := 0) fcX10 dX10_setWindow_25 q16 (by decide) rfl (fun v3 => ?_)
    refine x_callVv (pc := 28) (As := [.ref v3]) (rest := []) (μf := fun a => a) fcX1 (mX1_push S μ cx cy v2 v3) (fun _ => rfl) rfl (fun _ h => ifok h) dX10_setWindow_28 q163 kX1_push rfl ⟨by decide, by decide⟩ rfl (Nat.le_of_ble_eq_true rfl) (fun m4 => ?_)
    refine x_aload_n (pc := 31) dX10_setWindow_31 (i := 0) rfl rfl ?_
    refine x_gR (pc := 32) (k := 0) fcX10 dX10_setWindow_32 q16 (by decide) rfl (fun v5 => ?_)
    refine x_gR (pc := 35) (k := 2) fcX7 dX10_setWindow_35 q31 (by decide) rfl (fun v6 => ?_)
    refine x_gI (pc := 38) (k := 0) fcX6 dX10_setWindow_38 q277 (by decide) rfl (fun v7 => ?_)
    refine x_istore_n (pc := 41) dX10_setWindow_41 (i := 2) rfl (by decide) (l' := [some (.ref o), some (.int p0), some (.int v7)]) rfl ?_
    refine x_aload_n (pc := 42) dX10_setWindow_42 (i := 0) rfl rfl ?_
    refine x_gR (pc := 43) (k := 0) fcX10 dX10_setWindow_43 q16 (by decide) rfl (fun v8 => ?_)
    refine x_gR (pc := 46) (k := 2) fcX7 dX10_setWindow_46 q31 (by decide) rfl (fun v9 => ?_)
    refine x_iload_n (pc := 49) dX10_setWindow_49 (i := 1) rfl rfl ?_
    refine x_pI (pc := 50) (k := 0) fcX6 dX10_setWindow_50 q277 (by decide) rfl rfl rfl rfl (fun m10 => ?_)
    refine x_iload_n (pc := 53) dX10_setWindow_53 (i := 2) rfl rfl ?_
    exact x_iret rfl dX10_setWindow_54 rfl rfl
theorem mX10_setWindow (S : mSh) (μ : mMm) (cx cy : Nat) (o : Nat) (p0 : Int32) : mMet MX10_setWindow [.ref o, .int p0] (S, μ, cx, cy) (iTI S cx cy) (fX10_setWindow S μ o p0) := mMet.of rfl (by decide) rfl (fun h => by cases h) (Nat.le_of_ble_eq_true rfl) (mX.ck (fun _ => xbX10_setWindow o p0))
/-! SlideMills.setShortest(I)I -/
def bX10_setShortest (S : mSh) (μ : mMm) (o : Nat) (p0 : Int32) : Option ((Int32 ⊕ Nat) × mMm) := (fX10_isBetween p0 (2 : Int32) (4 : Int32)).bind fun v1 => if v1 = 0 then (some (.inr 0, μ)) else ((gR S o 10 3).bind fun v2 => (gR S o 10 0).bind fun v3 => (fX1_push S μ v2 v3).bind fun m4 => (gR S o 10 0).bind fun v5 => (gR S v5 7 2).bind fun v6 => (gI S m4 v6 6 1).bind fun v7 => (gR S o 10 0).bind fun v8 => (gR S v8 7 2).bind fun v9 => (pI S m4 v9 6 1 p0).bind fun m10 => some (.inl v7, m10))
def fX10_setShortest (S : mSh) (μ : mMm) (o : Nat) (p0 : Int32) : Option ((Int32 ⊕ Nat) × mMm) := if mok S o 10 = true then bX10_setShortest S μ o p0 else none
abbrev MX10_setShortest : mM := ((yX10_setShortest, cX10_setShortest, 3, (some .int)), (6, 90), (false, false), RX10, eT)
theorem kX10_setShortest : mCalV MX10_setShortest RX10 1 := ⟨q293, q294, q2, q295, by decide +kernel⟩
set_option maxHeartbeats 4000000 in
theorem xbX10_setShortest {n0 c0 s0 cx cy : Nat} {S : mSh} {μ : mMm} (o : Nat) (p0 : Int32) : mX MX10_setShortest n0 c0 s0 0 [some (.ref o), some (.int p0), none] [] (S, μ, cx, cy) (iTI S cx cy) (bX10_setShortest S μ o p0) := by
  unfold bX10_setShortest
  refine x_iload_n (pc := 0) dX10_setShortest_0 (i := 1) rfl rfl ?_
  refine x_iconst (pc := 1) (v := 2) dX10_setShortest_1 (by decide) ?_
  refine x_iconst (pc := 2) (v := 4) dX10_setShortest_2 (by decide) ?_
  refine x_callSi (pc := 3) (As := [.int p0, .int (2 : Int32), .int (4 : Int32)]) (rest := []) (vx := fun a => a) (μf := fun _ => μ) (mX10_isBetween S μ cx cy p0 (2 : Int32) (4 : Int32)) (fun _ => rfl) rfl dX10_setShortest_3 q278 kX10_isBetween rfl ⟨by decide, by decide⟩ rfl (Nat.le_of_ble_eq_true rfl) (fun v1 => ?_)
  refine x_if_ne (pc := 6) (tgt := 19) dX10_setShortest_6 (by decide) ?_ ?_
  · exact x_throw rfl ⟨81, 137, 85, "length out of range", dX10_setShortest_9, dX10_setShortest_12, Or.inl ⟨dX10_setShortest_13, dX10_setShortest_15, dX10_setShortest_18⟩, rfl, q155, q156, Or.inl ⟨rfl, rfl⟩, by decide, by decide, by decide⟩ (Nat.le_of_ble_eq_true rfl)
  · refine x_aload_n (pc := 19) dX10_setShortest_19 (i := 0) rfl rfl ?_
    refine x_gR (pc := 20) (k := 3) fcX10 dX10_setShortest_20 q22 (by decide) rfl (fun v2 => ?_)
    refine x_aload_n (pc := 23) dX10_setShortest_23 (i := 0) rfl rfl ?_
    refine x_gR (pc := 24) (k := 0) fcX10 dX10_setShortest_24 q16 (by decide) rfl (fun v3 => ?_)
    refine x_callVv (pc := 27) (As := [.ref v3]) (rest := []) (μf := fun a => a) fcX1 (mX1_push S μ cx cy v2 v3) (fun _ => rfl) rfl (fun _ h => ifok h) dX10_setShortest_27 q163 kX1_push rfl ⟨by decide, by decide⟩ rfl (Nat.le_of_ble_eq_true rfl) (fun m4 => ?_)
    refine x_aload_n (pc := 30) dX10_setShortest_30 (i := 0) rfl rfl ?_
    refine x_gR (pc := 31) (k := 0) fcX10 dX10_setShortest_31 q16 (by decide) rfl (fun v5 => ?_)
    refine x_gR (pc := 34) (k := 2) fcX7 dX10_setShortest_34 q31 (by decide) rfl (fun v6 => ?_)
    refine x_gI (pc := 37) (k := 1) fcX6 dX10_setShortest_37 q296 (by decide) rfl (fun v7 => ?_)
    refine x_istore_n (pc := 40) dX10_setShortest_40 (i := 2) rfl (by decide) (l' := [some (.ref o), some (.int p0), some (.int v7)]) rfl ?_
    refine x_aload_n (pc := 41) dX10_setShortest_41 (i := 0) rfl rfl ?_
    refine x_gR (pc := 42) (k := 0) fcX10 dX10_setShortest_42 q16 (by decide) rfl (fun v8 => ?_)
    refine x_gR (pc := 45) (k := 2) fcX7 dX10_setShortest_45 q31 (by decide) rfl (fun v9 => ?_)
    refine x_iload_n (pc := 48) dX10_setShortest_48 (i := 1) rfl rfl ?_
    refine x_pI (pc := 49) (k := 1) fcX6 dX10_setShortest_49 q296 (by decide) rfl rfl rfl rfl (fun m10 => ?_)
    refine x_iload_n (pc := 52) dX10_setShortest_52 (i := 2) rfl rfl ?_
    exact x_iret rfl dX10_setShortest_53 rfl rfl
theorem mX10_setShortest (S : mSh) (μ : mMm) (cx cy : Nat) (o : Nat) (p0 : Int32) : mMet MX10_setShortest [.ref o, .int p0] (S, μ, cx, cy) (iTI S cx cy) (fX10_setShortest S μ o p0) := mMet.of rfl (by decide) rfl (fun h => by cases h) (Nat.le_of_ble_eq_true rfl) (mX.ck (fun _ => xbX10_setShortest o p0))
/-! SlideMills.setLongest(I)I -/
def bX10_setLongest (S : mSh) (μ : mMm) (o : Nat) (p0 : Int32) : Option ((Int32 ⊕ Nat) × mMm) := (fX10_isBetween p0 (4 : Int32) (9 : Int32)).bind fun v1 => if v1 = 0 then (some (.inr 0, μ)) else ((gR S o 10 3).bind fun v2 => (gR S o 10 0).bind fun v3 => (fX1_push S μ v2 v3).bind fun m4 => (gR S o 10 0).bind fun v5 => (gR S v5 7 2).bind fun v6 => (gI S m4 v6 6 2).bind fun v7 => (gR S o 10 0).bind fun v8 => (gR S v8 7 2).bind fun v9 => (pI S m4 v9 6 2 p0).bind fun m10 => some (.inl v7, m10))
def fX10_setLongest (S : mSh) (μ : mMm) (o : Nat) (p0 : Int32) : Option ((Int32 ⊕ Nat) × mMm) := if mok S o 10 = true then bX10_setLongest S μ o p0 else none
abbrev MX10_setLongest : mM := ((yX10_setLongest, cX10_setLongest, 3, (some .int)), (6, 90), (false, false), RX10, eT)
theorem kX10_setLongest : mCalV MX10_setLongest RX10 1 := ⟨q305, q306, q2, q307, by decide +kernel⟩
set_option maxHeartbeats 4000000 in
theorem xbX10_setLongest {n0 c0 s0 cx cy : Nat} {S : mSh} {μ : mMm} (o : Nat) (p0 : Int32) : mX MX10_setLongest n0 c0 s0 0 [some (.ref o), some (.int p0), none] [] (S, μ, cx, cy) (iTI S cx cy) (bX10_setLongest S μ o p0) := by
  unfold bX10_setLongest
  refine x_iload_n (pc := 0) dX10_setLongest_0 (i := 1) rfl rfl ?_
  refine x_iconst (pc := 1) (v := 4) dX10_setLongest_1 (by decide) ?_
  refine x_bipush (pc := 2) (v := 9) dX10_setLongest_2 (by decide) ?_
  refine x_callSi (pc := 4) (As := [.int p0, .int (4 : Int32), .int (9 : Int32)]) (rest := []) (vx := fun a => a) (μf := fun _ => μ) (mX10_isBetween S μ cx cy p0 (4 : Int32) (9 : Int32)) (fun _ => rfl) rfl dX10_setLongest_4 q278 kX10_isBetween rfl ⟨by decide, by decide⟩ rfl (Nat.le_of_ble_eq_true rfl) (fun v1 => ?_)
  refine x_if_ne (pc := 7) (tgt := 20) dX10_setLongest_7 (by decide) ?_ ?_
  · exact x_throw rfl ⟨81, 137, 85, "length out of range", dX10_setLongest_10, dX10_setLongest_13, Or.inl ⟨dX10_setLongest_14, dX10_setLongest_16, dX10_setLongest_19⟩, rfl, q155, q156, Or.inl ⟨rfl, rfl⟩, by decide, by decide, by decide⟩ (Nat.le_of_ble_eq_true rfl)
  · refine x_aload_n (pc := 20) dX10_setLongest_20 (i := 0) rfl rfl ?_
    refine x_gR (pc := 21) (k := 3) fcX10 dX10_setLongest_21 q22 (by decide) rfl (fun v2 => ?_)
    refine x_aload_n (pc := 24) dX10_setLongest_24 (i := 0) rfl rfl ?_
    refine x_gR (pc := 25) (k := 0) fcX10 dX10_setLongest_25 q16 (by decide) rfl (fun v3 => ?_)
    refine x_callVv (pc := 28) (As := [.ref v3]) (rest := []) (μf := fun a => a) fcX1 (mX1_push S μ cx cy v2 v3) (fun _ => rfl) rfl (fun _ h => ifok h) dX10_setLongest_28 q163 kX1_push rfl ⟨by decide, by decide⟩ rfl (Nat.le_of_ble_eq_true rfl) (fun m4 => ?_)
    refine x_aload_n (pc := 31) dX10_setLongest_31 (i := 0) rfl rfl ?_
    refine x_gR (pc := 32) (k := 0) fcX10 dX10_setLongest_32 q16 (by decide) rfl (fun v5 => ?_)
    refine x_gR (pc := 35) (k := 2) fcX7 dX10_setLongest_35 q31 (by decide) rfl (fun v6 => ?_)
    refine x_gI (pc := 38) (k := 2) fcX6 dX10_setLongest_38 q308 (by decide) rfl (fun v7 => ?_)
    refine x_istore_n (pc := 41) dX10_setLongest_41 (i := 2) rfl (by decide) (l' := [some (.ref o), some (.int p0), some (.int v7)]) rfl ?_
    refine x_aload_n (pc := 42) dX10_setLongest_42 (i := 0) rfl rfl ?_
    refine x_gR (pc := 43) (k := 0) fcX10 dX10_setLongest_43 q16 (by decide) rfl (fun v8 => ?_)
    refine x_gR (pc := 46) (k := 2) fcX7 dX10_setLongest_46 q31 (by decide) rfl (fun v9 => ?_)
    refine x_iload_n (pc := 49) dX10_setLongest_49 (i := 1) rfl rfl ?_
    refine x_pI (pc := 50) (k := 2) fcX6 dX10_setLongest_50 q308 (by decide) rfl rfl rfl rfl (fun m10 => ?_)
    refine x_iload_n (pc := 53) dX10_setLongest_53 (i := 2) rfl rfl ?_
    exact x_iret rfl dX10_setLongest_54 rfl rfl
theorem mX10_setLongest (S : mSh) (μ : mMm) (cx cy : Nat) (o : Nat) (p0 : Int32) : mMet MX10_setLongest [.ref o, .int p0] (S, μ, cx, cy) (iTI S cx cy) (fX10_setLongest S μ o p0) := mMet.of rfl (by decide) rfl (fun h => by cases h) (Nat.le_of_ble_eq_true rfl) (mX.ck (fun _ => xbX10_setLongest o p0))
/-! SlideMills.setLetterPrice(I)I -/
def bX10_setLetterPrice (S : mSh) (μ : mMm) (o : Nat) (p0 : Int32) : Option ((Int32 ⊕ Nat) × mMm) := (fX10_isBetween p0 (1 : Int32) (9 : Int32)).bind fun v1 => if v1 = 0 then (some (.inr 0, μ)) else ((gR S o 10 3).bind fun v2 => (gR S o 10 0).bind fun v3 => (fX1_push S μ v2 v3).bind fun m4 => (gR S o 10 0).bind fun v5 => (gR S v5 7 2).bind fun v6 => (gI S m4 v6 6 3).bind fun v7 => (gR S o 10 0).bind fun v8 => (gR S v8 7 2).bind fun v9 => (pI S m4 v9 6 3 p0).bind fun m10 => some (.inl v7, m10))
def fX10_setLetterPrice (S : mSh) (μ : mMm) (o : Nat) (p0 : Int32) : Option ((Int32 ⊕ Nat) × mMm) := if mok S o 10 = true then bX10_setLetterPrice S μ o p0 else none
abbrev MX10_setLetterPrice : mM := ((yX10_setLetterPrice, cX10_setLetterPrice, 3, (some .int)), (6, 90), (false, false), RX10, eT)
theorem kX10_setLetterPrice : mCalV MX10_setLetterPrice RX10 1 := ⟨q317, q318, q2, q319, by decide +kernel⟩
set_option maxHeartbeats 4000000 in
theorem xbX10_setLetterPrice {n0 c0 s0 cx cy : Nat} {S : mSh} {μ : mMm} (o : Nat) (p0 : Int32) : mX MX10_setLetterPrice n0 c0 s0 0 [some (.ref o), some (.int p0), none] [] (S, μ, cx, cy) (iTI S cx cy) (bX10_setLetterPrice S μ o p0) := by
  unfold bX10_setLetterPrice
  refine x_iload_n (pc := 0) dX10_setLetterPrice_0 (i := 1) rfl rfl ?_
  refine x_iconst (pc := 1) (v := 1) dX10_setLetterPrice_1 (by decide) ?_
  refine x_bipush (pc := 2) (v := 9) dX10_setLetterPrice_2 (by decide) ?_
  refine x_callSi (pc := 4) (As := [.int p0, .int (1 : Int32), .int (9 : Int32)]) (rest := []) (vx := fun a => a) (μf := fun _ => μ) (mX10_isBetween S μ cx cy p0 (1 : Int32) (9 : Int32)) (fun _ => rfl) rfl dX10_setLetterPrice_4 q278 kX10_isBetween rfl ⟨by decide, by decide⟩ rfl (Nat.le_of_ble_eq_true rfl) (fun v1 => ?_)
  refine x_if_ne (pc := 7) (tgt := 20) dX10_setLetterPrice_7 (by decide) ?_ ?_
  · exact x_throw rfl ⟨81, 145, 85, "price out of range", dX10_setLetterPrice_10, dX10_setLetterPrice_13, Or.inl ⟨dX10_setLetterPrice_14, dX10_setLetterPrice_16, dX10_setLetterPrice_19⟩, rfl, q155, q156, Or.inl ⟨rfl, rfl⟩, by decide, by decide, by decide⟩ (Nat.le_of_ble_eq_true rfl)
  · refine x_aload_n (pc := 20) dX10_setLetterPrice_20 (i := 0) rfl rfl ?_
    refine x_gR (pc := 21) (k := 3) fcX10 dX10_setLetterPrice_21 q22 (by decide) rfl (fun v2 => ?_)
    refine x_aload_n (pc := 24) dX10_setLetterPrice_24 (i := 0) rfl rfl ?_
    refine x_gR (pc := 25) (k := 0) fcX10 dX10_setLetterPrice_25 q16 (by decide) rfl (fun v3 => ?_)
    refine x_callVv (pc := 28) (As := [.ref v3]) (rest := []) (μf := fun a => a) fcX1 (mX1_push S μ cx cy v2 v3) (fun _ => rfl) rfl (fun _ h => ifok h) dX10_setLetterPrice_28 q163 kX1_push rfl ⟨by decide, by decide⟩ rfl (Nat.le_of_ble_eq_true rfl) (fun m4 => ?_)
    refine x_aload_n (pc := 31) dX10_setLetterPrice_31 (i := 0) rfl rfl ?_
    refine x_gR (pc := 32) (k := 0) fcX10 dX10_setLetterPrice_32 q16 (by decide) rfl (fun v5 => ?_)
    refine x_gR (pc := 35) (k := 2) fcX7 dX10_setLetterPrice_35 q31 (by decide) rfl (fun v6 => ?_)
    refine x_gI (pc := 38) (k := 3) fcX6 dX10_setLetterPrice_38 q320 (by decide) rfl (fun v7 => ?_)
    refine x_istore_n (pc := 41) dX10_setLetterPrice_41 (i := 2) rfl (by decide) (l' := [some (.ref o), some (.int p0), some (.int v7)]) rfl ?_
    refine x_aload_n (pc := 42) dX10_setLetterPrice_42 (i := 0) rfl rfl ?_
    refine x_gR (pc := 43) (k := 0) fcX10 dX10_setLetterPrice_43 q16 (by decide) rfl (fun v8 => ?_)
    refine x_gR (pc := 46) (k := 2) fcX7 dX10_setLetterPrice_46 q31 (by decide) rfl (fun v9 => ?_)
    refine x_iload_n (pc := 49) dX10_setLetterPrice_49 (i := 1) rfl rfl ?_
    refine x_pI (pc := 50) (k := 3) fcX6 dX10_setLetterPrice_50 q320 (by decide) rfl rfl rfl rfl (fun m10 => ?_)
    refine x_iload_n (pc := 53) dX10_setLetterPrice_53 (i := 2) rfl rfl ?_
    exact x_iret rfl dX10_setLetterPrice_54 rfl rfl
theorem mX10_setLetterPrice (S : mSh) (μ : mMm) (cx cy : Nat) (o : Nat) (p0 : Int32) : mMet MX10_setLetterPrice [.ref o, .int p0] (S, μ, cx, cy) (iTI S cx cy) (fX10_setLetterPrice S μ o p0) := mMet.of rfl (by decide) rfl (fun h => by cases h) (Nat.le_of_ble_eq_true rfl) (mX.ck (fun _ => xbX10_setLetterPrice o p0))
/-! SlideMills.setRepeatPrice(I)I -/
def bX10_setRepeatPrice (S : mSh) (μ : mMm) (o : Nat) (p0 : Int32) : Option ((Int32 ⊕ Nat) × mMm) := (fX10_isBetween p0 (1 : Int32) (20 : Int32)).bind fun v1 => if v1 = 0 then (some (.inr 0, μ)) else ((gR S o 10 3).bind fun v2 => (gR S o 10 0).bind fun v3 => (fX1_push S μ v2 v3).bind fun m4 => (gR S o 10 0).bind fun v5 => (gR S v5 7 2).bind fun v6 => (gI S m4 v6 6 4).bind fun v7 => (gR S o 10 0).bind fun v8 => (gR S v8 7 2).bind fun v9 => (pI S m4 v9 6 4 p0).bind fun m10 => some (.inl v7, m10))
def fX10_setRepeatPrice (S : mSh) (μ : mMm) (o : Nat) (p0 : Int32) : Option ((Int32 ⊕ Nat) × mMm) := if mok S o 10 = true then bX10_setRepeatPrice S μ o p0 else none
abbrev MX10_setRepeatPrice : mM := ((yX10_setRepeatPrice, cX10_setRepeatPrice, 3, (some .int)), (6, 90), (false, false), RX10, eT)
theorem kX10_setRepeatPrice : mCalV MX10_setRepeatPrice RX10 1 := ⟨q329, q330, q2, q331, by decide +kernel⟩
set_option maxHeartbeats 4000000 in
theorem xbX10_setRepeatPrice {n0 c0 s0 cx cy : Nat} {S : mSh} {μ : mMm} (o : Nat) (p0 : Int32) : mX MX10_setRepeatPrice n0 c0 s0 0 [some (.ref o), some (.int p0), none] [] (S, μ, cx, cy) (iTI S cx cy) (bX10_setRepeatPrice S μ o p0) := by
  unfold bX10_setRepeatPrice
  refine x_iload_n (pc := 0) dX10_setRepeatPrice_0 (i := 1) rfl rfl ?_
  refine x_iconst (pc := 1) (v := 1) dX10_setRepeatPrice_1 (by decide) ?_
  refine x_bipush (pc := 2) (v := 20) dX10_setRepeatPrice_2 (by decide) ?_
  refine x_callSi (pc := 4) (As := [.int p0, .int (1 : Int32), .int (20 : Int32)]) (rest := []) (vx := fun a => a) (μf := fun _ => μ) (mX10_isBetween S μ cx cy p0 (1 : Int32) (20 : Int32)) (fun _ => rfl) rfl dX10_setRepeatPrice_4 q278 kX10_isBetween rfl ⟨by decide, by decide⟩ rfl (Nat.le_of_ble_eq_true rfl) (fun v1 => ?_)
  refine x_if_ne (pc := 7) (tgt := 20) dX10_setRepeatPrice_7 (by decide) ?_ ?_
  · exact x_throw rfl ⟨81, 145, 85, "price out of range", dX10_setRepeatPrice_10, dX10_setRepeatPrice_13, Or.inl ⟨dX10_setRepeatPrice_14, dX10_setRepeatPrice_16, dX10_setRepeatPrice_19⟩, rfl, q155, q156, Or.inl ⟨rfl, rfl⟩, by decide, by decide, by decide⟩ (Nat.le_of_ble_eq_true rfl)
  · refine x_aload_n (pc := 20) dX10_setRepeatPrice_20 (i := 0) rfl rfl ?_
    refine x_gR (pc := 21) (k := 3) fcX10 dX10_setRepeatPrice_21 q22 (by decide) rfl (fun v2 => ?_)
    refine x_aload_n (pc := 24) dX10_setRepeatPrice_24 (i := 0) rfl rfl ?_
    refine x_gR (pc := 25) (k := 0) fcX10 dX10_setRepeatPrice_25 q16 (by decide) rfl (fun v3 => ?_)
    refine x_callVv (pc := 28) (As := [.ref v3]) (rest := []) (μf := fun a => a) fcX1 (mX1_push S μ cx cy v2 v3) (fun _ => rfl) rfl (fun _ h => ifok h) dX10_setRepeatPrice_28 q163 kX1_push rfl ⟨by decide, by decide⟩ rfl (Nat.le_of_ble_eq_true rfl) (fun m4 => ?_)
    refine x_aload_n (pc := 31) dX10_setRepeatPrice_31 (i := 0) rfl rfl ?_
    refine x_gR (pc := 32) (k := 0) fcX10 dX10_setRepeatPrice_32 q16 (by decide) rfl (fun v5 => ?_)
    refine x_gR (pc := 35) (k := 2) fcX7 dX10_setRepeatPrice_35 q31 (by decide) rfl (fun v6 => ?_)
    refine x_gI (pc := 38) (k := 4) fcX6 dX10_setRepeatPrice_38 q332 (by decide) rfl (fun v7 => ?_)
    refine x_istore_n (pc := 41) dX10_setRepeatPrice_41 (i := 2) rfl (by decide) (l' := [some (.ref o), some (.int p0), some (.int v7)]) rfl ?_
    refine x_aload_n (pc := 42) dX10_setRepeatPrice_42 (i := 0) rfl rfl ?_
    refine x_gR (pc := 43) (k := 0) fcX10 dX10_setRepeatPrice_43 q16 (by decide) rfl (fun v8 => ?_)
    refine x_gR (pc := 46) (k := 2) fcX7 dX10_setRepeatPrice_46 q31 (by decide) rfl (fun v9 => ?_)
    refine x_iload_n (pc := 49) dX10_setRepeatPrice_49 (i := 1) rfl rfl ?_
    refine x_pI (pc := 50) (k := 4) fcX6 dX10_setRepeatPrice_50 q332 (by decide) rfl rfl rfl rfl (fun m10 => ?_)
    refine x_iload_n (pc := 53) dX10_setRepeatPrice_53 (i := 2) rfl rfl ?_
    exact x_iret rfl dX10_setRepeatPrice_54 rfl rfl
theorem mX10_setRepeatPrice (S : mSh) (μ : mMm) (cx cy : Nat) (o : Nat) (p0 : Int32) : mMet MX10_setRepeatPrice [.ref o, .int p0] (S, μ, cx, cy) (iTI S cx cy) (fX10_setRepeatPrice S μ o p0) := mMet.of rfl (by decide) rfl (fun h => by cases h) (Nat.le_of_ble_eq_true rfl) (mX.ck (fun _ => xbX10_setRepeatPrice o p0))
/-! SlideMills.isWay(I)Z -/
def fX10_isWay (p0 : Int32) : Option (Int32) := if p0 < 0 then (some (0 : Int32)) else (if (2 : Int32) < p0 then (some (0 : Int32)) else (some (1 : Int32)))
abbrev MX10_isWay : mM := ((yX10_isWay, cX10_isWay, 1, (some .boolean)), (0, 0), (false, false), RX10, eT)
theorem kX10_isWay : mCalS MX10_isWay 1 := ⟨q347, q2, q348, by decide +kernel⟩
set_option maxHeartbeats 4000000 in
theorem xbX10_isWay {n0 c0 s0 cx cy : Nat} {S : mSh} {μ : mMm} (p0 : Int32) : mX MX10_isWay n0 c0 s0 0 [some (.int p0)] [] (S, μ, cx, cy) (iPI S μ cx cy) (fX10_isWay p0) := by
  unfold fX10_isWay
  refine x_iload_n (pc := 0) dX10_isWay_0 (i := 0) rfl rfl ?_
  refine x_if_lt (pc := 1) (tgt := 13) dX10_isWay_1 (by decide) ?_ ?_
  · refine x_iconst (pc := 13) (v := 0) dX10_isWay_13 (by decide) ?_
    exact x_iret rfl dX10_isWay_14 rfl rfl
  · refine x_iload_n (pc := 4) dX10_isWay_4 (i := 0) rfl rfl ?_
    refine x_iconst (pc := 5) (v := 2) dX10_isWay_5 (by decide) ?_
    refine x_icmp_gt (pc := 6) (tgt := 13) dX10_isWay_6 (by decide) ?_ ?_
    · refine x_iconst (pc := 13) (v := 0) dX10_isWay_13 (by decide) ?_
      exact x_iret rfl dX10_isWay_14 rfl rfl
    · refine x_iconst (pc := 9) (v := 1) dX10_isWay_9 (by decide) ?_
      refine x_goto (pc := 10) (tgt := 14) dX10_isWay_10 (by decide) ?_
      exact x_iret rfl dX10_isWay_14 rfl rfl
theorem mX10_isWay (S : mSh) (μ : mMm) (cx cy : Nat) (p0 : Int32) : mMet MX10_isWay [.int p0] (S, μ, cx, cy) (iPI S μ cx cy) (fX10_isWay p0) := mMet.of rfl (by decide) rfl (fun h => by cases h) (Nat.le_of_ble_eq_true rfl) (xbX10_isWay p0)
/-! SlideMills.pack(I)I -/
def bX10_pack (S : mSh) (μ : mMm) (o : Nat) (p0 : Int32) : Option ((Int32 ⊕ Nat) × mMm) := (fX10_isWay p0).bind fun v1 => if v1 = 0 then (some (.inr 0, μ)) else ((gR S o 10 3).bind fun v2 => (gR S o 10 0).bind fun v3 => (fX1_push S μ v2 v3).bind fun m4 => (gR S o 10 6).bind fun v5 => (gR S o 10 0).bind fun v6 => (gR S v6 7 1).bind fun v7 => (fX4_packBy S m4 v5 p0 v7).bind fun m8 => (gR S o 10 0).bind fun v9 => (gR S v9 7 1).bind fun v10 => (gI S m8 v10 5 2).bind fun v11 => some (.inl v11, m8))
def fX10_pack (S : mSh) (μ : mMm) (o : Nat) (p0 : Int32) : Option ((Int32 ⊕ Nat) × mMm) := if mok S o 10 = true then bX10_pack S μ o p0 else none
abbrev MX10_pack : mM := ((yX10_pack, cX10_pack, 2, (some .int)), (6, 141), (false, false), RX10, eT)
theorem kX10_pack : mCalV MX10_pack RX10 1 := ⟨q341, q342, q2, q343, by decide +kernel⟩
set_option maxHeartbeats 4000000 in
theorem xbX10_pack {n0 c0 s0 cx cy : Nat} {S : mSh} {μ : mMm} (o : Nat) (p0 : Int32) : mX MX10_pack n0 c0 s0 0 [some (.ref o), some (.int p0)] [] (S, μ, cx, cy) (iTI S cx cy) (bX10_pack S μ o p0) := by
  unfold bX10_pack
  refine x_iload_n (pc := 0) dX10_pack_0 (i := 1) rfl rfl ?_
  refine x_callSi (pc := 1) (As := [.int p0]) (rest := []) (vx := fun a => a) (μf := fun _ => μ) (mX10_isWay S μ cx cy p0) (fun _ => rfl) rfl dX10_pack_1 q346 kX10_isWay rfl ⟨by decide, by decide⟩ rfl (Nat.le_of_ble_eq_true rfl) (fun v1 => ?_)
  refine x_if_ne (pc := 4) (tgt := 17) dX10_pack_4 (by decide) ?_ ?_
  · exact x_throw rfl ⟨81, 156, 85, "way out of range", dX10_pack_7, dX10_pack_10, Or.inl ⟨dX10_pack_11, dX10_pack_13, dX10_pack_16⟩, rfl, q155, q156, Or.inl ⟨rfl, rfl⟩, by decide, by decide, by decide⟩ (Nat.le_of_ble_eq_true rfl)
  · refine x_aload_n (pc := 17) dX10_pack_17 (i := 0) rfl rfl ?_
    refine x_gR (pc := 18) (k := 3) fcX10 dX10_pack_18 q22 (by decide) rfl (fun v2 => ?_)
    refine x_aload_n (pc := 21) dX10_pack_21 (i := 0) rfl rfl ?_
    refine x_gR (pc := 22) (k := 0) fcX10 dX10_pack_22 q16 (by decide) rfl (fun v3 => ?_)
    refine x_callVv (pc := 25) (As := [.ref v3]) (rest := []) (μf := fun a => a) fcX1 (mX1_push S μ cx cy v2 v3) (fun _ => rfl) rfl (fun _ h => ifok h) dX10_pack_25 q163 kX1_push rfl ⟨by decide, by decide⟩ rfl (Nat.le_of_ble_eq_true rfl) (fun m4 => ?_)
    refine x_aload_n (pc := 28) dX10_pack_28 (i := 0) rfl rfl ?_
    refine x_gR (pc := 29) (k := 6) fcX10 dX10_pack_29 q36 (by decide) rfl (fun v5 => ?_)
    refine x_iload_n (pc := 32) dX10_pack_32 (i := 1) rfl rfl ?_
    refine x_aload_n (pc := 33) dX10_pack_33 (i := 0) rfl rfl ?_
    refine x_gR (pc := 34) (k := 0) fcX10 dX10_pack_34 q16 (by decide) rfl (fun v6 => ?_)
    refine x_gR (pc := 37) (k := 1) fcX7 dX10_pack_37 q344 (by decide) rfl (fun v7 => ?_)
    refine x_callVv (pc := 40) (As := [.int p0, .ref v7]) (rest := []) (μf := fun a => a) fcX4 (mX4_packBy S m4 cx cy v5 p0 v7) (fun _ => rfl) rfl (fun _ h => ifok h) dX10_pack_40 q349 kX4_packBy rfl ⟨by decide, by decide⟩ rfl (Nat.le_of_ble_eq_true rfl) (fun m8 => ?_)
    refine x_aload_n (pc := 43) dX10_pack_43 (i := 0) rfl rfl ?_
    refine x_gR (pc := 44) (k := 0) fcX10 dX10_pack_44 q16 (by decide) rfl (fun v9 => ?_)
    refine x_gR (pc := 47) (k := 1) fcX7 dX10_pack_47 q344 (by decide) rfl (fun v10 => ?_)
    refine x_gI (pc := 50) (k := 2) fcX5 dX10_pack_50 q345 (by decide) rfl (fun v11 => ?_)
    exact x_iret rfl dX10_pack_53 rfl rfl
theorem mX10_pack (S : mSh) (μ : mMm) (cx cy : Nat) (o : Nat) (p0 : Int32) : mMet MX10_pack [.ref o, .int p0] (S, μ, cx, cy) (iTI S cx cy) (fX10_pack S μ o p0) := mMet.of rfl (by decide) rfl (fun h => by cases h) (Nat.le_of_ble_eq_true rfl) (mX.ck (fun _ => xbX10_pack o p0))
/-! SlideMills.unpack()I -/
def bX10_unpack (S : mSh) (μ : mMm) (o : Nat) : Option ((Int32 ⊕ Nat) × mMm) := (gR S o 10 8).bind fun v1 => (gR S o 10 0).bind fun v2 => (gR S v2 7 1).bind fun v3 => (fX8_run S μ v1 v3).bind fun m4 => (gR S o 10 8).bind fun v5 => (gI S m4 v5 8 2).bind fun v6 => if v6 = 0 then ((gR S o 10 3).bind fun v7 => (gR S o 10 0).bind fun v8 => (fX1_push S m4 v7 v8).bind fun m9 => (gR S o 10 0).bind fun v10 => (gR S v10 7 0).bind fun v11 => (gR S o 10 8).bind fun v12 => (gR S v12 8 0).bind fun v13 => (fX2_copyFrom S m9 v11 v13).bind fun m14 => (gR S o 10 0).bind fun v15 => (gR S v15 7 0).bind fun v16 => (gI S m14 v16 2 1).bind fun v17 => some (.inl v17, m14)) else (some (.inr 1, m4))
def fX10_unpack (S : mSh) (μ : mMm) (o : Nat) : Option ((Int32 ⊕ Nat) × mMm) := if mok S o 10 = true then bX10_unpack S μ o else none
abbrev MX10_unpack : mM := ((yX10_unpack, cX10_unpack, 1, (some .int)), (6, 90), (false, false), RX10, eT)
theorem kX10_unpack : mCalV MX10_unpack RX10 0 := ⟨q456, q457, q2, q458, by decide +kernel⟩
set_option maxHeartbeats 4000000 in
theorem xbX10_unpack {n0 c0 s0 cx cy : Nat} {S : mSh} {μ : mMm} (o : Nat) : mX MX10_unpack n0 c0 s0 0 [some (.ref o)] [] (S, μ, cx, cy) (iTI S cx cy) (bX10_unpack S μ o) := by
  unfold bX10_unpack
  refine x_aload_n (pc := 0) dX10_unpack_0 (i := 0) rfl rfl ?_
  refine x_gR (pc := 1) (k := 8) fcX10 dX10_unpack_1 q44 (by decide) rfl (fun v1 => ?_)
  refine x_aload_n (pc := 4) dX10_unpack_4 (i := 0) rfl rfl ?_
  refine x_gR (pc := 5) (k := 0) fcX10 dX10_unpack_5 q16 (by decide) rfl (fun v2 => ?_)
  refine x_gR (pc := 8) (k := 1) fcX7 dX10_unpack_8 q344 (by decide) rfl (fun v3 => ?_)
  refine x_callVv (pc := 11) (As := [.ref v3]) (rest := []) (μf := fun a => a) fcX8 (mX8_run S μ cx cy v1 v3) (fun _ => rfl) rfl (fun _ h => ifok h) dX10_unpack_11 q461 kX8_run rfl ⟨by decide, by decide⟩ rfl (Nat.le_of_ble_eq_true rfl) (fun m4 => ?_)
  refine x_aload_n (pc := 14) dX10_unpack_14 (i := 0) rfl rfl ?_
  refine x_gR (pc := 15) (k := 8) fcX10 dX10_unpack_15 q44 (by decide) rfl (fun v5 => ?_)
  refine x_gI (pc := 18) (k := 2) fcX8 dX10_unpack_18 q459 (by decide) rfl (fun v6 => ?_)
  refine x_if_eq (pc := 21) (tgt := 34) dX10_unpack_21 (by decide) ?_ ?_
  · refine x_aload_n (pc := 34) dX10_unpack_34 (i := 0) rfl rfl ?_
    refine x_gR (pc := 35) (k := 3) fcX10 dX10_unpack_35 q22 (by decide) rfl (fun v7 => ?_)
    refine x_aload_n (pc := 38) dX10_unpack_38 (i := 0) rfl rfl ?_
    refine x_gR (pc := 39) (k := 0) fcX10 dX10_unpack_39 q16 (by decide) rfl (fun v8 => ?_)
    refine x_callVv (pc := 42) (As := [.ref v8]) (rest := []) (μf := fun a => a) fcX1 (mX1_push S m4 cx cy v7 v8) (fun _ => rfl) rfl (fun _ h => ifok h) dX10_unpack_42 q163 kX1_push rfl ⟨by decide, by decide⟩ rfl (Nat.le_of_ble_eq_true rfl) (fun m9 => ?_)
    refine x_aload_n (pc := 45) dX10_unpack_45 (i := 0) rfl rfl ?_
    refine x_gR (pc := 46) (k := 0) fcX10 dX10_unpack_46 q16 (by decide) rfl (fun v10 => ?_)
    refine x_gR (pc := 49) (k := 0) fcX7 dX10_unpack_49 q30 (by decide) rfl (fun v11 => ?_)
    refine x_aload_n (pc := 52) dX10_unpack_52 (i := 0) rfl rfl ?_
    refine x_gR (pc := 53) (k := 8) fcX10 dX10_unpack_53 q44 (by decide) rfl (fun v12 => ?_)
    refine x_gR (pc := 56) (k := 0) fcX8 dX10_unpack_56 q460 (by decide) rfl (fun v13 => ?_)
    refine x_callVv (pc := 59) (As := [.ref v13]) (rest := []) (μf := fun a => a) fcX2 (mX2_copyFrom S m9 cx cy v11 v13) (fun _ => rfl) rfl (fun _ h => ifok h) dX10_unpack_59 q484 kX2_copyFrom rfl ⟨by decide, by decide⟩ rfl (Nat.le_of_ble_eq_true rfl) (fun m14 => ?_)
    refine x_aload_n (pc := 62) dX10_unpack_62 (i := 0) rfl rfl ?_
    refine x_gR (pc := 63) (k := 0) fcX10 dX10_unpack_63 q16 (by decide) rfl (fun v15 => ?_)
    refine x_gR (pc := 66) (k := 0) fcX7 dX10_unpack_66 q30 (by decide) rfl (fun v16 => ?_)
    refine x_gI (pc := 69) (k := 1) fcX2 dX10_unpack_69 q159 (by decide) rfl (fun v17 => ?_)
    exact x_iret rfl dX10_unpack_72 rfl rfl
  · exact x_throw rfl ⟨94, 173, 98, "a token is wrong", dX10_unpack_24, dX10_unpack_27, Or.inl ⟨dX10_unpack_28, dX10_unpack_30, dX10_unpack_33⟩, rfl, q157, q158, Or.inr (Or.inl ⟨rfl, rfl⟩), by decide, by decide, by decide⟩ (Nat.le_of_ble_eq_true rfl)
theorem mX10_unpack (S : mSh) (μ : mMm) (cx cy : Nat) (o : Nat) : mMet MX10_unpack [.ref o] (S, μ, cx, cy) (iTI S cx cy) (fX10_unpack S μ o) := mMet.of rfl (by decide) rfl (fun h => by cases h) (Nat.le_of_ble_eq_true rfl) (mX.ck (fun _ => xbX10_unpack o))
/-! SlideMills.addToken(I)I -/
def bX10_addToken (S : mSh) (μ : mMm) (o : Nat) (p0 : Int32) : Option ((Int32 ⊕ Nat) × mMm) := (fX10_isLetter p0).bind fun v1 => if v1 = 0 then (some (.inr 0, μ)) else ((gR S o 10 0).bind fun v2 => (gR S v2 7 1).bind fun v3 => (fX5_isFull S μ v3).bind fun v4 => if v4 = 0 then ((gR S o 10 3).bind fun v5 => (gR S o 10 0).bind fun v6 => (fX1_push S μ v5 v6).bind fun m7 => (gR S o 10 0).bind fun v8 => (gR S v8 7 1).bind fun v9 => (fX5_put S m7 v9 (0 : Int32) p0).bind fun m10 => (gR S o 10 0).bind fun v11 => (gR S v11 7 1).bind fun v12 => (gI S m10 v12 5 2).bind fun v13 => some (.inl v13, m10)) else (some (.inr 1, μ)))
def fX10_addToken (S : mSh) (μ : mMm) (o : Nat) (p0 : Int32) : Option ((Int32 ⊕ Nat) × mMm) := if mok S o 10 = true then bX10_addToken S μ o p0 else none
abbrev MX10_addToken : mM := ((yX10_addToken, cX10_addToken, 2, (some .int)), (6, 90), (false, false), RX10, eT)
theorem kX10_addToken : mCalV MX10_addToken RX10 1 := ⟨q512, q513, q2, q514, by decide +kernel⟩
set_option maxHeartbeats 4000000 in
theorem xbX10_addToken {n0 c0 s0 cx cy : Nat} {S : mSh} {μ : mMm} (o : Nat) (p0 : Int32) : mX MX10_addToken n0 c0 s0 0 [some (.ref o), some (.int p0)] [] (S, μ, cx, cy) (iTI S cx cy) (bX10_addToken S μ o p0) := by
  unfold bX10_addToken
  refine x_iload_n (pc := 0) dX10_addToken_0 (i := 1) rfl rfl ?_
  refine x_callSi (pc := 1) (As := [.int p0]) (rest := []) (vx := fun a => a) (μf := fun _ => μ) (mX10_isLetter S μ cx cy p0) (fun _ => rfl) rfl dX10_addToken_1 q160 kX10_isLetter rfl ⟨by decide, by decide⟩ rfl (Nat.le_of_ble_eq_true rfl) (fun v1 => ?_)
  refine x_if_ne (pc := 4) (tgt := 17) dX10_addToken_4 (by decide) ?_ ?_
  · exact x_throw rfl ⟨81, 83, 85, "letter out of range", dX10_addToken_7, dX10_addToken_10, Or.inl ⟨dX10_addToken_11, dX10_addToken_13, dX10_addToken_16⟩, rfl, q155, q156, Or.inl ⟨rfl, rfl⟩, by decide, by decide, by decide⟩ (Nat.le_of_ble_eq_true rfl)
  · refine x_aload_n (pc := 17) dX10_addToken_17 (i := 0) rfl rfl ?_
    refine x_gR (pc := 18) (k := 0) fcX10 dX10_addToken_18 q16 (by decide) rfl (fun v2 => ?_)
    refine x_gR (pc := 21) (k := 1) fcX7 dX10_addToken_21 q344 (by decide) rfl (fun v3 => ?_)
    refine x_callVi (pc := 24) (As := []) (rest := []) (vx := fun a => a) (μf := fun _ => μ) fcX5 (mX5_isFull S μ cx cy v3) (fun _ => rfl) rfl (fun _ h => ifok h) dX10_addToken_24 q515 kX5_isFull rfl ⟨by decide, by decide⟩ rfl (Nat.le_of_ble_eq_true rfl) (fun v4 => ?_)
    refine x_if_eq (pc := 27) (tgt := 40) dX10_addToken_27 (by decide) ?_ ?_
    · refine x_aload_n (pc := 40) dX10_addToken_40 (i := 0) rfl rfl ?_
      refine x_gR (pc := 41) (k := 3) fcX10 dX10_addToken_41 q22 (by decide) rfl (fun v5 => ?_)
      refine x_aload_n (pc := 44) dX10_addToken_44 (i := 0) rfl rfl ?_
      refine x_gR (pc := 45) (k := 0) fcX10 dX10_addToken_45 q16 (by decide) rfl (fun v6 => ?_)
      refine x_callVv (pc := 48) (As := [.ref v6]) (rest := []) (μf := fun a => a) fcX1 (mX1_push S μ cx cy v5 v6) (fun _ => rfl) rfl (fun _ h => ifok h) dX10_addToken_48 q163 kX1_push rfl ⟨by decide, by decide⟩ rfl (Nat.le_of_ble_eq_true rfl) (fun m7 => ?_)
      refine x_aload_n (pc := 51) dX10_addToken_51 (i := 0) rfl rfl ?_
      refine x_gR (pc := 52) (k := 0) fcX10 dX10_addToken_52 q16 (by decide) rfl (fun v8 => ?_)
      refine x_gR (pc := 55) (k := 1) fcX7 dX10_addToken_55 q344 (by decide) rfl (fun v9 => ?_)
      refine x_iconst (pc := 58) (v := 0) dX10_addToken_58 (by decide) ?_
      refine x_iload_n (pc := 59) dX10_addToken_59 (i := 1) rfl rfl ?_
      refine x_callVv (pc := 60) (As := [.int (0 : Int32), .int p0]) (rest := []) (μf := fun a => a) fcX5 (mX5_put S m7 cx cy v9 (0 : Int32) p0) (fun _ => rfl) rfl (fun _ h => ifok h) dX10_addToken_60 q519 kX5_put rfl ⟨by decide, by decide⟩ rfl (Nat.le_of_ble_eq_true rfl) (fun m10 => ?_)
      refine x_aload_n (pc := 63) dX10_addToken_63 (i := 0) rfl rfl ?_
      refine x_gR (pc := 64) (k := 0) fcX10 dX10_addToken_64 q16 (by decide) rfl (fun v11 => ?_)
      refine x_gR (pc := 67) (k := 1) fcX7 dX10_addToken_67 q344 (by decide) rfl (fun v12 => ?_)
      refine x_gI (pc := 70) (k := 2) fcX5 dX10_addToken_70 q345 (by decide) rfl (fun v13 => ?_)
      exact x_iret rfl dX10_addToken_73 rfl rfl
    · exact x_throw rfl ⟨94, 186, 98, "the sack is full", dX10_addToken_30, dX10_addToken_33, Or.inl ⟨dX10_addToken_34, dX10_addToken_36, dX10_addToken_39⟩, rfl, q157, q158, Or.inr (Or.inl ⟨rfl, rfl⟩), by decide, by decide, by decide⟩ (Nat.le_of_ble_eq_true rfl)
theorem mX10_addToken (S : mSh) (μ : mMm) (cx cy : Nat) (o : Nat) (p0 : Int32) : mMet MX10_addToken [.ref o, .int p0] (S, μ, cx, cy) (iTI S cx cy) (fX10_addToken S μ o p0) := mMet.of rfl (by decide) rfl (fun h => by cases h) (Nat.le_of_ble_eq_true rfl) (mX.ck (fun _ => xbX10_addToken o p0))
/-! SlideMills.addRepeat(II)I -/
def lX10_addRepeat_20 (S : mSh) (μ : mMm) : Option ((Int32 ⊕ Nat) × mMm) := some (.inr 0, μ)
def bX10_addRepeat (S : mSh) (μ : mMm) (o : Nat) (p0 : Int32) (p1 : Int32) : Option ((Int32 ⊕ Nat) × mMm) := (fX10_isBetween p0 (1 : Int32) (39 : Int32)).bind fun v1 => if v1 = 0 then (lX10_addRepeat_20 S μ) else ((fX10_isBetween p1 (1 : Int32) (40 : Int32)).bind fun v2 => if v2 = 0 then (lX10_addRepeat_20 S μ) else ((gR S o 10 0).bind fun v3 => (gR S v3 7 1).bind fun v4 => (fX5_isFull S μ v4).bind fun v5 => if v5 = 0 then ((gR S o 10 3).bind fun v6 => (gR S o 10 0).bind fun v7 => (fX1_push S μ v6 v7).bind fun m8 => (gR S o 10 0).bind fun v9 => (gR S v9 7 1).bind fun v10 => (fX5_put S m8 v10 p0 p1).bind fun m11 => (gR S o 10 0).bind fun v12 => (gR S v12 7 1).bind fun v13 => (gI S m11 v13 5 2).bind fun v14 => some (.inl v14, m11)) else (some (.inr 1, μ))))
def fX10_addRepeat (S : mSh) (μ : mMm) (o : Nat) (p0 : Int32) (p1 : Int32) : Option ((Int32 ⊕ Nat) × mMm) := if mok S o 10 = true then bX10_addRepeat S μ o p0 p1 else none
abbrev MX10_addRepeat : mM := ((yX10_addRepeat, cX10_addRepeat, 3, (some .int)), (6, 90), (false, false), RX10, eT)
theorem kX10_addRepeat : mCalV MX10_addRepeat RX10 2 := ⟨q532, q533, q2, q534, by decide +kernel⟩
set_option maxHeartbeats 4000000 in
theorem xX10_addRepeat_20 {n0 c0 s0 cx cy : Nat} {S : mSh} (μ : mMm)  (d0 : Option Value) (d1 : Option Value) (d2 : Option Value) : mX MX10_addRepeat n0 c0 s0 20 [d0, d1, d2] [] (S, μ, cx, cy) (iTI S cx cy) (lX10_addRepeat_20 S μ) := by
  unfold lX10_addRepeat_20
  exact x_throw rfl ⟨81, 190, 85, "distance or length out of range", dX10_addRepeat_20, dX10_addRepeat_23, Or.inl ⟨dX10_addRepeat_24, dX10_addRepeat_26, dX10_addRepeat_29⟩, rfl, q155, q156, Or.inl ⟨rfl, rfl⟩, by decide, by decide, by decide⟩ (Nat.le_of_ble_eq_true rfl)
set_option maxHeartbeats 4000000 in
theorem xbX10_addRepeat {n0 c0 s0 cx cy : Nat} {S : mSh} {μ : mMm} (o : Nat) (p0 : Int32) (p1 : Int32) : mX MX10_addRepeat n0 c0 s0 0 [some (.ref o), some (.int p0), some (.int p1)] [] (S, μ, cx, cy) (iTI S cx cy) (bX10_addRepeat S μ o p0 p1) := by
  unfold bX10_addRepeat
  refine x_iload_n (pc := 0) dX10_addRepeat_0 (i := 1) rfl rfl ?_
  refine x_iconst (pc := 1) (v := 1) dX10_addRepeat_1 (by decide) ?_
  refine x_bipush (pc := 2) (v := 39) dX10_addRepeat_2 (by decide) ?_
  refine x_callSi (pc := 4) (As := [.int p0, .int (1 : Int32), .int (39 : Int32)]) (rest := []) (vx := fun a => a) (μf := fun _ => μ) (mX10_isBetween S μ cx cy p0 (1 : Int32) (39 : Int32)) (fun _ => rfl) rfl dX10_addRepeat_4 q278 kX10_isBetween rfl ⟨by decide, by decide⟩ rfl (Nat.le_of_ble_eq_true rfl) (fun v1 => ?_)
  refine x_if_eq (pc := 7) (tgt := 20) dX10_addRepeat_7 (by decide) ?_ ?_
  · exact xX10_addRepeat_20 μ _ _ _
  · refine x_iload_n (pc := 10) dX10_addRepeat_10 (i := 2) rfl rfl ?_
    refine x_iconst (pc := 11) (v := 1) dX10_addRepeat_11 (by decide) ?_
    refine x_bipush (pc := 12) (v := 40) dX10_addRepeat_12 (by decide) ?_
    refine x_callSi (pc := 14) (As := [.int p1, .int (1 : Int32), .int (40 : Int32)]) (rest := []) (vx := fun a => a) (μf := fun _ => μ) (mX10_isBetween S μ cx cy p1 (1 : Int32) (40 : Int32)) (fun _ => rfl) rfl dX10_addRepeat_14 q278 kX10_isBetween rfl ⟨by decide, by decide⟩ rfl (Nat.le_of_ble_eq_true rfl) (fun v2 => ?_)
    refine x_if_ne (pc := 17) (tgt := 30) dX10_addRepeat_17 (by decide) ?_ ?_
    · exact xX10_addRepeat_20 μ _ _ _
    · refine x_aload_n (pc := 30) dX10_addRepeat_30 (i := 0) rfl rfl ?_
      refine x_gR (pc := 31) (k := 0) fcX10 dX10_addRepeat_31 q16 (by decide) rfl (fun v3 => ?_)
      refine x_gR (pc := 34) (k := 1) fcX7 dX10_addRepeat_34 q344 (by decide) rfl (fun v4 => ?_)
      refine x_callVi (pc := 37) (As := []) (rest := []) (vx := fun a => a) (μf := fun _ => μ) fcX5 (mX5_isFull S μ cx cy v4) (fun _ => rfl) rfl (fun _ h => ifok h) dX10_addRepeat_37 q515 kX5_isFull rfl ⟨by decide, by decide⟩ rfl (Nat.le_of_ble_eq_true rfl) (fun v5 => ?_)
      refine x_if_eq (pc := 40) (tgt := 53) dX10_addRepeat_40 (by decide) ?_ ?_
      · refine x_aload_n (pc := 53) dX10_addRepeat_53 (i := 0) rfl rfl ?_
        refine x_gR (pc := 54) (k := 3) fcX10 dX10_addRepeat_54 q22 (by decide) rfl (fun v6 => ?_)
        refine x_aload_n (pc := 57) dX10_addRepeat_57 (i := 0) rfl rfl ?_
        refine x_gR (pc := 58) (k := 0) fcX10 dX10_addRepeat_58 q16 (by decide) rfl (fun v7 => ?_)
        refine x_callVv (pc := 61) (As := [.ref v7]) (rest := []) (μf := fun a => a) fcX1 (mX1_push S μ cx cy v6 v7) (fun _ => rfl) rfl (fun _ h => ifok h) dX10_addRepeat_61 q163 kX1_push rfl ⟨by decide, by decide⟩ rfl (Nat.le_of_ble_eq_true rfl) (fun m8 => ?_)
        refine x_aload_n (pc := 64) dX10_addRepeat_64 (i := 0) rfl rfl ?_
        refine x_gR (pc := 65) (k := 0) fcX10 dX10_addRepeat_65 q16 (by decide) rfl (fun v9 => ?_)
        refine x_gR (pc := 68) (k := 1) fcX7 dX10_addRepeat_68 q344 (by decide) rfl (fun v10 => ?_)
        refine x_iload_n (pc := 71) dX10_addRepeat_71 (i := 1) rfl rfl ?_
        refine x_iload_n (pc := 72) dX10_addRepeat_72 (i := 2) rfl rfl ?_
        refine x_callVv (pc := 73) (As := [.int p0, .int p1]) (rest := []) (μf := fun a => a) fcX5 (mX5_put S m8 cx cy v10 p0 p1) (fun _ => rfl) rfl (fun _ h => ifok h) dX10_addRepeat_73 q519 kX5_put rfl ⟨by decide, by decide⟩ rfl (Nat.le_of_ble_eq_true rfl) (fun m11 => ?_)
        refine x_aload_n (pc := 76) dX10_addRepeat_76 (i := 0) rfl rfl ?_
        refine x_gR (pc := 77) (k := 0) fcX10 dX10_addRepeat_77 q16 (by decide) rfl (fun v12 => ?_)
        refine x_gR (pc := 80) (k := 1) fcX7 dX10_addRepeat_80 q344 (by decide) rfl (fun v13 => ?_)
        refine x_gI (pc := 83) (k := 2) fcX5 dX10_addRepeat_83 q345 (by decide) rfl (fun v14 => ?_)
        exact x_iret rfl dX10_addRepeat_86 rfl rfl
      · exact x_throw rfl ⟨94, 186, 98, "the sack is full", dX10_addRepeat_43, dX10_addRepeat_46, Or.inl ⟨dX10_addRepeat_47, dX10_addRepeat_49, dX10_addRepeat_52⟩, rfl, q157, q158, Or.inr (Or.inl ⟨rfl, rfl⟩), by decide, by decide, by decide⟩ (Nat.le_of_ble_eq_true rfl)
theorem mX10_addRepeat (S : mSh) (μ : mMm) (cx cy : Nat) (o : Nat) (p0 : Int32) (p1 : Int32) : mMet MX10_addRepeat [.ref o, .int p0, .int p1] (S, μ, cx, cy) (iTI S cx cy) (fX10_addRepeat S μ o p0 p1) := mMet.of rfl (by decide) rfl (fun h => by cases h) (Nat.le_of_ble_eq_true rfl) (mX.ck (fun _ => xbX10_addRepeat o p0 p1))
/-! SlideMills.takeLast()I -/
def bX10_takeLast (S : mSh) (μ : mMm) (o : Nat) : Option ((Int32 ⊕ Nat) × mMm) := (gR S o 10 0).bind fun v1 => (gR S v1 7 1).bind fun v2 => (gI S μ v2 5 2).bind fun v3 => if 0 < v3 then ((gR S o 10 3).bind fun v4 => (gR S o 10 0).bind fun v5 => (fX1_push S μ v4 v5).bind fun m6 => (gR S o 10 0).bind fun v7 => (gR S v7 7 1).bind fun v8 => (gI S m6 v8 5 2).bind fun v9 => (pI S m6 v8 5 2 (v9 - (1 : Int32))).bind fun m10 => (gR S o 10 0).bind fun v11 => (gR S v11 7 1).bind fun v12 => (gI S m10 v12 5 2).bind fun v13 => some (.inl v13, m10)) else (some (.inr 1, μ))
def fX10_takeLast (S : mSh) (μ : mMm) (o : Nat) : Option ((Int32 ⊕ Nat) × mMm) := if mok S o 10 = true then bX10_takeLast S μ o else none
abbrev MX10_takeLast : mM := ((yX10_takeLast, cX10_takeLast, 1, (some .int)), (6, 90), (false, false), RX10, eT)
theorem kX10_takeLast : mCalV MX10_takeLast RX10 0 := ⟨q543, q544, q2, q545, by decide +kernel⟩
set_option maxHeartbeats 4000000 in
theorem xbX10_takeLast {n0 c0 s0 cx cy : Nat} {S : mSh} {μ : mMm} (o : Nat) : mX MX10_takeLast n0 c0 s0 0 [some (.ref o)] [] (S, μ, cx, cy) (iTI S cx cy) (bX10_takeLast S μ o) := by
  unfold bX10_takeLast
  refine x_aload_n (pc := 0) dX10_takeLast_0 (i := 0) rfl rfl ?_
  refine x_gR (pc := 1) (k := 0) fcX10 dX10_takeLast_1 q16 (by decide) rfl (fun v1 => ?_)
  refine x_gR (pc := 4) (k := 1) fcX7 dX10_takeLast_4 q344 (by decide) rfl (fun v2 => ?_)
  refine x_gI (pc := 7) (k := 2) fcX5 dX10_takeLast_7 q345 (by decide) rfl (fun v3 => ?_)
  refine x_if_gt (pc := 10) (tgt := 23) dX10_takeLast_10 (by decide) ?_ ?_
  · refine x_aload_n (pc := 23) dX10_takeLast_23 (i := 0) rfl rfl ?_
    refine x_gR (pc := 24) (k := 3) fcX10 dX10_takeLast_24 q22 (by decide) rfl (fun v4 => ?_)
    refine x_aload_n (pc := 27) dX10_takeLast_27 (i := 0) rfl rfl ?_
    refine x_gR (pc := 28) (k := 0) fcX10 dX10_takeLast_28 q16 (by decide) rfl (fun v5 => ?_)
    refine x_callVv (pc := 31) (As := [.ref v5]) (rest := []) (μf := fun a => a) fcX1 (mX1_push S μ cx cy v4 v5) (fun _ => rfl) rfl (fun _ h => ifok h) dX10_takeLast_31 q163 kX1_push rfl ⟨by decide, by decide⟩ rfl (Nat.le_of_ble_eq_true rfl) (fun m6 => ?_)
    refine x_aload_n (pc := 34) dX10_takeLast_34 (i := 0) rfl rfl ?_
    refine x_gR (pc := 35) (k := 0) fcX10 dX10_takeLast_35 q16 (by decide) rfl (fun v7 => ?_)
    refine x_gR (pc := 38) (k := 1) fcX7 dX10_takeLast_38 q344 (by decide) rfl (fun v8 => ?_)
    refine x_dup (pc := 41) dX10_takeLast_41 rfl ?_
    refine x_gI (pc := 42) (k := 2) fcX5 dX10_takeLast_42 q345 (by decide) rfl (fun v9 => ?_)
    refine x_iconst (pc := 45) (v := 1) dX10_takeLast_45 (by decide) ?_
    refine x_isub (pc := 46) dX10_takeLast_46 ?_
    refine x_pI (pc := 47) (k := 2) fcX5 dX10_takeLast_47 q345 (by decide) rfl rfl rfl rfl (fun m10 => ?_)
    refine x_aload_n (pc := 50) dX10_takeLast_50 (i := 0) rfl rfl ?_
    refine x_gR (pc := 51) (k := 0) fcX10 dX10_takeLast_51 q16 (by decide) rfl (fun v11 => ?_)
    refine x_gR (pc := 54) (k := 1) fcX7 dX10_takeLast_54 q344 (by decide) rfl (fun v12 => ?_)
    refine x_gI (pc := 57) (k := 2) fcX5 dX10_takeLast_57 q345 (by decide) rfl (fun v13 => ?_)
    exact x_iret rfl dX10_takeLast_60 rfl rfl
  · exact x_throw rfl ⟨94, 192, 98, "the sack is empty", dX10_takeLast_13, dX10_takeLast_16, Or.inl ⟨dX10_takeLast_17, dX10_takeLast_19, dX10_takeLast_22⟩, rfl, q157, q158, Or.inr (Or.inl ⟨rfl, rfl⟩), by decide, by decide, by decide⟩ (Nat.le_of_ble_eq_true rfl)
theorem mX10_takeLast (S : mSh) (μ : mMm) (cx cy : Nat) (o : Nat) : mMet MX10_takeLast [.ref o] (S, μ, cx, cy) (iTI S cx cy) (fX10_takeLast S μ o) := mMet.of rfl (by decide) rfl (fun h => by cases h) (Nat.le_of_ble_eq_true rfl) (mX.ck (fun _ => xbX10_takeLast o))
/-! SlideMills.emptySack()I -/
def bX10_emptySack (S : mSh) (μ : mMm) (o : Nat) : Option (Int32 × mMm) := (gR S o 10 3).bind fun v1 => (gR S o 10 0).bind fun v2 => (fX1_push S μ v1 v2).bind fun m3 => (gR S o 10 0).bind fun v4 => (gR S v4 7 1).bind fun v5 => (gI S m3 v5 5 2).bind fun v6 => (gR S o 10 0).bind fun v7 => (gR S v7 7 1).bind fun v8 => (fX5_clear S m3 v8).bind fun m9 => some (v6, m9)
def fX10_emptySack (S : mSh) (μ : mMm) (o : Nat) : Option (Int32 × mMm) := if mok S o 10 = true then bX10_emptySack S μ o else none
abbrev MX10_emptySack : mM := ((yX10_emptySack, cX10_emptySack, 2, (some .int)), (4, 85), (false, false), RX10, eT)
theorem kX10_emptySack : mCalV MX10_emptySack RX10 0 := ⟨q551, q552, q2, q553, by decide +kernel⟩
set_option maxHeartbeats 4000000 in
theorem xbX10_emptySack {n0 c0 s0 cx cy : Nat} {S : mSh} {μ : mMm} (o : Nat) : mX MX10_emptySack n0 c0 s0 0 [some (.ref o), none] [] (S, μ, cx, cy) (iMI S cx cy) (bX10_emptySack S μ o) := by
  unfold bX10_emptySack
  refine x_aload_n (pc := 0) dX10_emptySack_0 (i := 0) rfl rfl ?_
  refine x_gR (pc := 1) (k := 3) fcX10 dX10_emptySack_1 q22 (by decide) rfl (fun v1 => ?_)
  refine x_aload_n (pc := 4) dX10_emptySack_4 (i := 0) rfl rfl ?_
  refine x_gR (pc := 5) (k := 0) fcX10 dX10_emptySack_5 q16 (by decide) rfl (fun v2 => ?_)
  refine x_callVv (pc := 8) (As := [.ref v2]) (rest := []) (μf := fun a => a) fcX1 (mX1_push S μ cx cy v1 v2) (fun _ => rfl) rfl (fun _ h => ifok h) dX10_emptySack_8 q163 kX1_push rfl ⟨by decide, by decide⟩ rfl (Nat.le_of_ble_eq_true rfl) (fun m3 => ?_)
  refine x_aload_n (pc := 11) dX10_emptySack_11 (i := 0) rfl rfl ?_
  refine x_gR (pc := 12) (k := 0) fcX10 dX10_emptySack_12 q16 (by decide) rfl (fun v4 => ?_)
  refine x_gR (pc := 15) (k := 1) fcX7 dX10_emptySack_15 q344 (by decide) rfl (fun v5 => ?_)
  refine x_gI (pc := 18) (k := 2) fcX5 dX10_emptySack_18 q345 (by decide) rfl (fun v6 => ?_)
  refine x_istore_n (pc := 21) dX10_emptySack_21 (i := 1) rfl (by decide) (l' := [some (.ref o), some (.int v6)]) rfl ?_
  refine x_aload_n (pc := 22) dX10_emptySack_22 (i := 0) rfl rfl ?_
  refine x_gR (pc := 23) (k := 0) fcX10 dX10_emptySack_23 q16 (by decide) rfl (fun v7 => ?_)
  refine x_gR (pc := 26) (k := 1) fcX7 dX10_emptySack_26 q344 (by decide) rfl (fun v8 => ?_)
  refine x_callVv (pc := 29) (As := []) (rest := []) (μf := fun a => a) fcX5 (mX5_clear S m3 cx cy v8) (fun _ => rfl) rfl (fun _ h => ifok h) dX10_emptySack_29 q554 kX5_clear rfl ⟨by decide, by decide⟩ rfl (Nat.le_of_ble_eq_true rfl) (fun m9 => ?_)
  refine x_iload_n (pc := 32) dX10_emptySack_32 (i := 1) rfl rfl ?_
  exact x_iret rfl dX10_emptySack_33 rfl rfl
theorem mX10_emptySack (S : mSh) (μ : mMm) (cx cy : Nat) (o : Nat) : mMet MX10_emptySack [.ref o] (S, μ, cx, cy) (iMI S cx cy) (fX10_emptySack S μ o) := mMet.of rfl (by decide) rfl (fun h => by cases h) (Nat.le_of_ble_eq_true rfl) (mX.ck (fun _ => xbX10_emptySack o))
/-! SlideMills.append(I)I -/
def bX10_append (S : mSh) (μ : mMm) (o : Nat) (p0 : Int32) : Option ((Int32 ⊕ Nat) × mMm) := (fX10_isBetween p0 (33 : Int32) (126 : Int32)).bind fun v1 => if v1 = 0 then (some (.inr 0, μ)) else ((gR S o 10 4).bind fun v2 => (gI S μ v2 9 1).bind fun v3 => if v3 < (60 : Int32) then ((gR S o 10 4).bind fun v4 => (fX9_put S μ v4 p0).bind fun m5 => (gR S o 10 4).bind fun v6 => (gI S m5 v6 9 1).bind fun v7 => some (.inl v7, m5)) else (some (.inr 1, μ)))
def fX10_append (S : mSh) (μ : mMm) (o : Nat) (p0 : Int32) : Option ((Int32 ⊕ Nat) × mMm) := if mok S o 10 = true then bX10_append S μ o p0 else none
abbrev MX10_append : mM := ((yX10_append, cX10_append, 2, (some .int)), (6, 90), (false, false), RX10, eT)
theorem kX10_append : mCalV MX10_append RX10 1 := ⟨q563, q564, q2, q565, by decide +kernel⟩
set_option maxHeartbeats 4000000 in
theorem xbX10_append {n0 c0 s0 cx cy : Nat} {S : mSh} {μ : mMm} (o : Nat) (p0 : Int32) : mX MX10_append n0 c0 s0 0 [some (.ref o), some (.int p0)] [] (S, μ, cx, cy) (iTI S cx cy) (bX10_append S μ o p0) := by
  unfold bX10_append
  refine x_iload_n (pc := 0) dX10_append_0 (i := 1) rfl rfl ?_
  refine x_bipush (pc := 1) (v := 33) dX10_append_1 (by decide) ?_
  refine x_bipush (pc := 3) (v := 126) dX10_append_3 (by decide) ?_
  refine x_callSi (pc := 5) (As := [.int p0, .int (33 : Int32), .int (126 : Int32)]) (rest := []) (vx := fun a => a) (μf := fun _ => μ) (mX10_isBetween S μ cx cy p0 (33 : Int32) (126 : Int32)) (fun _ => rfl) rfl dX10_append_5 q278 kX10_isBetween rfl ⟨by decide, by decide⟩ rfl (Nat.le_of_ble_eq_true rfl) (fun v1 => ?_)
  refine x_if_ne (pc := 8) (tgt := 21) dX10_append_8 (by decide) ?_ ?_
  · exact x_throw rfl ⟨81, 195, 85, "code out of range", dX10_append_11, dX10_append_14, Or.inl ⟨dX10_append_15, dX10_append_17, dX10_append_20⟩, rfl, q155, q156, Or.inl ⟨rfl, rfl⟩, by decide, by decide, by decide⟩ (Nat.le_of_ble_eq_true rfl)
  · refine x_aload_n (pc := 21) dX10_append_21 (i := 0) rfl rfl ?_
    refine x_gR (pc := 22) (k := 4) fcX10 dX10_append_22 q26 (by decide) rfl (fun v2 => ?_)
    refine x_gI (pc := 25) (k := 1) fcX9 dX10_append_25 q566 (by decide) rfl (fun v3 => ?_)
    refine x_bipush (pc := 28) (v := 60) dX10_append_28 (by decide) ?_
    refine x_icmp_lt (pc := 30) (tgt := 43) dX10_append_30 (by decide) ?_ ?_
    · refine x_aload_n (pc := 43) dX10_append_43 (i := 0) rfl rfl ?_
      refine x_gR (pc := 44) (k := 4) fcX10 dX10_append_44 q26 (by decide) rfl (fun v4 => ?_)
      refine x_iload_n (pc := 47) dX10_append_47 (i := 1) rfl rfl ?_
      refine x_callVv (pc := 48) (As := [.int p0]) (rest := []) (μf := fun a => a) fcX9 (mX9_put S μ cx cy v4 p0) (fun _ => rfl) rfl (fun _ h => ifok h) dX10_append_48 q567 kX9_put rfl ⟨by decide, by decide⟩ rfl (Nat.le_of_ble_eq_true rfl) (fun m5 => ?_)
      refine x_aload_n (pc := 51) dX10_append_51 (i := 0) rfl rfl ?_
      refine x_gR (pc := 52) (k := 4) fcX10 dX10_append_52 q26 (by decide) rfl (fun v6 => ?_)
      refine x_gI (pc := 55) (k := 1) fcX9 dX10_append_55 q566 (by decide) rfl (fun v7 => ?_)
      exact x_iret rfl dX10_append_58 rfl rfl
    · exact x_throw rfl ⟨94, 198, 98, "the buffer is full", dX10_append_33, dX10_append_36, Or.inl ⟨dX10_append_37, dX10_append_39, dX10_append_42⟩, rfl, q157, q158, Or.inr (Or.inl ⟨rfl, rfl⟩), by decide, by decide, by decide⟩ (Nat.le_of_ble_eq_true rfl)
theorem mX10_append (S : mSh) (μ : mMm) (cx cy : Nat) (o : Nat) (p0 : Int32) : mMet MX10_append [.ref o, .int p0] (S, μ, cx, cy) (iTI S cx cy) (fX10_append S μ o p0) := mMet.of rfl (by decide) rfl (fun h => by cases h) (Nat.le_of_ble_eq_true rfl) (mX.ck (fun _ => xbX10_append o p0))
/-! SlideMills.clearBuffer()I -/
def bX10_clearBuffer (S : mSh) (μ : mMm) (o : Nat) : Option (Int32 × mMm) := (gR S o 10 4).bind fun v1 => (gI S μ v1 9 1).bind fun v2 => (gR S o 10 4).bind fun v3 => (fX9_clear S μ v3).bind fun m4 => some (v2, m4)
def fX10_clearBuffer (S : mSh) (μ : mMm) (o : Nat) : Option (Int32 × mMm) := if mok S o 10 = true then bX10_clearBuffer S μ o else none
abbrev MX10_clearBuffer : mM := ((yX10_clearBuffer, cX10_clearBuffer, 2, (some .int)), (1, 20), (false, false), RX10, eT)
theorem kX10_clearBuffer : mCalV MX10_clearBuffer RX10 0 := ⟨q577, q578, q2, q579, by decide +kernel⟩
set_option maxHeartbeats 4000000 in
theorem xbX10_clearBuffer {n0 c0 s0 cx cy : Nat} {S : mSh} {μ : mMm} (o : Nat) : mX MX10_clearBuffer n0 c0 s0 0 [some (.ref o), none] [] (S, μ, cx, cy) (iMI S cx cy) (bX10_clearBuffer S μ o) := by
  unfold bX10_clearBuffer
  refine x_aload_n (pc := 0) dX10_clearBuffer_0 (i := 0) rfl rfl ?_
  refine x_gR (pc := 1) (k := 4) fcX10 dX10_clearBuffer_1 q26 (by decide) rfl (fun v1 => ?_)
  refine x_gI (pc := 4) (k := 1) fcX9 dX10_clearBuffer_4 q566 (by decide) rfl (fun v2 => ?_)
  refine x_istore_n (pc := 7) dX10_clearBuffer_7 (i := 1) rfl (by decide) (l' := [some (.ref o), some (.int v2)]) rfl ?_
  refine x_aload_n (pc := 8) dX10_clearBuffer_8 (i := 0) rfl rfl ?_
  refine x_gR (pc := 9) (k := 4) fcX10 dX10_clearBuffer_9 q26 (by decide) rfl (fun v3 => ?_)
  refine x_callVv (pc := 12) (As := []) (rest := []) (μf := fun a => a) fcX9 (mX9_clear S μ cx cy v3) (fun _ => rfl) rfl (fun _ h => ifok h) dX10_clearBuffer_12 q580 kX9_clear rfl ⟨by decide, by decide⟩ rfl (Nat.le_of_ble_eq_true rfl) (fun m4 => ?_)
  refine x_iload_n (pc := 15) dX10_clearBuffer_15 (i := 1) rfl rfl ?_
  exact x_iret rfl dX10_clearBuffer_16 rfl rfl
theorem mX10_clearBuffer (S : mSh) (μ : mMm) (cx cy : Nat) (o : Nat) : mMet MX10_clearBuffer [.ref o] (S, μ, cx, cy) (iMI S cx cy) (fX10_clearBuffer S μ o) := mMet.of rfl (by decide) rfl (fun h => by cases h) (Nat.le_of_ble_eq_true rfl) (mX.ck (fun _ => xbX10_clearBuffer o))
/-! SlideMills.firstError()I -/
def bX10_firstError (S : mSh) (μ : mMm) (o : Nat) : Option (Int32) := (gR S o 10 4).bind fun v1 => (fX9_errorPlace S μ v1).bind fun v2 => some v2
def fX10_firstError (S : mSh) (μ : mMm) (o : Nat) : Option (Int32) := if mok S o 10 = true then bX10_firstError S μ o else none
abbrev MX10_firstError : mM := ((yX10_firstError, cX10_firstError, 1, (some .int)), (4, 84), (false, false), RX10, eT)
theorem kX10_firstError : mCalV MX10_firstError RX10 0 := ⟨q589, q590, q2, q591, by decide +kernel⟩
set_option maxHeartbeats 4000000 in
theorem xbX10_firstError {n0 c0 s0 cx cy : Nat} {S : mSh} {μ : mMm} (o : Nat) : mX MX10_firstError n0 c0 s0 0 [some (.ref o)] [] (S, μ, cx, cy) (iPI S μ cx cy) (bX10_firstError S μ o) := by
  unfold bX10_firstError
  refine x_aload_n (pc := 0) dX10_firstError_0 (i := 0) rfl rfl ?_
  refine x_gR (pc := 1) (k := 4) fcX10 dX10_firstError_1 q26 (by decide) rfl (fun v1 => ?_)
  refine x_callVi (pc := 4) (As := []) (rest := []) (vx := fun a => a) (μf := fun _ => μ) fcX9 (mX9_errorPlace S μ cx cy v1) (fun _ => rfl) rfl (fun _ h => ifok h) dX10_firstError_4 q592 kX9_errorPlace rfl ⟨by decide, by decide⟩ rfl (Nat.le_of_ble_eq_true rfl) (fun v2 => ?_)
  exact x_iret rfl dX10_firstError_7 rfl rfl
theorem mX10_firstError (S : mSh) (μ : mMm) (cx cy : Nat) (o : Nat) : mMet MX10_firstError [.ref o] (S, μ, cx, cy) (iPI S μ cx cy) (fX10_firstError S μ o) := mMet.of rfl (by decide) rfl (fun h => by cases h) (Nat.le_of_ble_eq_true rfl) (mX.ck (fun _ => xbX10_firstError o))
/-! SlideMills.putLetters(II)I -/
def lX10_putLetters_23 (S : mSh) : Nat → mMm → Nat → Int32 → Int32 → Option (Int32 × mMm)
  | 0, _, _, _, _ => none
  | n + 1, μ, x0, x2, x3 => if x2 ≤ x3 then (some ((0 : Int32), μ)) else ((gR S x0 10 0).bind fun v4 => (gR S v4 7 0).bind fun v5 => (gR S x0 10 4).bind fun v6 => (fX9_codeAt S μ v6 x3).bind fun v7 => (fX2_put S μ v5 (v7 - (97 : Int32))).bind fun m8 => lX10_putLetters_23 S n m8 x0 x2 (x3 + (1 : Int32)))
def bX10_putLetters (S : mSh) (μ : mMm) (o : Nat) (p0 : Int32) (p1 : Int32) : Option (Int32 × mMm) := (gR S o 10 0).bind fun v1 => (gR S v1 7 0).bind fun v2 => (gI S μ v2 2 1).bind fun v3 => if (p1 - p0) ≤ ((40 : Int32) - v3) then (lX10_putLetters_23 S FU μ o p1 p0) else (some ((3 : Int32), μ))
def fX10_putLetters (S : mSh) (μ : mMm) (o : Nat) (p0 : Int32) (p1 : Int32) : Option (Int32 × mMm) := if mok S o 10 = true then bX10_putLetters S μ o p0 p1 else none
abbrev MX10_putLetters : mM := ((yX10_putLetters, cX10_putLetters, 4, (some .int)), (1, 21), (false, false), RX10, eT)
theorem kX10_putLetters : mCalV MX10_putLetters RX10 2 := ⟨q674, q675, q2, q676, by decide +kernel⟩
set_option maxHeartbeats 4000000 in
theorem xX10_putLetters_23 {n0 c0 s0 cx cy : Nat} {S : mSh} : ∀ (n : Nat) (μ : mMm) (x0 : Nat) (x2 : Int32) (x3 : Int32) (d1 : Option Value), mX MX10_putLetters n0 c0 s0 23 [some (.ref x0), d1, some (.int x2), some (.int x3)] [] (S, μ, cx, cy) (iMI S cx cy) (lX10_putLetters_23 S n μ x0 x2 x3) := by
  intro n
  induction n with
  | zero => intros; exact x_none
  | succ n ih =>
    intro μ x0 x2 x3 d1
    unfold lX10_putLetters_23
    refine x_iload_n (pc := 23) dX10_putLetters_23 (i := 3) rfl rfl ?_
    refine x_iload_n (pc := 24) dX10_putLetters_24 (i := 2) rfl rfl ?_
    refine x_icmp_ge (pc := 25) (tgt := 55) dX10_putLetters_25 (by decide) ?_ ?_
    · refine x_iconst (pc := 55) (v := 0) dX10_putLetters_55 (by decide) ?_
      exact x_iret rfl dX10_putLetters_56 rfl rfl
    · refine x_aload_n (pc := 28) dX10_putLetters_28 (i := 0) rfl rfl ?_
      refine x_gR (pc := 29) (k := 0) fcX10 dX10_putLetters_29 q16 (by decide) rfl (fun v4 => ?_)
      refine x_gR (pc := 32) (k := 0) fcX7 dX10_putLetters_32 q30 (by decide) rfl (fun v5 => ?_)
      refine x_aload_n (pc := 35) dX10_putLetters_35 (i := 0) rfl rfl ?_
      refine x_gR (pc := 36) (k := 4) fcX10 dX10_putLetters_36 q26 (by decide) rfl (fun v6 => ?_)
      refine x_iload_n (pc := 39) dX10_putLetters_39 (i := 3) rfl rfl ?_
      refine x_callVi (pc := 40) (As := [.int x3]) (rest := [.ref v5]) (vx := fun a => a) (μf := fun _ => μ) fcX9 (mX9_codeAt S μ cx cy v6 x3) (fun _ => rfl) rfl (fun _ h => ifok h) dX10_putLetters_40 q668 kX9_codeAt rfl ⟨by decide, by decide⟩ rfl (Nat.le_of_ble_eq_true rfl) (fun v7 => ?_)
      refine x_bipush (pc := 43) (v := 97) dX10_putLetters_43 (by decide) ?_
      refine x_isub (pc := 45) dX10_putLetters_45 ?_
      refine x_callVv (pc := 46) (As := [.int (v7 - (97 : Int32))]) (rest := []) (μf := fun a => a) fcX2 (mX2_put S μ cx cy v5 (v7 - (97 : Int32))) (fun _ => rfl) rfl (fun _ h => ifok h) dX10_putLetters_46 q191 kX2_put rfl ⟨by decide, by decide⟩ rfl (Nat.le_of_ble_eq_true rfl) (fun m8 => ?_)
      refine x_iinc (pc := 49) (v := x3 + (1 : Int32)) dX10_putLetters_49 rfl (by rw [show Int32.ofInt (1) = (1 : Int32) from by decide]) (by decide) (l' := [some (.ref x0), d1, some (.int x2), some (.int (x3 + (1 : Int32)))]) rfl ?_
      refine x_goto (pc := 52) (tgt := 23) dX10_putLetters_52 (by decide) ?_
      exact ih m8 x0 x2 (x3 + (1 : Int32)) _
set_option maxHeartbeats 4000000 in
theorem xbX10_putLetters {n0 c0 s0 cx cy : Nat} {S : mSh} {μ : mMm} (o : Nat) (p0 : Int32) (p1 : Int32) : mX MX10_putLetters n0 c0 s0 0 [some (.ref o), some (.int p0), some (.int p1), none] [] (S, μ, cx, cy) (iMI S cx cy) (bX10_putLetters S μ o p0 p1) := by
  unfold bX10_putLetters
  refine x_iload_n (pc := 0) dX10_putLetters_0 (i := 2) rfl rfl ?_
  refine x_iload_n (pc := 1) dX10_putLetters_1 (i := 1) rfl rfl ?_
  refine x_isub (pc := 2) dX10_putLetters_2 ?_
  refine x_bipush (pc := 3) (v := 40) dX10_putLetters_3 (by decide) ?_
  refine x_aload_n (pc := 5) dX10_putLetters_5 (i := 0) rfl rfl ?_
  refine x_gR (pc := 6) (k := 0) fcX10 dX10_putLetters_6 q16 (by decide) rfl (fun v1 => ?_)
  refine x_gR (pc := 9) (k := 0) fcX7 dX10_putLetters_9 q30 (by decide) rfl (fun v2 => ?_)
  refine x_gI (pc := 12) (k := 1) fcX2 dX10_putLetters_12 q159 (by decide) rfl (fun v3 => ?_)
  refine x_isub (pc := 15) dX10_putLetters_15 ?_
  refine x_icmp_le (pc := 16) (tgt := 21) dX10_putLetters_16 (by decide) ?_ ?_
  · refine x_iload_n (pc := 21) dX10_putLetters_21 (i := 1) rfl rfl ?_
    refine x_istore_n (pc := 22) dX10_putLetters_22 (i := 3) rfl (by decide) (l' := [some (.ref o), some (.int p0), some (.int p1), some (.int p0)]) rfl ?_
    exact xX10_putLetters_23 FU μ o p1 p0 _
  · refine x_iconst (pc := 19) (v := 3) dX10_putLetters_19 (by decide) ?_
    exact x_iret rfl dX10_putLetters_20 rfl rfl
theorem mX10_putLetters (S : mSh) (μ : mMm) (cx cy : Nat) (o : Nat) (p0 : Int32) (p1 : Int32) : mMet MX10_putLetters [.ref o, .int p0, .int p1] (S, μ, cx, cy) (iMI S cx cy) (fX10_putLetters S μ o p0 p1) := mMet.of rfl (by decide) rfl (fun h => by cases h) (Nat.le_of_ble_eq_true rfl) (mX.ck (fun _ => xbX10_putLetters o p0 p1))
/-! SlideMills.unpackIfPossible()I -/
def lX10_unpackIfPossible_41 (S : mSh) (μ : mMm) (x0 : Nat) : Option (Int32 × mMm) := (gR S x0 10 8).bind fun v7 => (gI S μ v7 8 2).bind fun v8 => some (v8, μ)
def bX10_unpackIfPossible (S : mSh) (μ : mMm) (o : Nat) : Option (Int32 × mMm) := (gR S o 10 8).bind fun v1 => (gR S o 10 0).bind fun v2 => (gR S v2 7 1).bind fun v3 => (fX8_run S μ v1 v3).bind fun m4 => (gR S o 10 8).bind fun v5 => (gI S m4 v5 8 2).bind fun v6 => if v6 = 0 then ((gR S o 10 0).bind fun v9 => (gR S v9 7 0).bind fun v10 => (gR S o 10 8).bind fun v11 => (gR S v11 8 0).bind fun v12 => (fX2_copyFrom S m4 v10 v12).bind fun m13 => lX10_unpackIfPossible_41 S m13 o) else (lX10_unpackIfPossible_41 S m4 o)
def fX10_unpackIfPossible (S : mSh) (μ : mMm) (o : Nat) : Option (Int32 × mMm) := if mok S o 10 = true then bX10_unpackIfPossible S μ o else none
abbrev MX10_unpackIfPossible : mM := ((yX10_unpackIfPossible, cX10_unpackIfPossible, 1, (some .int)), (4, 89), (false, false), RX10, eT)
theorem kX10_unpackIfPossible : mCalV MX10_unpackIfPossible RX10 0 := ⟨q678, q679, q2, q680, by decide +kernel⟩
set_option maxHeartbeats 4000000 in
theorem xX10_unpackIfPossible_41 {n0 c0 s0 cx cy : Nat} {S : mSh} (μ : mMm) (x0 : Nat) : mX MX10_unpackIfPossible n0 c0 s0 41 [some (.ref x0)] [] (S, μ, cx, cy) (iMI S cx cy) (lX10_unpackIfPossible_41 S μ x0) := by
  unfold lX10_unpackIfPossible_41
  refine x_aload_n (pc := 41) dX10_unpackIfPossible_41 (i := 0) rfl rfl ?_
  refine x_gR (pc := 42) (k := 8) fcX10 dX10_unpackIfPossible_42 q44 (by decide) rfl (fun v7 => ?_)
  refine x_gI (pc := 45) (k := 2) fcX8 dX10_unpackIfPossible_45 q459 (by decide) rfl (fun v8 => ?_)
  exact x_iret rfl dX10_unpackIfPossible_48 rfl rfl
set_option maxHeartbeats 4000000 in
theorem xbX10_unpackIfPossible {n0 c0 s0 cx cy : Nat} {S : mSh} {μ : mMm} (o : Nat) : mX MX10_unpackIfPossible n0 c0 s0 0 [some (.ref o)] [] (S, μ, cx, cy) (iMI S cx cy) (bX10_unpackIfPossible S μ o) := by
  unfold bX10_unpackIfPossible
  refine x_aload_n (pc := 0) dX10_unpackIfPossible_0 (i := 0) rfl rfl ?_
  refine x_gR (pc := 1) (k := 8) fcX10 dX10_unpackIfPossible_1 q44 (by decide) rfl (fun v1 => ?_)
  refine x_aload_n (pc := 4) dX10_unpackIfPossible_4 (i := 0) rfl rfl ?_
  refine x_gR (pc := 5) (k := 0) fcX10 dX10_unpackIfPossible_5 q16 (by decide) rfl (fun v2 => ?_)
  refine x_gR (pc := 8) (k := 1) fcX7 dX10_unpackIfPossible_8 q344 (by decide) rfl (fun v3 => ?_)
  refine x_callVv (pc := 11) (As := [.ref v3]) (rest := []) (μf := fun a => a) fcX8 (mX8_run S μ cx cy v1 v3) (fun _ => rfl) rfl (fun _ h => ifok h) dX10_unpackIfPossible_11 q461 kX8_run rfl ⟨by decide, by decide⟩ rfl (Nat.le_of_ble_eq_true rfl) (fun m4 => ?_)
  refine x_aload_n (pc := 14) dX10_unpackIfPossible_14 (i := 0) rfl rfl ?_
  refine x_gR (pc := 15) (k := 8) fcX10 dX10_unpackIfPossible_15 q44 (by decide) rfl (fun v5 => ?_)
  refine x_gI (pc := 18) (k := 2) fcX8 dX10_unpackIfPossible_18 q459 (by decide) rfl (fun v6 => ?_)
  refine x_if_ne (pc := 21) (tgt := 41) dX10_unpackIfPossible_21 (by decide) ?_ ?_
  · refine x_aload_n (pc := 24) dX10_unpackIfPossible_24 (i := 0) rfl rfl ?_
    refine x_gR (pc := 25) (k := 0) fcX10 dX10_unpackIfPossible_25 q16 (by decide) rfl (fun v9 => ?_)
    refine x_gR (pc := 28) (k := 0) fcX7 dX10_unpackIfPossible_28 q30 (by decide) rfl (fun v10 => ?_)
    refine x_aload_n (pc := 31) dX10_unpackIfPossible_31 (i := 0) rfl rfl ?_
    refine x_gR (pc := 32) (k := 8) fcX10 dX10_unpackIfPossible_32 q44 (by decide) rfl (fun v11 => ?_)
    refine x_gR (pc := 35) (k := 0) fcX8 dX10_unpackIfPossible_35 q460 (by decide) rfl (fun v12 => ?_)
    refine x_callVv (pc := 38) (As := [.ref v12]) (rest := []) (μf := fun a => a) fcX2 (mX2_copyFrom S m4 cx cy v10 v12) (fun _ => rfl) rfl (fun _ h => ifok h) dX10_unpackIfPossible_38 q484 kX2_copyFrom rfl ⟨by decide, by decide⟩ rfl (Nat.le_of_ble_eq_true rfl) (fun m13 => ?_)
    exact xX10_unpackIfPossible_41 m13 o 
  · exact xX10_unpackIfPossible_41 m4 o
theorem mX10_unpackIfPossible (S : mSh) (μ : mMm) (cx cy : Nat) (o : Nat) : mMet MX10_unpackIfPossible [.ref o] (S, μ, cx, cy) (iMI S cx cy) (fX10_unpackIfPossible S μ o) := mMet.of rfl (by decide) rfl (fun h => by cases h) (Nat.le_of_ble_eq_true rfl) (mX.ck (fun _ => xbX10_unpackIfPossible o))
/-! SlideMills.putToken(II)I -/
def bX10_putToken (S : mSh) (μ : mMm) (o : Nat) (p0 : Int32) (p1 : Int32) : Option (Int32 × mMm) := (gR S o 10 0).bind fun v1 => (gR S v1 7 1).bind fun v2 => (fX5_isFull S μ v2).bind fun v3 => if v3 = 0 then ((gR S o 10 0).bind fun v4 => (gR S v4 7 1).bind fun v5 => (fX5_put S μ v5 p0 p1).bind fun m6 => some ((0 : Int32), m6)) else (some ((4 : Int32), μ))
def fX10_putToken (S : mSh) (μ : mMm) (o : Nat) (p0 : Int32) (p1 : Int32) : Option (Int32 × mMm) := if mok S o 10 = true then bX10_putToken S μ o p0 p1 else none
abbrev MX10_putToken : mM := ((yX10_putToken, cX10_putToken, 3, (some .int)), (1, 22), (false, false), RX10, eT)
theorem kX10_putToken : mCalV MX10_putToken RX10 2 := ⟨q682, q683, q2, q684, by decide +kernel⟩
set_option maxHeartbeats 4000000 in
theorem xbX10_putToken {n0 c0 s0 cx cy : Nat} {S : mSh} {μ : mMm} (o : Nat) (p0 : Int32) (p1 : Int32) : mX MX10_putToken n0 c0 s0 0 [some (.ref o), some (.int p0), some (.int p1)] [] (S, μ, cx, cy) (iMI S cx cy) (bX10_putToken S μ o p0 p1) := by
  unfold bX10_putToken
  refine x_aload_n (pc := 0) dX10_putToken_0 (i := 0) rfl rfl ?_
  refine x_gR (pc := 1) (k := 0) fcX10 dX10_putToken_1 q16 (by decide) rfl (fun v1 => ?_)
  refine x_gR (pc := 4) (k := 1) fcX7 dX10_putToken_4 q344 (by decide) rfl (fun v2 => ?_)
  refine x_callVi (pc := 7) (As := []) (rest := []) (vx := fun a => a) (μf := fun _ => μ) fcX5 (mX5_isFull S μ cx cy v2) (fun _ => rfl) rfl (fun _ h => ifok h) dX10_putToken_7 q515 kX5_isFull rfl ⟨by decide, by decide⟩ rfl (Nat.le_of_ble_eq_true rfl) (fun v3 => ?_)
  refine x_if_eq (pc := 10) (tgt := 15) dX10_putToken_10 (by decide) ?_ ?_
  · refine x_aload_n (pc := 15) dX10_putToken_15 (i := 0) rfl rfl ?_
    refine x_gR (pc := 16) (k := 0) fcX10 dX10_putToken_16 q16 (by decide) rfl (fun v4 => ?_)
    refine x_gR (pc := 19) (k := 1) fcX7 dX10_putToken_19 q344 (by decide) rfl (fun v5 => ?_)
    refine x_iload_n (pc := 22) dX10_putToken_22 (i := 1) rfl rfl ?_
    refine x_iload_n (pc := 23) dX10_putToken_23 (i := 2) rfl rfl ?_
    refine x_callVv (pc := 24) (As := [.int p0, .int p1]) (rest := []) (μf := fun a => a) fcX5 (mX5_put S μ cx cy v5 p0 p1) (fun _ => rfl) rfl (fun _ h => ifok h) dX10_putToken_24 q519 kX5_put rfl ⟨by decide, by decide⟩ rfl (Nat.le_of_ble_eq_true rfl) (fun m6 => ?_)
    refine x_iconst (pc := 27) (v := 0) dX10_putToken_27 (by decide) ?_
    exact x_iret rfl dX10_putToken_28 rfl rfl
  · refine x_iconst (pc := 13) (v := 4) dX10_putToken_13 (by decide) ?_
    exact x_iret rfl dX10_putToken_14 rfl rfl
theorem mX10_putToken (S : mSh) (μ : mMm) (cx cy : Nat) (o : Nat) (p0 : Int32) (p1 : Int32) : mMet MX10_putToken [.ref o, .int p0, .int p1] (S, μ, cx, cy) (iMI S cx cy) (fX10_putToken S μ o p0 p1) := mMet.of rfl (by decide) rfl (fun h => by cases h) (Nat.le_of_ble_eq_true rfl) (mX.ck (fun _ => xbX10_putToken o p0 p1))
/-! SlideMills.doPart(I)I -/
def bX10_doPart (S : mSh) (μ : mMm) (o : Nat) (p0 : Int32) : Option (Int32 × mMm) := (gR S o 10 4).bind fun v1 => (fX9_codeAt S μ v1 p0).bind fun v2 => if v2.toInt = 43 then ((gR S o 10 4).bind fun v3 => (fX9_endOfPart S μ v3 p0).bind fun v4 => (fX10_putLetters S μ o (p0 + (1 : Int32)) v4).bind fun r5 => some (r5.1, r5.2)) else (if v2.toInt = 45 then ((gR S o 10 0).bind fun v6 => (gR S v6 7 0).bind fun v7 => (fX2_clear S μ v7).bind fun m8 => some ((0 : Int32), m8)) else (if v2.toInt = 101 then ((gR S o 10 0).bind fun v9 => (gR S v9 7 1).bind fun v10 => (fX5_clear S μ v10).bind fun m11 => some ((0 : Int32), m11)) else (if v2.toInt = 108 then ((gR S o 10 4).bind fun v12 => (fX9_codeAt S μ v12 (p0 + (1 : Int32))).bind fun v13 => (fX10_putToken S μ o (0 : Int32) (v13 - (97 : Int32))).bind fun r14 => some (r14.1, r14.2)) else (if v2.toInt = 112 then ((gR S o 10 6).bind fun v15 => (gR S o 10 4).bind fun v16 => (fX9_codeAt S μ v16 (p0 + (1 : Int32))).bind fun v17 => (gR S o 10 0).bind fun v18 => (gR S v18 7 1).bind fun v19 => (fX4_packBy S μ v15 (v17 - (48 : Int32)) v19).bind fun m20 => some ((0 : Int32), m20)) else (if v2.toInt = 114 then ((gR S o 10 4).bind fun v21 => (fX9_endOfNumber S μ v21 (p0 + (1 : Int32))).bind fun v22 => (gR S o 10 4).bind fun v23 => (fX9_number S μ v23 (p0 + (1 : Int32))).bind fun v24 => (gR S o 10 4).bind fun v25 => (fX9_number S μ v25 (v22 + (1 : Int32))).bind fun v26 => (fX10_putToken S μ o v24 v26).bind fun r27 => some (r27.1, r27.2)) else (if v2.toInt = 117 then ((fX10_unpackIfPossible S μ o).bind fun r28 => some (r28.1, r28.2)) else (some ((0 : Int32), μ))))))))
def fX10_doPart (S : mSh) (μ : mMm) (o : Nat) (p0 : Int32) : Option (Int32 × mMm) := if mok S o 10 = true then bX10_doPart S μ o p0 else none
abbrev MX10_doPart : mM := ((yX10_doPart, cX10_doPart, 3, (some .int)), (6, 141), (false, false), RX10, eT)
theorem kX10_doPart : mCalV MX10_doPart RX10 1 := ⟨q665, q666, q2, q667, by decide +kernel⟩
set_option maxHeartbeats 4000000 in
theorem xbX10_doPart {n0 c0 s0 cx cy : Nat} {S : mSh} {μ : mMm} (o : Nat) (p0 : Int32) : mX MX10_doPart n0 c0 s0 0 [some (.ref o), some (.int p0), none] [] (S, μ, cx, cy) (iMI S cx cy) (bX10_doPart S μ o p0) := by
  unfold bX10_doPart
  refine x_aload_n (pc := 0) dX10_doPart_0 (i := 0) rfl rfl ?_
  refine x_gR (pc := 1) (k := 4) fcX10 dX10_doPart_1 q26 (by decide) rfl (fun v1 => ?_)
  refine x_iload_n (pc := 4) dX10_doPart_4 (i := 1) rfl rfl ?_
  refine x_callVi (pc := 5) (As := [.int p0]) (rest := []) (vx := fun a => a) (μf := fun _ => μ) fcX9 (mX9_codeAt S μ cx cy v1 p0) (fun _ => rfl) rfl (fun _ h => ifok h) dX10_doPart_5 q668 kX9_codeAt rfl ⟨by decide, by decide⟩ rfl (Nat.le_of_ble_eq_true rfl) (fun v2 => ?_)
  refine mX.ite (fun h43 => ?_) (fun h43 => ?_)
  · refine x_lookup (pc := 8) (tgt := 76) (off := 68) dX10_doPart_8 (by decide) (by rw [h43]; rfl) (by decide) ?_
    refine x_aload_n (pc := 76) dX10_doPart_76 (i := 0) rfl rfl ?_
    refine x_iload_n (pc := 77) dX10_doPart_77 (i := 1) rfl rfl ?_
    refine x_iconst (pc := 78) (v := 1) dX10_doPart_78 (by decide) ?_
    refine x_iadd (pc := 79) dX10_doPart_79 ?_
    refine x_aload_n (pc := 80) dX10_doPart_80 (i := 0) rfl rfl ?_
    refine x_gR (pc := 81) (k := 4) fcX10 dX10_doPart_81 q26 (by decide) rfl (fun v3 => ?_)
    refine x_iload_n (pc := 84) dX10_doPart_84 (i := 1) rfl rfl ?_
    refine x_callVi (pc := 85) (As := [.int p0]) (rest := [.int (p0 + (1 : Int32)), .ref o]) (vx := fun a => a) (μf := fun _ => μ) fcX9 (mX9_endOfPart S μ cx cy v3 p0) (fun _ => rfl) rfl (fun _ h => ifok h) dX10_doPart_85 q669 kX9_endOfPart rfl ⟨by decide, by decide⟩ rfl (Nat.le_of_ble_eq_true rfl) (fun v4 => ?_)
    refine x_callVi (pc := 88) (As := [.int (p0 + (1 : Int32)), .int v4]) (rest := []) (vx := fun a => a.1) (μf := fun a => a.2) fcX10 (mX10_putLetters S μ cx cy o (p0 + (1 : Int32)) v4) (fun _ => rfl) rfl (fun _ h => ifok h) dX10_doPart_88 q673 kX10_putLetters rfl ⟨by decide, by decide⟩ rfl (Nat.le_of_ble_eq_true rfl) (fun r5 => ?_)
    exact x_iret rfl dX10_doPart_91 rfl rfl
  · refine mX.ite (fun h45 => ?_) (fun h45 => ?_)
    · refine x_lookup (pc := 8) (tgt := 92) (off := 84) dX10_doPart_8 (by decide) (by rw [h45]; rfl) (by decide) ?_
      refine x_aload_n (pc := 92) dX10_doPart_92 (i := 0) rfl rfl ?_
      refine x_gR (pc := 93) (k := 0) fcX10 dX10_doPart_93 q16 (by decide) rfl (fun v6 => ?_)
      refine x_gR (pc := 96) (k := 0) fcX7 dX10_doPart_96 q30 (by decide) rfl (fun v7 => ?_)
      refine x_callVv (pc := 99) (As := []) (rest := []) (μf := fun a => a) fcX2 (mX2_clear S μ cx cy v7) (fun _ => rfl) rfl (fun _ h => ifok h) dX10_doPart_99 q254 kX2_clear rfl ⟨by decide, by decide⟩ rfl (Nat.le_of_ble_eq_true rfl) (fun m8 => ?_)
      refine x_iconst (pc := 102) (v := 0) dX10_doPart_102 (by decide) ?_
      exact x_iret rfl dX10_doPart_103 rfl rfl
    · refine mX.ite (fun h101 => ?_) (fun h101 => ?_)
      · refine x_lookup (pc := 8) (tgt := 138) (off := 130) dX10_doPart_8 (by decide) (by rw [h101]; rfl) (by decide) ?_
        refine x_aload_n (pc := 138) dX10_doPart_138 (i := 0) rfl rfl ?_
        refine x_gR (pc := 139) (k := 0) fcX10 dX10_doPart_139 q16 (by decide) rfl (fun v9 => ?_)
        refine x_gR (pc := 142) (k := 1) fcX7 dX10_doPart_142 q344 (by decide) rfl (fun v10 => ?_)
        refine x_callVv (pc := 145) (As := []) (rest := []) (μf := fun a => a) fcX5 (mX5_clear S μ cx cy v10) (fun _ => rfl) rfl (fun _ h => ifok h) dX10_doPart_145 q554 kX5_clear rfl ⟨by decide, by decide⟩ rfl (Nat.le_of_ble_eq_true rfl) (fun m11 => ?_)
        refine x_iconst (pc := 148) (v := 0) dX10_doPart_148 (by decide) ?_
        exact x_iret rfl dX10_doPart_149 rfl rfl
      · refine mX.ite (fun h108 => ?_) (fun h108 => ?_)
        · refine x_lookup (pc := 8) (tgt := 150) (off := 142) dX10_doPart_8 (by decide) (by rw [h108]; rfl) (by decide) ?_
          refine x_aload_n (pc := 150) dX10_doPart_150 (i := 0) rfl rfl ?_
          refine x_iconst (pc := 151) (v := 0) dX10_doPart_151 (by decide) ?_
          refine x_aload_n (pc := 152) dX10_doPart_152 (i := 0) rfl rfl ?_
          refine x_gR (pc := 153) (k := 4) fcX10 dX10_doPart_153 q26 (by decide) rfl (fun v12 => ?_)
          refine x_iload_n (pc := 156) dX10_doPart_156 (i := 1) rfl rfl ?_
          refine x_iconst (pc := 157) (v := 1) dX10_doPart_157 (by decide) ?_
          refine x_iadd (pc := 158) dX10_doPart_158 ?_
          refine x_callVi (pc := 159) (As := [.int (p0 + (1 : Int32))]) (rest := [.int (0 : Int32), .ref o]) (vx := fun a => a) (μf := fun _ => μ) fcX9 (mX9_codeAt S μ cx cy v12 (p0 + (1 : Int32))) (fun _ => rfl) rfl (fun _ h => ifok h) dX10_doPart_159 q668 kX9_codeAt rfl ⟨by decide, by decide⟩ rfl (Nat.le_of_ble_eq_true rfl) (fun v13 => ?_)
          refine x_bipush (pc := 162) (v := 97) dX10_doPart_162 (by decide) ?_
          refine x_isub (pc := 164) dX10_doPart_164 ?_
          refine x_callVi (pc := 165) (As := [.int (0 : Int32), .int (v13 - (97 : Int32))]) (rest := []) (vx := fun a => a.1) (μf := fun a => a.2) fcX10 (mX10_putToken S μ cx cy o (0 : Int32) (v13 - (97 : Int32))) (fun _ => rfl) rfl (fun _ h => ifok h) dX10_doPart_165 q681 kX10_putToken rfl ⟨by decide, by decide⟩ rfl (Nat.le_of_ble_eq_true rfl) (fun r14 => ?_)
          exact x_iret rfl dX10_doPart_168 rfl rfl
        · refine mX.ite (fun h112 => ?_) (fun h112 => ?_)
          · refine x_lookup (pc := 8) (tgt := 104) (off := 96) dX10_doPart_8 (by decide) (by rw [h112]; rfl) (by decide) ?_
            refine x_aload_n (pc := 104) dX10_doPart_104 (i := 0) rfl rfl ?_
            refine x_gR (pc := 105) (k := 6) fcX10 dX10_doPart_105 q36 (by decide) rfl (fun v15 => ?_)
            refine x_aload_n (pc := 108) dX10_doPart_108 (i := 0) rfl rfl ?_
            refine x_gR (pc := 109) (k := 4) fcX10 dX10_doPart_109 q26 (by decide) rfl (fun v16 => ?_)
            refine x_iload_n (pc := 112) dX10_doPart_112 (i := 1) rfl rfl ?_
            refine x_iconst (pc := 113) (v := 1) dX10_doPart_113 (by decide) ?_
            refine x_iadd (pc := 114) dX10_doPart_114 ?_
            refine x_callVi (pc := 115) (As := [.int (p0 + (1 : Int32))]) (rest := [.ref v15]) (vx := fun a => a) (μf := fun _ => μ) fcX9 (mX9_codeAt S μ cx cy v16 (p0 + (1 : Int32))) (fun _ => rfl) rfl (fun _ h => ifok h) dX10_doPart_115 q668 kX9_codeAt rfl ⟨by decide, by decide⟩ rfl (Nat.le_of_ble_eq_true rfl) (fun v17 => ?_)
            refine x_bipush (pc := 118) (v := 48) dX10_doPart_118 (by decide) ?_
            refine x_isub (pc := 120) dX10_doPart_120 ?_
            refine x_aload_n (pc := 121) dX10_doPart_121 (i := 0) rfl rfl ?_
            refine x_gR (pc := 122) (k := 0) fcX10 dX10_doPart_122 q16 (by decide) rfl (fun v18 => ?_)
            refine x_gR (pc := 125) (k := 1) fcX7 dX10_doPart_125 q344 (by decide) rfl (fun v19 => ?_)
            refine x_callVv (pc := 128) (As := [.int (v17 - (48 : Int32)), .ref v19]) (rest := []) (μf := fun a => a) fcX4 (mX4_packBy S μ cx cy v15 (v17 - (48 : Int32)) v19) (fun _ => rfl) rfl (fun _ h => ifok h) dX10_doPart_128 q349 kX4_packBy rfl ⟨by decide, by decide⟩ rfl (Nat.le_of_ble_eq_true rfl) (fun m20 => ?_)
            refine x_iconst (pc := 131) (v := 0) dX10_doPart_131 (by decide) ?_
            exact x_iret rfl dX10_doPart_132 rfl rfl
          · refine mX.ite (fun h114 => ?_) (fun h114 => ?_)
            · refine x_lookup (pc := 8) (tgt := 169) (off := 161) dX10_doPart_8 (by decide) (by rw [h114]; rfl) (by decide) ?_
              refine x_aload_n (pc := 169) dX10_doPart_169 (i := 0) rfl rfl ?_
              refine x_gR (pc := 170) (k := 4) fcX10 dX10_doPart_170 q26 (by decide) rfl (fun v21 => ?_)
              refine x_iload_n (pc := 173) dX10_doPart_173 (i := 1) rfl rfl ?_
              refine x_iconst (pc := 174) (v := 1) dX10_doPart_174 (by decide) ?_
              refine x_iadd (pc := 175) dX10_doPart_175 ?_
              refine x_callVi (pc := 176) (As := [.int (p0 + (1 : Int32))]) (rest := []) (vx := fun a => a) (μf := fun _ => μ) fcX9 (mX9_endOfNumber S μ cx cy v21 (p0 + (1 : Int32))) (fun _ => rfl) rfl (fun _ h => ifok h) dX10_doPart_176 q685 kX9_endOfNumber rfl ⟨by decide, by decide⟩ rfl (Nat.le_of_ble_eq_true rfl) (fun v22 => ?_)
              refine x_istore_n (pc := 179) dX10_doPart_179 (i := 2) rfl (by decide) (l' := [some (.ref o), some (.int p0), some (.int v22)]) rfl ?_
              refine x_aload_n (pc := 180) dX10_doPart_180 (i := 0) rfl rfl ?_
              refine x_aload_n (pc := 181) dX10_doPart_181 (i := 0) rfl rfl ?_
              refine x_gR (pc := 182) (k := 4) fcX10 dX10_doPart_182 q26 (by decide) rfl (fun v23 => ?_)
              refine x_iload_n (pc := 185) dX10_doPart_185 (i := 1) rfl rfl ?_
              refine x_iconst (pc := 186) (v := 1) dX10_doPart_186 (by decide) ?_
              refine x_iadd (pc := 187) dX10_doPart_187 ?_
              refine x_callVi (pc := 188) (As := [.int (p0 + (1 : Int32))]) (rest := [.ref o]) (vx := fun a => a) (μf := fun _ => μ) fcX9 (mX9_number S μ cx cy v23 (p0 + (1 : Int32))) (fun _ => rfl) rfl (fun _ h => ifok h) dX10_doPart_188 q689 kX9_number rfl ⟨by decide, by decide⟩ rfl (Nat.le_of_ble_eq_true rfl) (fun v24 => ?_)
              refine x_aload_n (pc := 191) dX10_doPart_191 (i := 0) rfl rfl ?_
              refine x_gR (pc := 192) (k := 4) fcX10 dX10_doPart_192 q26 (by decide) rfl (fun v25 => ?_)
              refine x_iload_n (pc := 195) dX10_doPart_195 (i := 2) rfl rfl ?_
              refine x_iconst (pc := 196) (v := 1) dX10_doPart_196 (by decide) ?_
              refine x_iadd (pc := 197) dX10_doPart_197 ?_
              refine x_callVi (pc := 198) (As := [.int (v22 + (1 : Int32))]) (rest := [.int v24, .ref o]) (vx := fun a => a) (μf := fun _ => μ) fcX9 (mX9_number S μ cx cy v25 (v22 + (1 : Int32))) (fun _ => rfl) rfl (fun _ h => ifok h) dX10_doPart_198 q689 kX9_number rfl ⟨by decide, by decide⟩ rfl (Nat.le_of_ble_eq_true rfl) (fun v26 => ?_)
              refine x_callVi (pc := 201) (As := [.int v24, .int v26]) (rest := []) (vx := fun a => a.1) (μf := fun a => a.2) fcX10 (mX10_putToken S μ cx cy o v24 v26) (fun _ => rfl) rfl (fun _ h => ifok h) dX10_doPart_201 q681 kX10_putToken rfl ⟨by decide, by decide⟩ rfl (Nat.le_of_ble_eq_true rfl) (fun r27 => ?_)
              exact x_iret rfl dX10_doPart_204 rfl rfl
            · refine mX.ite (fun h117 => ?_) (fun h117 => ?_)
              · refine x_lookup (pc := 8) (tgt := 133) (off := 125) dX10_doPart_8 (by decide) (by rw [h117]; rfl) (by decide) ?_
                refine x_aload_n (pc := 133) dX10_doPart_133 (i := 0) rfl rfl ?_
                refine x_callVi (pc := 134) (As := []) (rest := []) (vx := fun a => a.1) (μf := fun a => a.2) fcX10 (mX10_unpackIfPossible S μ cx cy o) (fun _ => rfl) rfl (fun _ h => ifok h) dX10_doPart_134 q677 kX10_unpackIfPossible rfl ⟨by decide, by decide⟩ rfl (Nat.le_of_ble_eq_true rfl) (fun r28 => ?_)
                exact x_iret rfl dX10_doPart_137 rfl rfl
              · refine x_lookup (pc := 8) (tgt := 205) (off := 197) dX10_doPart_8 (by decide) (by simp [Op.lookupswitch.offset, h43, h45, h101, h108, h112, h114, h117, Ne.symm h43, Ne.symm h45, Ne.symm h101, Ne.symm h108, Ne.symm h112, Ne.symm h114, Ne.symm h117]) (by decide) ?_
                refine x_iconst (pc := 205) (v := 0) dX10_doPart_205 (by decide) ?_
                exact x_iret rfl dX10_doPart_206 rfl rfl
theorem mX10_doPart (S : mSh) (μ : mMm) (cx cy : Nat) (o : Nat) (p0 : Int32) : mMet MX10_doPart [.ref o, .int p0] (S, μ, cx, cy) (iMI S cx cy) (fX10_doPart S μ o p0) := mMet.of rfl (by decide) rfl (fun h => by cases h) (Nat.le_of_ble_eq_true rfl) (mX.ck (fun _ => xbX10_doPart o p0))
/-! SlideMills.work()I -/
def lX10_work_113 (S : mSh) (μ : mMm) (x0 : Nat) (x1 : Int32) (t0 : Int32) (t1 : Nat) : Option ((Int32 ⊕ Nat) × mMm) := (pI S μ t1 7 3 t0).bind fun m9 => (gR S x0 10 4).bind fun v10 => (fX9_clear S m9 v10).bind fun m11 => some (.inl x1, m11)
def lX10_work_92 (S : mSh) (μ : mMm) (x0 : Nat) (x1 : Int32) (x2 : Int32) : Option ((Int32 ⊕ Nat) × mMm) := (gR S x0 10 0).bind fun v6 => (pI S μ v6 7 4 x2).bind fun m7 => (gR S x0 10 0).bind fun v8 => if x2 = 0 then (lX10_work_113 S m7 x0 x1 (0 : Int32) v8) else (lX10_work_113 S m7 x0 x1 x1 v8)
def lX10_work_86 (k40 : mMm → Nat → Int32 → Int32 → Int32 → Int32 → Option ((Int32 ⊕ Nat) × mMm)) (S : mSh) (μ : mMm) (x0 : Nat) (x1 : Int32) (x2 : Int32) (x3 : Int32) (x4 : Int32) : Option ((Int32 ⊕ Nat) × mMm) := k40 μ x0 x1 x2 x3 (x4 + (1 : Int32))
def lX10_work_40 (S : mSh) : Nat → mMm → Nat → Int32 → Int32 → Int32 → Int32 → Option ((Int32 ⊕ Nat) × mMm)
  | 0, _, _, _, _, _, _ => none
  | n + 1, μ, x0, x1, x2, x3, x4 => if (60 : Int32) ≤ x4 then (lX10_work_92 S μ x0 x1 x2) else ((gR S x0 10 4).bind fun v12 => (gI S μ v12 9 1).bind fun v13 => if v13 ≤ x3 then (lX10_work_92 S μ x0 x1 x2) else (if x2 = 0 then ((fX10_doPart S μ x0 x3).bind fun r14 => if r14.1 = 0 then ((gR S x0 10 4).bind fun v15 => (fX9_endOfPart S r14.2 v15 x3).bind fun v16 => lX10_work_86 (lX10_work_40 S n) S r14.2 x0 (x1 + (1 : Int32)) r14.1 (v16 + (1 : Int32)) x4) else (lX10_work_86 (lX10_work_40 S n) S r14.2 x0 x1 r14.1 x3 x4)) else (lX10_work_92 S μ x0 x1 x2)))
def bX10_work (S : mSh) (μ : mMm) (o : Nat) : Option ((Int32 ⊕ Nat) × mMm) := (gR S o 10 4).bind fun v1 => (fX9_isComplete S μ v1).bind fun v2 => if v2 = 0 then (some (.inr 0, μ)) else ((gR S o 10 3).bind fun v3 => (gR S o 10 0).bind fun v4 => (fX1_push S μ v3 v4).bind fun m5 => lX10_work_40 S FU m5 o (0 : Int32) (0 : Int32) (0 : Int32) (0 : Int32))
def fX10_work (S : mSh) (μ : mMm) (o : Nat) : Option ((Int32 ⊕ Nat) × mMm) := if mok S o 10 = true then bX10_work S μ o else none
abbrev MX10_work : mM := ((yX10_work, cX10_work, 5, (some .int)), (7, 163), (false, false), RX10, eT)
theorem kX10_work : mCalV MX10_work RX10 0 := ⟨q655, q656, q2, q657, by decide +kernel⟩
set_option maxHeartbeats 4000000 in
theorem xX10_work_113 {n0 c0 s0 cx cy : Nat} {S : mSh} (μ : mMm) (x0 : Nat) (x1 : Int32) (t0 : Int32) (t1 : Nat) (d2 : Option Value) (d3 : Option Value) (d4 : Option Value) : mX MX10_work n0 c0 s0 113 [some (.ref x0), some (.int x1), d2, d3, d4] [.int t0, .ref t1] (S, μ, cx, cy) (iTI S cx cy) (lX10_work_113 S μ x0 x1 t0 t1) := by
  unfold lX10_work_113
  refine x_pI (pc := 113) (k := 3) fcX7 dX10_work_113 q659 (by decide) rfl rfl rfl rfl (fun m9 => ?_)
  refine x_aload_n (pc := 116) dX10_work_116 (i := 0) rfl rfl ?_
  refine x_gR (pc := 117) (k := 4) fcX10 dX10_work_117 q26 (by decide) rfl (fun v10 => ?_)
  refine x_callVv (pc := 120) (As := []) (rest := []) (μf := fun a => a) fcX9 (mX9_clear S m9 cx cy v10) (fun _ => rfl) rfl (fun _ h => ifok h) dX10_work_120 q580 kX9_clear rfl ⟨by decide, by decide⟩ rfl (Nat.le_of_ble_eq_true rfl) (fun m11 => ?_)
  refine x_iload_n (pc := 123) dX10_work_123 (i := 1) rfl rfl ?_
  exact x_iret rfl dX10_work_124 rfl rfl
set_option maxHeartbeats 4000000 in
theorem xX10_work_92 {n0 c0 s0 cx cy : Nat} {S : mSh} (μ : mMm) (x0 : Nat) (x1 : Int32) (x2 : Int32) (d3 : Option Value) (d4 : Option Value) : mX MX10_work n0 c0 s0 92 [some (.ref x0), some (.int x1), some (.int x2), d3, d4] [] (S, μ, cx, cy) (iTI S cx cy) (lX10_work_92 S μ x0 x1 x2) := by
  unfold lX10_work_92
  refine x_aload_n (pc := 92) dX10_work_92 (i := 0) rfl rfl ?_
  refine x_gR (pc := 93) (k := 0) fcX10 dX10_work_93 q16 (by decide) rfl (fun v6 => ?_)
  refine x_iload_n (pc := 96) dX10_work_96 (i := 2) rfl rfl ?_
  refine x_pI (pc := 97) (k := 4) fcX7 dX10_work_97 q658 (by decide) rfl rfl rfl rfl (fun m7 => ?_)
  refine x_aload_n (pc := 100) dX10_work_100 (i := 0) rfl rfl ?_
  refine x_gR (pc := 101) (k := 0) fcX10 dX10_work_101 q16 (by decide) rfl (fun v8 => ?_)
  refine x_iload_n (pc := 104) dX10_work_104 (i := 2) rfl rfl ?_
  refine x_if_ne (pc := 105) (tgt := 112) dX10_work_105 (by decide) ?_ ?_
  · refine x_iconst (pc := 108) (v := 0) dX10_work_108 (by decide) ?_
    refine x_goto (pc := 109) (tgt := 113) dX10_work_109 (by decide) ?_
    exact xX10_work_113 m7 x0 x1 (0 : Int32) v8 _ _ _
  · refine x_iload_n (pc := 112) dX10_work_112 (i := 1) rfl rfl ?_
    exact xX10_work_113 m7 x0 x1 x1 v8 _ _ _
set_option maxHeartbeats 4000000 in
theorem xX10_work_86 {n0 c0 s0 cx cy : Nat} {S : mSh} {k40 : mMm → Nat → Int32 → Int32 → Int32 → Int32 → Option ((Int32 ⊕ Nat) × mMm)} (hk40 : ∀ (μ : mMm) (x0 : Nat) (x1 : Int32) (x2 : Int32) (x3 : Int32) (x4 : Int32), mX MX10_work n0 c0 s0 40 [some (.ref x0), some (.int x1), some (.int x2), some (.int x3), some (.int x4)] [] (S, μ, cx, cy) (iTI S cx cy) (k40 μ x0 x1 x2 x3 x4)) (μ : mMm) (x0 : Nat) (x1 : Int32) (x2 : Int32) (x3 : Int32) (x4 : Int32) : mX MX10_work n0 c0 s0 86 [some (.ref x0), some (.int x1), some (.int x2), some (.int x3), some (.int x4)] [] (S, μ, cx, cy) (iTI S cx cy) (lX10_work_86 k40 S μ x0 x1 x2 x3 x4) := by
  unfold lX10_work_86
  refine x_iinc (pc := 86) (v := x4 + (1 : Int32)) dX10_work_86 rfl (by rw [show Int32.ofInt (1) = (1 : Int32) from by decide]) (by decide) (l' := [some (.ref x0), some (.int x1), some (.int x2), some (.int x3), some (.int (x4 + (1 : Int32)))]) rfl ?_
  refine x_goto (pc := 89) (tgt := 40) dX10_work_89 (by decide) ?_
  exact hk40 μ x0 x1 x2 x3 (x4 + (1 : Int32)) 
set_option maxHeartbeats 4000000 in
theorem xX10_work_40 {n0 c0 s0 cx cy : Nat} {S : mSh} : ∀ (n : Nat) (μ : mMm) (x0 : Nat) (x1 : Int32) (x2 : Int32) (x3 : Int32) (x4 : Int32), mX MX10_work n0 c0 s0 40 [some (.ref x0), some (.int x1), some (.int x2), some (.int x3), some (.int x4)] [] (S, μ, cx, cy) (iTI S cx cy) (lX10_work_40 S n μ x0 x1 x2 x3 x4) := by
  intro n
  induction n with
  | zero => intros; exact x_none
  | succ n ih =>
    intro μ x0 x1 x2 x3 x4
    unfold lX10_work_40
    refine x_iload (pc := 40) dX10_work_40 rfl ?_
    refine x_bipush (pc := 42) (v := 60) dX10_work_42 (by decide) ?_
    refine x_icmp_ge (pc := 44) (tgt := 92) dX10_work_44 (by decide) ?_ ?_
    · exact xX10_work_92 μ x0 x1 x2 _ _
    · refine x_iload_n (pc := 47) dX10_work_47 (i := 3) rfl rfl ?_
      refine x_aload_n (pc := 48) dX10_work_48 (i := 0) rfl rfl ?_
      refine x_gR (pc := 49) (k := 4) fcX10 dX10_work_49 q26 (by decide) rfl (fun v12 => ?_)
      refine x_gI (pc := 52) (k := 1) fcX9 dX10_work_52 q566 (by decide) rfl (fun v13 => ?_)
      refine x_icmp_ge (pc := 55) (tgt := 92) dX10_work_55 (by decide) ?_ ?_
      · exact xX10_work_92 μ x0 x1 x2 _ _
      · refine x_iload_n (pc := 58) dX10_work_58 (i := 2) rfl rfl ?_
        refine x_if_ne (pc := 59) (tgt := 92) dX10_work_59 (by decide) ?_ ?_
        · refine x_aload_n (pc := 62) dX10_work_62 (i := 0) rfl rfl ?_
          refine x_iload_n (pc := 63) dX10_work_63 (i := 3) rfl rfl ?_
          refine x_callVi (pc := 64) (As := [.int x3]) (rest := []) (vx := fun a => a.1) (μf := fun a => a.2) fcX10 (mX10_doPart S μ cx cy x0 x3) (fun _ => rfl) rfl (fun _ h => ifok h) dX10_work_64 q664 kX10_doPart rfl ⟨by decide, by decide⟩ rfl (Nat.le_of_ble_eq_true rfl) (fun r14 => ?_)
          refine x_istore_n (pc := 67) dX10_work_67 (i := 2) rfl (by decide) (l' := [some (.ref x0), some (.int x1), some (.int r14.1), some (.int x3), some (.int x4)]) rfl ?_
          refine x_iload_n (pc := 68) dX10_work_68 (i := 2) rfl rfl ?_
          refine x_if_ne (pc := 69) (tgt := 86) dX10_work_69 (by decide) ?_ ?_
          · refine x_iinc (pc := 72) (v := x1 + (1 : Int32)) dX10_work_72 rfl (by rw [show Int32.ofInt (1) = (1 : Int32) from by decide]) (by decide) (l' := [some (.ref x0), some (.int (x1 + (1 : Int32))), some (.int r14.1), some (.int x3), some (.int x4)]) rfl ?_
            refine x_aload_n (pc := 75) dX10_work_75 (i := 0) rfl rfl ?_
            refine x_gR (pc := 76) (k := 4) fcX10 dX10_work_76 q26 (by decide) rfl (fun v15 => ?_)
            refine x_iload_n (pc := 79) dX10_work_79 (i := 3) rfl rfl ?_
            refine x_callVi (pc := 80) (As := [.int x3]) (rest := []) (vx := fun a => a) (μf := fun _ => r14.2) fcX9 (mX9_endOfPart S r14.2 cx cy v15 x3) (fun _ => rfl) rfl (fun _ h => ifok h) dX10_work_80 q669 kX9_endOfPart rfl ⟨by decide, by decide⟩ rfl (Nat.le_of_ble_eq_true rfl) (fun v16 => ?_)
            refine x_iconst (pc := 83) (v := 1) dX10_work_83 (by decide) ?_
            refine x_iadd (pc := 84) dX10_work_84 ?_
            refine x_istore_n (pc := 85) dX10_work_85 (i := 3) rfl (by decide) (l' := [some (.ref x0), some (.int (x1 + (1 : Int32))), some (.int r14.1), some (.int (v16 + (1 : Int32))), some (.int x4)]) rfl ?_
            exact xX10_work_86 (k40 := (lX10_work_40 S n)) ih r14.2 x0 (x1 + (1 : Int32)) r14.1 (v16 + (1 : Int32)) x4 
          · exact xX10_work_86 (k40 := (lX10_work_40 S n)) ih r14.2 x0 x1 r14.1 x3 x4
        · exact xX10_work_92 μ x0 x1 x2 _ _
set_option maxHeartbeats 4000000 in
theorem xbX10_work {n0 c0 s0 cx cy : Nat} {S : mSh} {μ : mMm} (o : Nat) : mX MX10_work n0 c0 s0 0 [some (.ref o), none, none, none, none] [] (S, μ, cx, cy) (iTI S cx cy) (bX10_work S μ o) := by
  unfold bX10_work
  refine x_aload_n (pc := 0) dX10_work_0 (i := 0) rfl rfl ?_
  refine x_gR (pc := 1) (k := 4) fcX10 dX10_work_1 q26 (by decide) rfl (fun v1 => ?_)
  refine x_callVi (pc := 4) (As := []) (rest := []) (vx := fun a => a) (μf := fun _ => μ) fcX9 (mX9_isComplete S μ cx cy v1) (fun _ => rfl) rfl (fun _ h => ifok h) dX10_work_4 q660 kX9_isComplete rfl ⟨by decide, by decide⟩ rfl (Nat.le_of_ble_eq_true rfl) (fun v2 => ?_)
  refine x_if_ne (pc := 7) (tgt := 20) dX10_work_7 (by decide) ?_ ?_
  · exact x_throw rfl ⟨81, 209, 85, "the buffer is not complete works", dX10_work_10, dX10_work_13, Or.inl ⟨dX10_work_14, dX10_work_16, dX10_work_19⟩, rfl, q155, q156, Or.inl ⟨rfl, rfl⟩, by decide, by decide, by decide⟩ (Nat.le_of_ble_eq_true rfl)
  · refine x_aload_n (pc := 20) dX10_work_20 (i := 0) rfl rfl ?_
    refine x_gR (pc := 21) (k := 3) fcX10 dX10_work_21 q22 (by decide) rfl (fun v3 => ?_)
    refine x_aload_n (pc := 24) dX10_work_24 (i := 0) rfl rfl ?_
    refine x_gR (pc := 25) (k := 0) fcX10 dX10_work_25 q16 (by decide) rfl (fun v4 => ?_)
    refine x_callVv (pc := 28) (As := [.ref v4]) (rest := []) (μf := fun a => a) fcX1 (mX1_push S μ cx cy v3 v4) (fun _ => rfl) rfl (fun _ h => ifok h) dX10_work_28 q163 kX1_push rfl ⟨by decide, by decide⟩ rfl (Nat.le_of_ble_eq_true rfl) (fun m5 => ?_)
    refine x_iconst (pc := 31) (v := 0) dX10_work_31 (by decide) ?_
    refine x_istore_n (pc := 32) dX10_work_32 (i := 1) rfl (by decide) (l' := [some (.ref o), some (.int (0 : Int32)), none, none, none]) rfl ?_
    refine x_iconst (pc := 33) (v := 0) dX10_work_33 (by decide) ?_
    refine x_istore_n (pc := 34) dX10_work_34 (i := 2) rfl (by decide) (l' := [some (.ref o), some (.int (0 : Int32)), some (.int (0 : Int32)), none, none]) rfl ?_
    refine x_iconst (pc := 35) (v := 0) dX10_work_35 (by decide) ?_
    refine x_istore_n (pc := 36) dX10_work_36 (i := 3) rfl (by decide) (l' := [some (.ref o), some (.int (0 : Int32)), some (.int (0 : Int32)), some (.int (0 : Int32)), none]) rfl ?_
    refine x_iconst (pc := 37) (v := 0) dX10_work_37 (by decide) ?_
    refine x_istore (pc := 38) dX10_work_38 (by decide) (l' := [some (.ref o), some (.int (0 : Int32)), some (.int (0 : Int32)), some (.int (0 : Int32)), some (.int (0 : Int32))]) rfl ?_
    exact xX10_work_40 FU m5 o (0 : Int32) (0 : Int32) (0 : Int32) (0 : Int32) 
theorem mX10_work (S : mSh) (μ : mMm) (cx cy : Nat) (o : Nat) : mMet MX10_work [.ref o] (S, μ, cx, cy) (iTI S cx cy) (fX10_work S μ o) := mMet.of rfl (by decide) rfl (fun h => by cases h) (Nat.le_of_ble_eq_true rfl) (mX.ck (fun _ => xbX10_work o))
/-! SlideMills.hasStopped()Z -/
def bX10_hasStopped (S : mSh) (μ : mMm) (o : Nat) : Option (Int32) := (gR S o 10 0).bind fun v1 => (gI S μ v1 7 4).bind fun v2 => if v2 = 0 then (some (0 : Int32)) else (some (1 : Int32))
def fX10_hasStopped (S : mSh) (μ : mMm) (o : Nat) : Option (Int32) := if mok S o 10 = true then bX10_hasStopped S μ o else none
abbrev MX10_hasStopped : mM := ((yX10_hasStopped, cX10_hasStopped, 1, (some .boolean)), (0, 0), (false, false), RX10, eT)
theorem kX10_hasStopped : mCalV MX10_hasStopped RX10 0 := ⟨q707, q708, q2, q709, by decide +kernel⟩
set_option maxHeartbeats 4000000 in
theorem xbX10_hasStopped {n0 c0 s0 cx cy : Nat} {S : mSh} {μ : mMm} (o : Nat) : mX MX10_hasStopped n0 c0 s0 0 [some (.ref o)] [] (S, μ, cx, cy) (iPI S μ cx cy) (bX10_hasStopped S μ o) := by
  unfold bX10_hasStopped
  refine x_aload_n (pc := 0) dX10_hasStopped_0 (i := 0) rfl rfl ?_
  refine x_gR (pc := 1) (k := 0) fcX10 dX10_hasStopped_1 q16 (by decide) rfl (fun v1 => ?_)
  refine x_gI (pc := 4) (k := 4) fcX7 dX10_hasStopped_4 q658 (by decide) rfl (fun v2 => ?_)
  refine x_if_eq (pc := 7) (tgt := 14) dX10_hasStopped_7 (by decide) ?_ ?_
  · refine x_iconst (pc := 14) (v := 0) dX10_hasStopped_14 (by decide) ?_
    exact x_iret rfl dX10_hasStopped_15 rfl rfl
  · refine x_iconst (pc := 10) (v := 1) dX10_hasStopped_10 (by decide) ?_
    refine x_goto (pc := 11) (tgt := 15) dX10_hasStopped_11 (by decide) ?_
    exact x_iret rfl dX10_hasStopped_15 rfl rfl
theorem mX10_hasStopped (S : mSh) (μ : mMm) (cx cy : Nat) (o : Nat) : mMet MX10_hasStopped [.ref o] (S, μ, cx, cy) (iPI S μ cx cy) (fX10_hasStopped S μ o) := mMet.of rfl (by decide) rfl (fun h => by cases h) (Nat.le_of_ble_eq_true rfl) (mX.ck (fun _ => xbX10_hasStopped o))
/-! SlideMills.stoppedPart()I -/
def bX10_stoppedPart (S : mSh) (μ : mMm) (o : Nat) : Option (Int32 ⊕ Nat) := (gR S o 10 0).bind fun v1 => (gI S μ v1 7 4).bind fun v2 => if v2 = 0 then (some (.inr 1)) else ((gR S o 10 0).bind fun v3 => (gI S μ v3 7 3).bind fun v4 => some (.inl v4))
def fX10_stoppedPart (S : mSh) (μ : mMm) (o : Nat) : Option (Int32 ⊕ Nat) := if mok S o 10 = true then bX10_stoppedPart S μ o else none
abbrev MX10_stoppedPart : mM := ((yX10_stoppedPart, cX10_stoppedPart, 1, (some .int)), (6, 90), (false, false), RX10, eT)
theorem kX10_stoppedPart : mCalV MX10_stoppedPart RX10 0 := ⟨q718, q719, q2, q720, by decide +kernel⟩
set_option maxHeartbeats 4000000 in
theorem xbX10_stoppedPart {n0 c0 s0 cx cy : Nat} {S : mSh} {μ : mMm} (o : Nat) : mX MX10_stoppedPart n0 c0 s0 0 [some (.ref o)] [] (S, μ, cx, cy) (iQI S μ cx cy) (bX10_stoppedPart S μ o) := by
  unfold bX10_stoppedPart
  refine x_aload_n (pc := 0) dX10_stoppedPart_0 (i := 0) rfl rfl ?_
  refine x_gR (pc := 1) (k := 0) fcX10 dX10_stoppedPart_1 q16 (by decide) rfl (fun v1 => ?_)
  refine x_gI (pc := 4) (k := 4) fcX7 dX10_stoppedPart_4 q658 (by decide) rfl (fun v2 => ?_)
  refine x_if_ne (pc := 7) (tgt := 20) dX10_stoppedPart_7 (by decide) ?_ ?_
  · exact x_throw rfl ⟨94, 223, 98, "it did not stop", dX10_stoppedPart_10, dX10_stoppedPart_13, Or.inl ⟨dX10_stoppedPart_14, dX10_stoppedPart_16, dX10_stoppedPart_19⟩, rfl, q157, q158, Or.inr (Or.inl ⟨rfl, rfl⟩), by decide, by decide, by decide⟩ (Nat.le_of_ble_eq_true rfl)
  · refine x_aload_n (pc := 20) dX10_stoppedPart_20 (i := 0) rfl rfl ?_
    refine x_gR (pc := 21) (k := 0) fcX10 dX10_stoppedPart_21 q16 (by decide) rfl (fun v3 => ?_)
    refine x_gI (pc := 24) (k := 3) fcX7 dX10_stoppedPart_24 q659 (by decide) rfl (fun v4 => ?_)
    exact x_iret rfl dX10_stoppedPart_27 rfl rfl
theorem mX10_stoppedPart (S : mSh) (μ : mMm) (cx cy : Nat) (o : Nat) : mMet MX10_stoppedPart [.ref o] (S, μ, cx, cy) (iQI S μ cx cy) (fX10_stoppedPart S μ o) := mMet.of rfl (by decide) rfl (fun h => by cases h) (Nat.le_of_ble_eq_true rfl) (mX.ck (fun _ => xbX10_stoppedPart o))
/-! SlideMills.whyStopped()I -/
def bX10_whyStopped (S : mSh) (μ : mMm) (o : Nat) : Option (Int32 ⊕ Nat) := (gR S o 10 0).bind fun v1 => (gI S μ v1 7 4).bind fun v2 => if v2 = 0 then (some (.inr 1)) else ((gR S o 10 0).bind fun v3 => (gI S μ v3 7 4).bind fun v4 => some (.inl v4))
def fX10_whyStopped (S : mSh) (μ : mMm) (o : Nat) : Option (Int32 ⊕ Nat) := if mok S o 10 = true then bX10_whyStopped S μ o else none
abbrev MX10_whyStopped : mM := ((yX10_whyStopped, cX10_whyStopped, 1, (some .int)), (6, 90), (false, false), RX10, eT)
theorem kX10_whyStopped : mCalV MX10_whyStopped RX10 0 := ⟨q729, q730, q2, q731, by decide +kernel⟩
set_option maxHeartbeats 4000000 in
theorem xbX10_whyStopped {n0 c0 s0 cx cy : Nat} {S : mSh} {μ : mMm} (o : Nat) : mX MX10_whyStopped n0 c0 s0 0 [some (.ref o)] [] (S, μ, cx, cy) (iQI S μ cx cy) (bX10_whyStopped S μ o) := by
  unfold bX10_whyStopped
  refine x_aload_n (pc := 0) dX10_whyStopped_0 (i := 0) rfl rfl ?_
  refine x_gR (pc := 1) (k := 0) fcX10 dX10_whyStopped_1 q16 (by decide) rfl (fun v1 => ?_)
  refine x_gI (pc := 4) (k := 4) fcX7 dX10_whyStopped_4 q658 (by decide) rfl (fun v2 => ?_)
  refine x_if_ne (pc := 7) (tgt := 20) dX10_whyStopped_7 (by decide) ?_ ?_
  · exact x_throw rfl ⟨94, 223, 98, "it did not stop", dX10_whyStopped_10, dX10_whyStopped_13, Or.inl ⟨dX10_whyStopped_14, dX10_whyStopped_16, dX10_whyStopped_19⟩, rfl, q157, q158, Or.inr (Or.inl ⟨rfl, rfl⟩), by decide, by decide, by decide⟩ (Nat.le_of_ble_eq_true rfl)
  · refine x_aload_n (pc := 20) dX10_whyStopped_20 (i := 0) rfl rfl ?_
    refine x_gR (pc := 21) (k := 0) fcX10 dX10_whyStopped_21 q16 (by decide) rfl (fun v3 => ?_)
    refine x_gI (pc := 24) (k := 4) fcX7 dX10_whyStopped_24 q658 (by decide) rfl (fun v4 => ?_)
    exact x_iret rfl dX10_whyStopped_27 rfl rfl
theorem mX10_whyStopped (S : mSh) (μ : mMm) (cx cy : Nat) (o : Nat) : mMet MX10_whyStopped [.ref o] (S, μ, cx, cy) (iQI S μ cx cy) (fX10_whyStopped S μ o) := mMet.of rfl (by decide) rfl (fun h => by cases h) (Nat.le_of_ble_eq_true rfl) (mX.ck (fun _ => xbX10_whyStopped o))
/-! SlideMills.undo()I -/
def bX10_undo (S : mSh) (μ : mMm) (o : Nat) : Option ((Int32 ⊕ Nat) × mMm) := (gR S o 10 3).bind fun v1 => (gI S μ v1 1 2).bind fun v2 => if 0 < v2 then ((gR S o 10 3).bind fun v3 => (gR S o 10 0).bind fun v4 => (fX1_popInto S μ v3 v4).bind fun m5 => (gR S o 10 3).bind fun v6 => (gI S m5 v6 1 2).bind fun v7 => some (.inl v7, m5)) else (some (.inr 1, μ))
def fX10_undo (S : mSh) (μ : mMm) (o : Nat) : Option ((Int32 ⊕ Nat) × mMm) := if mok S o 10 = true then bX10_undo S μ o else none
abbrev MX10_undo : mM := ((yX10_undo, cX10_undo, 1, (some .int)), (6, 90), (false, false), RX10, eT)
theorem kX10_undo : mCalV MX10_undo RX10 0 := ⟨q740, q741, q2, q742, by decide +kernel⟩
set_option maxHeartbeats 4000000 in
theorem xbX10_undo {n0 c0 s0 cx cy : Nat} {S : mSh} {μ : mMm} (o : Nat) : mX MX10_undo n0 c0 s0 0 [some (.ref o)] [] (S, μ, cx, cy) (iTI S cx cy) (bX10_undo S μ o) := by
  unfold bX10_undo
  refine x_aload_n (pc := 0) dX10_undo_0 (i := 0) rfl rfl ?_
  refine x_gR (pc := 1) (k := 3) fcX10 dX10_undo_1 q22 (by decide) rfl (fun v1 => ?_)
  refine x_gI (pc := 4) (k := 2) fcX1 dX10_undo_4 q743 (by decide) rfl (fun v2 => ?_)
  refine x_if_gt (pc := 7) (tgt := 20) dX10_undo_7 (by decide) ?_ ?_
  · refine x_aload_n (pc := 20) dX10_undo_20 (i := 0) rfl rfl ?_
    refine x_gR (pc := 21) (k := 3) fcX10 dX10_undo_21 q22 (by decide) rfl (fun v3 => ?_)
    refine x_aload_n (pc := 24) dX10_undo_24 (i := 0) rfl rfl ?_
    refine x_gR (pc := 25) (k := 0) fcX10 dX10_undo_25 q16 (by decide) rfl (fun v4 => ?_)
    refine x_callVv (pc := 28) (As := [.ref v4]) (rest := []) (μf := fun a => a) fcX1 (mX1_popInto S μ cx cy v3 v4) (fun _ => rfl) rfl (fun _ h => ifok h) dX10_undo_28 q744 kX1_popInto rfl ⟨by decide, by decide⟩ rfl (Nat.le_of_ble_eq_true rfl) (fun m5 => ?_)
    refine x_aload_n (pc := 31) dX10_undo_31 (i := 0) rfl rfl ?_
    refine x_gR (pc := 32) (k := 3) fcX10 dX10_undo_32 q22 (by decide) rfl (fun v6 => ?_)
    refine x_gI (pc := 35) (k := 2) fcX1 dX10_undo_35 q743 (by decide) rfl (fun v7 => ?_)
    exact x_iret rfl dX10_undo_38 rfl rfl
  · exact x_throw rfl ⟨94, 226, 98, "no saved state", dX10_undo_10, dX10_undo_13, Or.inl ⟨dX10_undo_14, dX10_undo_16, dX10_undo_19⟩, rfl, q157, q158, Or.inr (Or.inl ⟨rfl, rfl⟩), by decide, by decide, by decide⟩ (Nat.le_of_ble_eq_true rfl)
theorem mX10_undo (S : mSh) (μ : mMm) (cx cy : Nat) (o : Nat) : mMet MX10_undo [.ref o] (S, μ, cx, cy) (iTI S cx cy) (fX10_undo S μ o) := mMet.of rfl (by decide) rfl (fun h => by cases h) (Nat.le_of_ble_eq_true rfl) (mX.ck (fun _ => xbX10_undo o))
/-! SlideMills.keep()I -/
def bX10_keep (S : mSh) (μ : mMm) (o : Nat) : Option (Int32 × mMm) := (gR S o 10 1).bind fun v1 => (gR S o 10 0).bind fun v2 => (fX7_copyFrom S μ v1 v2).bind fun m3 => (pI S m3 o 10 2 (1 : Int32)).bind fun m4 => (gR S o 10 0).bind fun v5 => (gR S v5 7 0).bind fun v6 => (gI S m4 v6 2 1).bind fun v7 => some (v7, m4)
def fX10_keep (S : mSh) (μ : mMm) (o : Nat) : Option (Int32 × mMm) := if mok S o 10 = true then bX10_keep S μ o else none
abbrev MX10_keep : mM := ((yX10_keep, cX10_keep, 1, (some .int)), (3, 64), (false, false), RX10, eT)
theorem kX10_keep : mCalV MX10_keep RX10 0 := ⟨q753, q754, q2, q755, by decide +kernel⟩
set_option maxHeartbeats 4000000 in
theorem xbX10_keep {n0 c0 s0 cx cy : Nat} {S : mSh} {μ : mMm} (o : Nat) : mX MX10_keep n0 c0 s0 0 [some (.ref o)] [] (S, μ, cx, cy) (iMI S cx cy) (bX10_keep S μ o) := by
  unfold bX10_keep
  refine x_aload_n (pc := 0) dX10_keep_0 (i := 0) rfl rfl ?_
  refine x_gR (pc := 1) (k := 1) fcX10 dX10_keep_1 q17 (by decide) rfl (fun v1 => ?_)
  refine x_aload_n (pc := 4) dX10_keep_4 (i := 0) rfl rfl ?_
  refine x_gR (pc := 5) (k := 0) fcX10 dX10_keep_5 q16 (by decide) rfl (fun v2 => ?_)
  refine x_callVv (pc := 8) (As := [.ref v2]) (rest := []) (μf := fun a => a) fcX7 (mX7_copyFrom S μ cx cy v1 v2) (fun _ => rfl) rfl (fun _ h => ifok h) dX10_keep_8 q756 kX7_copyFrom rfl ⟨by decide, by decide⟩ rfl (Nat.le_of_ble_eq_true rfl) (fun m3 => ?_)
  refine x_aload_n (pc := 11) dX10_keep_11 (i := 0) rfl rfl ?_
  refine x_iconst (pc := 12) (v := 1) dX10_keep_12 (by decide) ?_
  refine x_pI (pc := 13) (k := 2) fcX10 dX10_keep_13 q18 (by decide) rfl rfl rfl rfl (fun m4 => ?_)
  refine x_aload_n (pc := 16) dX10_keep_16 (i := 0) rfl rfl ?_
  refine x_gR (pc := 17) (k := 0) fcX10 dX10_keep_17 q16 (by decide) rfl (fun v5 => ?_)
  refine x_gR (pc := 20) (k := 0) fcX7 dX10_keep_20 q30 (by decide) rfl (fun v6 => ?_)
  refine x_gI (pc := 23) (k := 1) fcX2 dX10_keep_23 q159 (by decide) rfl (fun v7 => ?_)
  exact x_iret rfl dX10_keep_26 rfl rfl
theorem mX10_keep (S : mSh) (μ : mMm) (cx cy : Nat) (o : Nat) : mMet MX10_keep [.ref o] (S, μ, cx, cy) (iMI S cx cy) (fX10_keep S μ o) := mMet.of rfl (by decide) rfl (fun h => by cases h) (Nat.le_of_ble_eq_true rfl) (mX.ck (fun _ => xbX10_keep o))
/-! SlideMills.restore()I -/
def bX10_restore (S : mSh) (μ : mMm) (o : Nat) : Option ((Int32 ⊕ Nat) × mMm) := (gI S μ o 10 2).bind fun v1 => if v1 = 0 then (some (.inr 1, μ)) else ((gR S o 10 3).bind fun v2 => (gR S o 10 0).bind fun v3 => (fX1_push S μ v2 v3).bind fun m4 => (gR S o 10 0).bind fun v5 => (gR S o 10 1).bind fun v6 => (fX7_copyFrom S m4 v5 v6).bind fun m7 => (gR S o 10 0).bind fun v8 => (gR S v8 7 0).bind fun v9 => (gI S m7 v9 2 1).bind fun v10 => some (.inl v10, m7))
def fX10_restore (S : mSh) (μ : mMm) (o : Nat) : Option ((Int32 ⊕ Nat) × mMm) := if mok S o 10 = true then bX10_restore S μ o else none
abbrev MX10_restore : mM := ((yX10_restore, cX10_restore, 1, (some .int)), (6, 90), (false, false), RX10, eT)
theorem kX10_restore : mCalV MX10_restore RX10 0 := ⟨q766, q767, q2, q768, by decide +kernel⟩
set_option maxHeartbeats 4000000 in
theorem xbX10_restore {n0 c0 s0 cx cy : Nat} {S : mSh} {μ : mMm} (o : Nat) : mX MX10_restore n0 c0 s0 0 [some (.ref o)] [] (S, μ, cx, cy) (iTI S cx cy) (bX10_restore S μ o) := by
  unfold bX10_restore
  refine x_aload_n (pc := 0) dX10_restore_0 (i := 0) rfl rfl ?_
  refine x_gI (pc := 1) (k := 2) fcX10 dX10_restore_1 q18 (by decide) rfl (fun v1 => ?_)
  refine x_if_ne (pc := 4) (tgt := 17) dX10_restore_4 (by decide) ?_ ?_
  · exact x_throw rfl ⟨94, 233, 98, "no snapshot", dX10_restore_7, dX10_restore_10, Or.inl ⟨dX10_restore_11, dX10_restore_13, dX10_restore_16⟩, rfl, q157, q158, Or.inr (Or.inl ⟨rfl, rfl⟩), by decide, by decide, by decide⟩ (Nat.le_of_ble_eq_true rfl)
  · refine x_aload_n (pc := 17) dX10_restore_17 (i := 0) rfl rfl ?_
    refine x_gR (pc := 18) (k := 3) fcX10 dX10_restore_18 q22 (by decide) rfl (fun v2 => ?_)
    refine x_aload_n (pc := 21) dX10_restore_21 (i := 0) rfl rfl ?_
    refine x_gR (pc := 22) (k := 0) fcX10 dX10_restore_22 q16 (by decide) rfl (fun v3 => ?_)
    refine x_callVv (pc := 25) (As := [.ref v3]) (rest := []) (μf := fun a => a) fcX1 (mX1_push S μ cx cy v2 v3) (fun _ => rfl) rfl (fun _ h => ifok h) dX10_restore_25 q163 kX1_push rfl ⟨by decide, by decide⟩ rfl (Nat.le_of_ble_eq_true rfl) (fun m4 => ?_)
    refine x_aload_n (pc := 28) dX10_restore_28 (i := 0) rfl rfl ?_
    refine x_gR (pc := 29) (k := 0) fcX10 dX10_restore_29 q16 (by decide) rfl (fun v5 => ?_)
    refine x_aload_n (pc := 32) dX10_restore_32 (i := 0) rfl rfl ?_
    refine x_gR (pc := 33) (k := 1) fcX10 dX10_restore_33 q17 (by decide) rfl (fun v6 => ?_)
    refine x_callVv (pc := 36) (As := [.ref v6]) (rest := []) (μf := fun a => a) fcX7 (mX7_copyFrom S m4 cx cy v5 v6) (fun _ => rfl) rfl (fun _ h => ifok h) dX10_restore_36 q756 kX7_copyFrom rfl ⟨by decide, by decide⟩ rfl (Nat.le_of_ble_eq_true rfl) (fun m7 => ?_)
    refine x_aload_n (pc := 39) dX10_restore_39 (i := 0) rfl rfl ?_
    refine x_gR (pc := 40) (k := 0) fcX10 dX10_restore_40 q16 (by decide) rfl (fun v8 => ?_)
    refine x_gR (pc := 43) (k := 0) fcX7 dX10_restore_43 q30 (by decide) rfl (fun v9 => ?_)
    refine x_gI (pc := 46) (k := 1) fcX2 dX10_restore_46 q159 (by decide) rfl (fun v10 => ?_)
    exact x_iret rfl dX10_restore_49 rfl rfl
theorem mX10_restore (S : mSh) (μ : mMm) (cx cy : Nat) (o : Nat) : mMet MX10_restore [.ref o] (S, μ, cx, cy) (iTI S cx cy) (fX10_restore S μ o) := mMet.of rfl (by decide) rfl (fun h => by cases h) (Nat.le_of_ble_eq_true rfl) (mX.ck (fun _ => xbX10_restore o))
/-! SlideMills.savedStates()I -/
def bX10_savedStates (S : mSh) (μ : mMm) (o : Nat) : Option (Int32) := (gR S o 10 3).bind fun v1 => (gI S μ v1 1 2).bind fun v2 => some v2
def fX10_savedStates (S : mSh) (μ : mMm) (o : Nat) : Option (Int32) := if mok S o 10 = true then bX10_savedStates S μ o else none
abbrev MX10_savedStates : mM := ((yX10_savedStates, cX10_savedStates, 1, (some .int)), (0, 0), (false, false), RX10, eT)
theorem kX10_savedStates : mCalV MX10_savedStates RX10 0 := ⟨q774, q775, q2, q776, by decide +kernel⟩
set_option maxHeartbeats 4000000 in
theorem xbX10_savedStates {n0 c0 s0 cx cy : Nat} {S : mSh} {μ : mMm} (o : Nat) : mX MX10_savedStates n0 c0 s0 0 [some (.ref o)] [] (S, μ, cx, cy) (iPI S μ cx cy) (bX10_savedStates S μ o) := by
  unfold bX10_savedStates
  refine x_aload_n (pc := 0) dX10_savedStates_0 (i := 0) rfl rfl ?_
  refine x_gR (pc := 1) (k := 3) fcX10 dX10_savedStates_1 q22 (by decide) rfl (fun v1 => ?_)
  refine x_gI (pc := 4) (k := 2) fcX1 dX10_savedStates_4 q743 (by decide) rfl (fun v2 => ?_)
  exact x_iret rfl dX10_savedStates_7 rfl rfl
theorem mX10_savedStates (S : mSh) (μ : mMm) (cx cy : Nat) (o : Nat) : mMet MX10_savedStates [.ref o] (S, μ, cx, cy) (iPI S μ cx cy) (fX10_savedStates S μ o) := mMet.of rfl (by decide) rfl (fun h => by cases h) (Nat.le_of_ble_eq_true rfl) (mX.ck (fun _ => xbX10_savedStates o))
/-! SlideMills.textLength()I -/
def bX10_textLength (S : mSh) (μ : mMm) (o : Nat) : Option (Int32) := (gR S o 10 0).bind fun v1 => (gR S v1 7 0).bind fun v2 => (gI S μ v2 2 1).bind fun v3 => some v3
def fX10_textLength (S : mSh) (μ : mMm) (o : Nat) : Option (Int32) := if mok S o 10 = true then bX10_textLength S μ o else none
abbrev MX10_textLength : mM := ((yX10_textLength, cX10_textLength, 1, (some .int)), (0, 0), (false, false), RX10, eT)
theorem kX10_textLength : mCalV MX10_textLength RX10 0 := ⟨q782, q783, q2, q784, by decide +kernel⟩
set_option maxHeartbeats 4000000 in
theorem xbX10_textLength {n0 c0 s0 cx cy : Nat} {S : mSh} {μ : mMm} (o : Nat) : mX MX10_textLength n0 c0 s0 0 [some (.ref o)] [] (S, μ, cx, cy) (iPI S μ cx cy) (bX10_textLength S μ o) := by
  unfold bX10_textLength
  refine x_aload_n (pc := 0) dX10_textLength_0 (i := 0) rfl rfl ?_
  refine x_gR (pc := 1) (k := 0) fcX10 dX10_textLength_1 q16 (by decide) rfl (fun v1 => ?_)
  refine x_gR (pc := 4) (k := 0) fcX7 dX10_textLength_4 q30 (by decide) rfl (fun v2 => ?_)
  refine x_gI (pc := 7) (k := 1) fcX2 dX10_textLength_7 q159 (by decide) rfl (fun v3 => ?_)
  exact x_iret rfl dX10_textLength_10 rfl rfl
theorem mX10_textLength (S : mSh) (μ : mMm) (cx cy : Nat) (o : Nat) : mMet MX10_textLength [.ref o] (S, μ, cx, cy) (iPI S μ cx cy) (fX10_textLength S μ o) := mMet.of rfl (by decide) rfl (fun h => by cases h) (Nat.le_of_ble_eq_true rfl) (mX.ck (fun _ => xbX10_textLength o))
/-! SlideMills.letterAt(I)I -/
def bX10_letterAt (S : mSh) (μ : mMm) (o : Nat) (p0 : Int32) : Option (Int32 ⊕ Nat) := (gR S o 10 0).bind fun v1 => (gR S v1 7 0).bind fun v2 => (fX2_has S μ v2 p0).bind fun v3 => if v3 = 0 then (some (.inr 2)) else ((gR S o 10 0).bind fun v4 => (gR S v4 7 0).bind fun v5 => (fX2_get S μ v5 p0).bind fun v6 => some (.inl v6))
def fX10_letterAt (S : mSh) (μ : mMm) (o : Nat) (p0 : Int32) : Option (Int32 ⊕ Nat) := if mok S o 10 = true then bX10_letterAt S μ o p0 else none
abbrev MX10_letterAt : mM := ((yX10_letterAt, cX10_letterAt, 2, (some .int)), (6, 90), (false, false), RX10, eT)
theorem kX10_letterAt : mCalV MX10_letterAt RX10 1 := ⟨q793, q794, q2, q795, by decide +kernel⟩
set_option maxHeartbeats 4000000 in
theorem xbX10_letterAt {n0 c0 s0 cx cy : Nat} {S : mSh} {μ : mMm} (o : Nat) (p0 : Int32) : mX MX10_letterAt n0 c0 s0 0 [some (.ref o), some (.int p0)] [] (S, μ, cx, cy) (iQI S μ cx cy) (bX10_letterAt S μ o p0) := by
  unfold bX10_letterAt
  refine x_aload_n (pc := 0) dX10_letterAt_0 (i := 0) rfl rfl ?_
  refine x_gR (pc := 1) (k := 0) fcX10 dX10_letterAt_1 q16 (by decide) rfl (fun v1 => ?_)
  refine x_gR (pc := 4) (k := 0) fcX7 dX10_letterAt_4 q30 (by decide) rfl (fun v2 => ?_)
  refine x_iload_n (pc := 7) dX10_letterAt_7 (i := 1) rfl rfl ?_
  refine x_callVi (pc := 8) (As := [.int p0]) (rest := []) (vx := fun a => a) (μf := fun _ => μ) fcX2 (mX2_has S μ cx cy v2 p0) (fun _ => rfl) rfl (fun _ h => ifok h) dX10_letterAt_8 q230 kX2_has rfl ⟨by decide, by decide⟩ rfl (Nat.le_of_ble_eq_true rfl) (fun v3 => ?_)
  refine x_if_ne (pc := 11) (tgt := 24) dX10_letterAt_11 (by decide) ?_ ?_
  · exact x_throw rfl ⟨110, 112, 114, "no such place", dX10_letterAt_14, dX10_letterAt_17, Or.inl ⟨dX10_letterAt_18, dX10_letterAt_20, dX10_letterAt_23⟩, rfl, q228, q229, Or.inr (Or.inr ⟨rfl, rfl⟩), by decide, by decide, by decide⟩ (Nat.le_of_ble_eq_true rfl)
  · refine x_aload_n (pc := 24) dX10_letterAt_24 (i := 0) rfl rfl ?_
    refine x_gR (pc := 25) (k := 0) fcX10 dX10_letterAt_25 q16 (by decide) rfl (fun v4 => ?_)
    refine x_gR (pc := 28) (k := 0) fcX7 dX10_letterAt_28 q30 (by decide) rfl (fun v5 => ?_)
    refine x_iload_n (pc := 31) dX10_letterAt_31 (i := 1) rfl rfl ?_
    refine x_callVi (pc := 32) (As := [.int p0]) (rest := []) (vx := fun a => a) (μf := fun _ => μ) fcX2 (mX2_get S μ cx cy v5 p0) (fun _ => rfl) rfl (fun _ h => ifok h) dX10_letterAt_32 q234 kX2_get rfl ⟨by decide, by decide⟩ rfl (Nat.le_of_ble_eq_true rfl) (fun v6 => ?_)
    exact x_iret rfl dX10_letterAt_35 rfl rfl
theorem mX10_letterAt (S : mSh) (μ : mMm) (cx cy : Nat) (o : Nat) (p0 : Int32) : mMet MX10_letterAt [.ref o, .int p0] (S, μ, cx, cy) (iQI S μ cx cy) (fX10_letterAt S μ o p0) := mMet.of rfl (by decide) rfl (fun h => by cases h) (Nat.le_of_ble_eq_true rfl) (mX.ck (fun _ => xbX10_letterAt o p0))
/-! SlideMills.window()I -/
def bX10_window (S : mSh) (μ : mMm) (o : Nat) : Option (Int32) := (gR S o 10 0).bind fun v1 => (gR S v1 7 2).bind fun v2 => (gI S μ v2 6 0).bind fun v3 => some v3
def fX10_window (S : mSh) (μ : mMm) (o : Nat) : Option (Int32) := if mok S o 10 = true then bX10_window S μ o else none
abbrev MX10_window : mM := ((yX10_window, cX10_window, 1, (some .int)), (0, 0), (false, false), RX10, eT)
theorem kX10_window : mCalV MX10_window RX10 0 := ⟨q801, q802, q2, q803, by decide +kernel⟩
set_option maxHeartbeats 4000000 in
theorem xbX10_window {n0 c0 s0 cx cy : Nat} {S : mSh} {μ : mMm} (o : Nat) : mX MX10_window n0 c0 s0 0 [some (.ref o)] [] (S, μ, cx, cy) (iPI S μ cx cy) (bX10_window S μ o) := by
  unfold bX10_window
  refine x_aload_n (pc := 0) dX10_window_0 (i := 0) rfl rfl ?_
  refine x_gR (pc := 1) (k := 0) fcX10 dX10_window_1 q16 (by decide) rfl (fun v1 => ?_)
  refine x_gR (pc := 4) (k := 2) fcX7 dX10_window_4 q31 (by decide) rfl (fun v2 => ?_)
  refine x_gI (pc := 7) (k := 0) fcX6 dX10_window_7 q277 (by decide) rfl (fun v3 => ?_)
  exact x_iret rfl dX10_window_10 rfl rfl
theorem mX10_window (S : mSh) (μ : mMm) (cx cy : Nat) (o : Nat) : mMet MX10_window [.ref o] (S, μ, cx, cy) (iPI S μ cx cy) (fX10_window S μ o) := mMet.of rfl (by decide) rfl (fun h => by cases h) (Nat.le_of_ble_eq_true rfl) (mX.ck (fun _ => xbX10_window o))
/-! SlideMills.shortest()I -/
def bX10_shortest (S : mSh) (μ : mMm) (o : Nat) : Option (Int32) := (gR S o 10 0).bind fun v1 => (gR S v1 7 2).bind fun v2 => (gI S μ v2 6 1).bind fun v3 => some v3
def fX10_shortest (S : mSh) (μ : mMm) (o : Nat) : Option (Int32) := if mok S o 10 = true then bX10_shortest S μ o else none
abbrev MX10_shortest : mM := ((yX10_shortest, cX10_shortest, 1, (some .int)), (0, 0), (false, false), RX10, eT)
theorem kX10_shortest : mCalV MX10_shortest RX10 0 := ⟨q809, q810, q2, q811, by decide +kernel⟩
set_option maxHeartbeats 4000000 in
theorem xbX10_shortest {n0 c0 s0 cx cy : Nat} {S : mSh} {μ : mMm} (o : Nat) : mX MX10_shortest n0 c0 s0 0 [some (.ref o)] [] (S, μ, cx, cy) (iPI S μ cx cy) (bX10_shortest S μ o) := by
  unfold bX10_shortest
  refine x_aload_n (pc := 0) dX10_shortest_0 (i := 0) rfl rfl ?_
  refine x_gR (pc := 1) (k := 0) fcX10 dX10_shortest_1 q16 (by decide) rfl (fun v1 => ?_)
  refine x_gR (pc := 4) (k := 2) fcX7 dX10_shortest_4 q31 (by decide) rfl (fun v2 => ?_)
  refine x_gI (pc := 7) (k := 1) fcX6 dX10_shortest_7 q296 (by decide) rfl (fun v3 => ?_)
  exact x_iret rfl dX10_shortest_10 rfl rfl
theorem mX10_shortest (S : mSh) (μ : mMm) (cx cy : Nat) (o : Nat) : mMet MX10_shortest [.ref o] (S, μ, cx, cy) (iPI S μ cx cy) (fX10_shortest S μ o) := mMet.of rfl (by decide) rfl (fun h => by cases h) (Nat.le_of_ble_eq_true rfl) (mX.ck (fun _ => xbX10_shortest o))
/-! SlideMills.longest()I -/
def bX10_longest (S : mSh) (μ : mMm) (o : Nat) : Option (Int32) := (gR S o 10 0).bind fun v1 => (gR S v1 7 2).bind fun v2 => (gI S μ v2 6 2).bind fun v3 => some v3
def fX10_longest (S : mSh) (μ : mMm) (o : Nat) : Option (Int32) := if mok S o 10 = true then bX10_longest S μ o else none
abbrev MX10_longest : mM := ((yX10_longest, cX10_longest, 1, (some .int)), (0, 0), (false, false), RX10, eT)
theorem kX10_longest : mCalV MX10_longest RX10 0 := ⟨q817, q818, q2, q819, by decide +kernel⟩
set_option maxHeartbeats 4000000 in
theorem xbX10_longest {n0 c0 s0 cx cy : Nat} {S : mSh} {μ : mMm} (o : Nat) : mX MX10_longest n0 c0 s0 0 [some (.ref o)] [] (S, μ, cx, cy) (iPI S μ cx cy) (bX10_longest S μ o) := by
  unfold bX10_longest
  refine x_aload_n (pc := 0) dX10_longest_0 (i := 0) rfl rfl ?_
  refine x_gR (pc := 1) (k := 0) fcX10 dX10_longest_1 q16 (by decide) rfl (fun v1 => ?_)
  refine x_gR (pc := 4) (k := 2) fcX7 dX10_longest_4 q31 (by decide) rfl (fun v2 => ?_)
  refine x_gI (pc := 7) (k := 2) fcX6 dX10_longest_7 q308 (by decide) rfl (fun v3 => ?_)
  exact x_iret rfl dX10_longest_10 rfl rfl
theorem mX10_longest (S : mSh) (μ : mMm) (cx cy : Nat) (o : Nat) : mMet MX10_longest [.ref o] (S, μ, cx, cy) (iPI S μ cx cy) (fX10_longest S μ o) := mMet.of rfl (by decide) rfl (fun h => by cases h) (Nat.le_of_ble_eq_true rfl) (mX.ck (fun _ => xbX10_longest o))
/-! SlideMills.tokens()I -/
def bX10_tokens (S : mSh) (μ : mMm) (o : Nat) : Option (Int32) := (gR S o 10 0).bind fun v1 => (gR S v1 7 1).bind fun v2 => (gI S μ v2 5 2).bind fun v3 => some v3
def fX10_tokens (S : mSh) (μ : mMm) (o : Nat) : Option (Int32) := if mok S o 10 = true then bX10_tokens S μ o else none
abbrev MX10_tokens : mM := ((yX10_tokens, cX10_tokens, 1, (some .int)), (0, 0), (false, false), RX10, eT)
theorem kX10_tokens : mCalV MX10_tokens RX10 0 := ⟨q825, q826, q2, q827, by decide +kernel⟩
set_option maxHeartbeats 4000000 in
theorem xbX10_tokens {n0 c0 s0 cx cy : Nat} {S : mSh} {μ : mMm} (o : Nat) : mX MX10_tokens n0 c0 s0 0 [some (.ref o)] [] (S, μ, cx, cy) (iPI S μ cx cy) (bX10_tokens S μ o) := by
  unfold bX10_tokens
  refine x_aload_n (pc := 0) dX10_tokens_0 (i := 0) rfl rfl ?_
  refine x_gR (pc := 1) (k := 0) fcX10 dX10_tokens_1 q16 (by decide) rfl (fun v1 => ?_)
  refine x_gR (pc := 4) (k := 1) fcX7 dX10_tokens_4 q344 (by decide) rfl (fun v2 => ?_)
  refine x_gI (pc := 7) (k := 2) fcX5 dX10_tokens_7 q345 (by decide) rfl (fun v3 => ?_)
  exact x_iret rfl dX10_tokens_10 rfl rfl
theorem mX10_tokens (S : mSh) (μ : mMm) (cx cy : Nat) (o : Nat) : mMet MX10_tokens [.ref o] (S, μ, cx, cy) (iPI S μ cx cy) (fX10_tokens S μ o) := mMet.of rfl (by decide) rfl (fun h => by cases h) (Nat.le_of_ble_eq_true rfl) (mX.ck (fun _ => xbX10_tokens o))
/-! SlideMills.isRepeat(I)Z -/
def bX10_isRepeat (S : mSh) (μ : mMm) (o : Nat) (p0 : Int32) : Option (Int32 ⊕ Nat) := (gR S o 10 0).bind fun v1 => (gR S v1 7 1).bind fun v2 => (fX5_has S μ v2 p0).bind fun v3 => if v3 = 0 then (some (.inr 2)) else ((gR S o 10 0).bind fun v4 => (gR S v4 7 1).bind fun v5 => (fX5_distance S μ v5 p0).bind fun v6 => if v6 = 0 then (some (.inl (0 : Int32))) else (some (.inl (1 : Int32))))
def fX10_isRepeat (S : mSh) (μ : mMm) (o : Nat) (p0 : Int32) : Option (Int32 ⊕ Nat) := if mok S o 10 = true then bX10_isRepeat S μ o p0 else none
abbrev MX10_isRepeat : mM := ((yX10_isRepeat, cX10_isRepeat, 2, (some .boolean)), (6, 90), (false, false), RX10, eT)
theorem kX10_isRepeat : mCalV MX10_isRepeat RX10 1 := ⟨q836, q837, q2, q838, by decide +kernel⟩
set_option maxHeartbeats 4000000 in
theorem xbX10_isRepeat {n0 c0 s0 cx cy : Nat} {S : mSh} {μ : mMm} (o : Nat) (p0 : Int32) : mX MX10_isRepeat n0 c0 s0 0 [some (.ref o), some (.int p0)] [] (S, μ, cx, cy) (iQI S μ cx cy) (bX10_isRepeat S μ o p0) := by
  unfold bX10_isRepeat
  refine x_aload_n (pc := 0) dX10_isRepeat_0 (i := 0) rfl rfl ?_
  refine x_gR (pc := 1) (k := 0) fcX10 dX10_isRepeat_1 q16 (by decide) rfl (fun v1 => ?_)
  refine x_gR (pc := 4) (k := 1) fcX7 dX10_isRepeat_4 q344 (by decide) rfl (fun v2 => ?_)
  refine x_iload_n (pc := 7) dX10_isRepeat_7 (i := 1) rfl rfl ?_
  refine x_callVi (pc := 8) (As := [.int p0]) (rest := []) (vx := fun a => a) (μf := fun _ => μ) fcX5 (mX5_has S μ cx cy v2 p0) (fun _ => rfl) rfl (fun _ h => ifok h) dX10_isRepeat_8 q839 kX5_has rfl ⟨by decide, by decide⟩ rfl (Nat.le_of_ble_eq_true rfl) (fun v3 => ?_)
  refine x_if_ne (pc := 11) (tgt := 24) dX10_isRepeat_11 (by decide) ?_ ?_
  · exact x_throw rfl ⟨110, 236, 114, "no such token", dX10_isRepeat_14, dX10_isRepeat_17, Or.inl ⟨dX10_isRepeat_18, dX10_isRepeat_20, dX10_isRepeat_23⟩, rfl, q228, q229, Or.inr (Or.inr ⟨rfl, rfl⟩), by decide, by decide, by decide⟩ (Nat.le_of_ble_eq_true rfl)
  · refine x_aload_n (pc := 24) dX10_isRepeat_24 (i := 0) rfl rfl ?_
    refine x_gR (pc := 25) (k := 0) fcX10 dX10_isRepeat_25 q16 (by decide) rfl (fun v4 => ?_)
    refine x_gR (pc := 28) (k := 1) fcX7 dX10_isRepeat_28 q344 (by decide) rfl (fun v5 => ?_)
    refine x_iload_n (pc := 31) dX10_isRepeat_31 (i := 1) rfl rfl ?_
    refine x_callVi (pc := 32) (As := [.int p0]) (rest := []) (vx := fun a => a) (μf := fun _ => μ) fcX5 (mX5_distance S μ cx cy v5 p0) (fun _ => rfl) rfl (fun _ h => ifok h) dX10_isRepeat_32 q843 kX5_distance rfl ⟨by decide, by decide⟩ rfl (Nat.le_of_ble_eq_true rfl) (fun v6 => ?_)
    refine x_if_eq (pc := 35) (tgt := 42) dX10_isRepeat_35 (by decide) ?_ ?_
    · refine x_iconst (pc := 42) (v := 0) dX10_isRepeat_42 (by decide) ?_
      exact x_iret rfl dX10_isRepeat_43 rfl rfl
    · refine x_iconst (pc := 38) (v := 1) dX10_isRepeat_38 (by decide) ?_
      refine x_goto (pc := 39) (tgt := 43) dX10_isRepeat_39 (by decide) ?_
      exact x_iret rfl dX10_isRepeat_43 rfl rfl
theorem mX10_isRepeat (S : mSh) (μ : mMm) (cx cy : Nat) (o : Nat) (p0 : Int32) : mMet MX10_isRepeat [.ref o, .int p0] (S, μ, cx, cy) (iQI S μ cx cy) (fX10_isRepeat S μ o p0) := mMet.of rfl (by decide) rfl (fun h => by cases h) (Nat.le_of_ble_eq_true rfl) (mX.ck (fun _ => xbX10_isRepeat o p0))
/-! SlideMills.letterOf(I)I -/
def bX10_letterOf (S : mSh) (μ : mMm) (o : Nat) (p0 : Int32) : Option (Int32 ⊕ Nat) := (gR S o 10 0).bind fun v1 => (gR S v1 7 1).bind fun v2 => (fX5_has S μ v2 p0).bind fun v3 => if v3 = 0 then (some (.inr 2)) else ((gR S o 10 0).bind fun v4 => (gR S v4 7 1).bind fun v5 => (fX5_distance S μ v5 p0).bind fun v6 => if v6 = 0 then ((gR S o 10 0).bind fun v7 => (gR S v7 7 1).bind fun v8 => (fX5_value S μ v8 p0).bind fun v9 => some (.inl v9)) else (some (.inr 1)))
def fX10_letterOf (S : mSh) (μ : mMm) (o : Nat) (p0 : Int32) : Option (Int32 ⊕ Nat) := if mok S o 10 = true then bX10_letterOf S μ o p0 else none
abbrev MX10_letterOf : mM := ((yX10_letterOf, cX10_letterOf, 2, (some .int)), (6, 90), (false, false), RX10, eT)
theorem kX10_letterOf : mCalV MX10_letterOf RX10 1 := ⟨q856, q857, q2, q858, by decide +kernel⟩
set_option maxHeartbeats 4000000 in
theorem xbX10_letterOf {n0 c0 s0 cx cy : Nat} {S : mSh} {μ : mMm} (o : Nat) (p0 : Int32) : mX MX10_letterOf n0 c0 s0 0 [some (.ref o), some (.int p0)] [] (S, μ, cx, cy) (iQI S μ cx cy) (bX10_letterOf S μ o p0) := by
  unfold bX10_letterOf
  refine x_aload_n (pc := 0) dX10_letterOf_0 (i := 0) rfl rfl ?_
  refine x_gR (pc := 1) (k := 0) fcX10 dX10_letterOf_1 q16 (by decide) rfl (fun v1 => ?_)
  refine x_gR (pc := 4) (k := 1) fcX7 dX10_letterOf_4 q344 (by decide) rfl (fun v2 => ?_)
  refine x_iload_n (pc := 7) dX10_letterOf_7 (i := 1) rfl rfl ?_
  refine x_callVi (pc := 8) (As := [.int p0]) (rest := []) (vx := fun a => a) (μf := fun _ => μ) fcX5 (mX5_has S μ cx cy v2 p0) (fun _ => rfl) rfl (fun _ h => ifok h) dX10_letterOf_8 q839 kX5_has rfl ⟨by decide, by decide⟩ rfl (Nat.le_of_ble_eq_true rfl) (fun v3 => ?_)
  refine x_if_ne (pc := 11) (tgt := 24) dX10_letterOf_11 (by decide) ?_ ?_
  · exact x_throw rfl ⟨110, 236, 114, "no such token", dX10_letterOf_14, dX10_letterOf_17, Or.inl ⟨dX10_letterOf_18, dX10_letterOf_20, dX10_letterOf_23⟩, rfl, q228, q229, Or.inr (Or.inr ⟨rfl, rfl⟩), by decide, by decide, by decide⟩ (Nat.le_of_ble_eq_true rfl)
  · refine x_aload_n (pc := 24) dX10_letterOf_24 (i := 0) rfl rfl ?_
    refine x_gR (pc := 25) (k := 0) fcX10 dX10_letterOf_25 q16 (by decide) rfl (fun v4 => ?_)
    refine x_gR (pc := 28) (k := 1) fcX7 dX10_letterOf_28 q344 (by decide) rfl (fun v5 => ?_)
    refine x_iload_n (pc := 31) dX10_letterOf_31 (i := 1) rfl rfl ?_
    refine x_callVi (pc := 32) (As := [.int p0]) (rest := []) (vx := fun a => a) (μf := fun _ => μ) fcX5 (mX5_distance S μ cx cy v5 p0) (fun _ => rfl) rfl (fun _ h => ifok h) dX10_letterOf_32 q843 kX5_distance rfl ⟨by decide, by decide⟩ rfl (Nat.le_of_ble_eq_true rfl) (fun v6 => ?_)
    refine x_if_eq (pc := 35) (tgt := 48) dX10_letterOf_35 (by decide) ?_ ?_
    · refine x_aload_n (pc := 48) dX10_letterOf_48 (i := 0) rfl rfl ?_
      refine x_gR (pc := 49) (k := 0) fcX10 dX10_letterOf_49 q16 (by decide) rfl (fun v7 => ?_)
      refine x_gR (pc := 52) (k := 1) fcX7 dX10_letterOf_52 q344 (by decide) rfl (fun v8 => ?_)
      refine x_iload_n (pc := 55) dX10_letterOf_55 (i := 1) rfl rfl ?_
      refine x_callVi (pc := 56) (As := [.int p0]) (rest := []) (vx := fun a => a) (μf := fun _ => μ) fcX5 (mX5_value S μ cx cy v8 p0) (fun _ => rfl) rfl (fun _ h => ifok h) dX10_letterOf_56 q859 kX5_value rfl ⟨by decide, by decide⟩ rfl (Nat.le_of_ble_eq_true rfl) (fun v9 => ?_)
      exact x_iret rfl dX10_letterOf_59 rfl rfl
    · exact x_throw rfl ⟨94, 241, 98, "it is a repeat", dX10_letterOf_38, dX10_letterOf_41, Or.inl ⟨dX10_letterOf_42, dX10_letterOf_44, dX10_letterOf_47⟩, rfl, q157, q158, Or.inr (Or.inl ⟨rfl, rfl⟩), by decide, by decide, by decide⟩ (Nat.le_of_ble_eq_true rfl)
theorem mX10_letterOf (S : mSh) (μ : mMm) (cx cy : Nat) (o : Nat) (p0 : Int32) : mMet MX10_letterOf [.ref o, .int p0] (S, μ, cx, cy) (iQI S μ cx cy) (fX10_letterOf S μ o p0) := mMet.of rfl (by decide) rfl (fun h => by cases h) (Nat.le_of_ble_eq_true rfl) (mX.ck (fun _ => xbX10_letterOf o p0))
/-! SlideMills.distanceOf(I)I -/
def bX10_distanceOf (S : mSh) (μ : mMm) (o : Nat) (p0 : Int32) : Option (Int32 ⊕ Nat) := (gR S o 10 0).bind fun v1 => (gR S v1 7 1).bind fun v2 => (fX5_has S μ v2 p0).bind fun v3 => if v3 = 0 then (some (.inr 2)) else ((gR S o 10 0).bind fun v4 => (gR S v4 7 1).bind fun v5 => (fX5_distance S μ v5 p0).bind fun v6 => if v6 = 0 then (some (.inr 1)) else ((gR S o 10 0).bind fun v7 => (gR S v7 7 1).bind fun v8 => (fX5_distance S μ v8 p0).bind fun v9 => some (.inl v9)))
def fX10_distanceOf (S : mSh) (μ : mMm) (o : Nat) (p0 : Int32) : Option (Int32 ⊕ Nat) := if mok S o 10 = true then bX10_distanceOf S μ o p0 else none
abbrev MX10_distanceOf : mM := ((yX10_distanceOf, cX10_distanceOf, 2, (some .int)), (6, 90), (false, false), RX10, eT)
theorem kX10_distanceOf : mCalV MX10_distanceOf RX10 1 := ⟨q868, q869, q2, q870, by decide +kernel⟩
set_option maxHeartbeats 4000000 in
theorem xbX10_distanceOf {n0 c0 s0 cx cy : Nat} {S : mSh} {μ : mMm} (o : Nat) (p0 : Int32) : mX MX10_distanceOf n0 c0 s0 0 [some (.ref o), some (.int p0)] [] (S, μ, cx, cy) (iQI S μ cx cy) (bX10_distanceOf S μ o p0) := by
  unfold bX10_distanceOf
  refine x_aload_n (pc := 0) dX10_distanceOf_0 (i := 0) rfl rfl ?_
  refine x_gR (pc := 1) (k := 0) fcX10 dX10_distanceOf_1 q16 (by decide) rfl (fun v1 => ?_)
  refine x_gR (pc := 4) (k := 1) fcX7 dX10_distanceOf_4 q344 (by decide) rfl (fun v2 => ?_)
  refine x_iload_n (pc := 7) dX10_distanceOf_7 (i := 1) rfl rfl ?_
  refine x_callVi (pc := 8) (As := [.int p0]) (rest := []) (vx := fun a => a) (μf := fun _ => μ) fcX5 (mX5_has S μ cx cy v2 p0) (fun _ => rfl) rfl (fun _ h => ifok h) dX10_distanceOf_8 q839 kX5_has rfl ⟨by decide, by decide⟩ rfl (Nat.le_of_ble_eq_true rfl) (fun v3 => ?_)
  refine x_if_ne (pc := 11) (tgt := 24) dX10_distanceOf_11 (by decide) ?_ ?_
  · exact x_throw rfl ⟨110, 236, 114, "no such token", dX10_distanceOf_14, dX10_distanceOf_17, Or.inl ⟨dX10_distanceOf_18, dX10_distanceOf_20, dX10_distanceOf_23⟩, rfl, q228, q229, Or.inr (Or.inr ⟨rfl, rfl⟩), by decide, by decide, by decide⟩ (Nat.le_of_ble_eq_true rfl)
  · refine x_aload_n (pc := 24) dX10_distanceOf_24 (i := 0) rfl rfl ?_
    refine x_gR (pc := 25) (k := 0) fcX10 dX10_distanceOf_25 q16 (by decide) rfl (fun v4 => ?_)
    refine x_gR (pc := 28) (k := 1) fcX7 dX10_distanceOf_28 q344 (by decide) rfl (fun v5 => ?_)
    refine x_iload_n (pc := 31) dX10_distanceOf_31 (i := 1) rfl rfl ?_
    refine x_callVi (pc := 32) (As := [.int p0]) (rest := []) (vx := fun a => a) (μf := fun _ => μ) fcX5 (mX5_distance S μ cx cy v5 p0) (fun _ => rfl) rfl (fun _ h => ifok h) dX10_distanceOf_32 q843 kX5_distance rfl ⟨by decide, by decide⟩ rfl (Nat.le_of_ble_eq_true rfl) (fun v6 => ?_)
    refine x_if_ne (pc := 35) (tgt := 48) dX10_distanceOf_35 (by decide) ?_ ?_
    · exact x_throw rfl ⟨94, 246, 98, "it is a letter", dX10_distanceOf_38, dX10_distanceOf_41, Or.inl ⟨dX10_distanceOf_42, dX10_distanceOf_44, dX10_distanceOf_47⟩, rfl, q157, q158, Or.inr (Or.inl ⟨rfl, rfl⟩), by decide, by decide, by decide⟩ (Nat.le_of_ble_eq_true rfl)
    · refine x_aload_n (pc := 48) dX10_distanceOf_48 (i := 0) rfl rfl ?_
      refine x_gR (pc := 49) (k := 0) fcX10 dX10_distanceOf_49 q16 (by decide) rfl (fun v7 => ?_)
      refine x_gR (pc := 52) (k := 1) fcX7 dX10_distanceOf_52 q344 (by decide) rfl (fun v8 => ?_)
      refine x_iload_n (pc := 55) dX10_distanceOf_55 (i := 1) rfl rfl ?_
      refine x_callVi (pc := 56) (As := [.int p0]) (rest := []) (vx := fun a => a) (μf := fun _ => μ) fcX5 (mX5_distance S μ cx cy v8 p0) (fun _ => rfl) rfl (fun _ h => ifok h) dX10_distanceOf_56 q843 kX5_distance rfl ⟨by decide, by decide⟩ rfl (Nat.le_of_ble_eq_true rfl) (fun v9 => ?_)
      exact x_iret rfl dX10_distanceOf_59 rfl rfl
theorem mX10_distanceOf (S : mSh) (μ : mMm) (cx cy : Nat) (o : Nat) (p0 : Int32) : mMet MX10_distanceOf [.ref o, .int p0] (S, μ, cx, cy) (iQI S μ cx cy) (fX10_distanceOf S μ o p0) := mMet.of rfl (by decide) rfl (fun h => by cases h) (Nat.le_of_ble_eq_true rfl) (mX.ck (fun _ => xbX10_distanceOf o p0))
/-! SlideMills.lengthOf(I)I -/
def bX10_lengthOf (S : mSh) (μ : mMm) (o : Nat) (p0 : Int32) : Option (Int32 ⊕ Nat) := (gR S o 10 0).bind fun v1 => (gR S v1 7 1).bind fun v2 => (fX5_has S μ v2 p0).bind fun v3 => if v3 = 0 then (some (.inr 2)) else ((gR S o 10 0).bind fun v4 => (gR S v4 7 1).bind fun v5 => (fX5_length S μ v5 p0).bind fun v6 => some (.inl v6))
def fX10_lengthOf (S : mSh) (μ : mMm) (o : Nat) (p0 : Int32) : Option (Int32 ⊕ Nat) := if mok S o 10 = true then bX10_lengthOf S μ o p0 else none
abbrev MX10_lengthOf : mM := ((yX10_lengthOf, cX10_lengthOf, 2, (some .int)), (6, 90), (false, false), RX10, eT)
theorem kX10_lengthOf : mCalV MX10_lengthOf RX10 1 := ⟨q879, q880, q2, q881, by decide +kernel⟩
set_option maxHeartbeats 4000000 in
theorem xbX10_lengthOf {n0 c0 s0 cx cy : Nat} {S : mSh} {μ : mMm} (o : Nat) (p0 : Int32) : mX MX10_lengthOf n0 c0 s0 0 [some (.ref o), some (.int p0)] [] (S, μ, cx, cy) (iQI S μ cx cy) (bX10_lengthOf S μ o p0) := by
  unfold bX10_lengthOf
  refine x_aload_n (pc := 0) dX10_lengthOf_0 (i := 0) rfl rfl ?_
  refine x_gR (pc := 1) (k := 0) fcX10 dX10_lengthOf_1 q16 (by decide) rfl (fun v1 => ?_)
  refine x_gR (pc := 4) (k := 1) fcX7 dX10_lengthOf_4 q344 (by decide) rfl (fun v2 => ?_)
  refine x_iload_n (pc := 7) dX10_lengthOf_7 (i := 1) rfl rfl ?_
  refine x_callVi (pc := 8) (As := [.int p0]) (rest := []) (vx := fun a => a) (μf := fun _ => μ) fcX5 (mX5_has S μ cx cy v2 p0) (fun _ => rfl) rfl (fun _ h => ifok h) dX10_lengthOf_8 q839 kX5_has rfl ⟨by decide, by decide⟩ rfl (Nat.le_of_ble_eq_true rfl) (fun v3 => ?_)
  refine x_if_ne (pc := 11) (tgt := 24) dX10_lengthOf_11 (by decide) ?_ ?_
  · exact x_throw rfl ⟨110, 236, 114, "no such token", dX10_lengthOf_14, dX10_lengthOf_17, Or.inl ⟨dX10_lengthOf_18, dX10_lengthOf_20, dX10_lengthOf_23⟩, rfl, q228, q229, Or.inr (Or.inr ⟨rfl, rfl⟩), by decide, by decide, by decide⟩ (Nat.le_of_ble_eq_true rfl)
  · refine x_aload_n (pc := 24) dX10_lengthOf_24 (i := 0) rfl rfl ?_
    refine x_gR (pc := 25) (k := 0) fcX10 dX10_lengthOf_25 q16 (by decide) rfl (fun v4 => ?_)
    refine x_gR (pc := 28) (k := 1) fcX7 dX10_lengthOf_28 q344 (by decide) rfl (fun v5 => ?_)
    refine x_iload_n (pc := 31) dX10_lengthOf_31 (i := 1) rfl rfl ?_
    refine x_callVi (pc := 32) (As := [.int p0]) (rest := []) (vx := fun a => a) (μf := fun _ => μ) fcX5 (mX5_length S μ cx cy v5 p0) (fun _ => rfl) rfl (fun _ h => ifok h) dX10_lengthOf_32 q882 kX5_length rfl ⟨by decide, by decide⟩ rfl (Nat.le_of_ble_eq_true rfl) (fun v6 => ?_)
    exact x_iret rfl dX10_lengthOf_35 rfl rfl
theorem mX10_lengthOf (S : mSh) (μ : mMm) (cx cy : Nat) (o : Nat) (p0 : Int32) : mMet MX10_lengthOf [.ref o, .int p0] (S, μ, cx, cy) (iQI S μ cx cy) (fX10_lengthOf S μ o p0) := mMet.of rfl (by decide) rfl (fun h => by cases h) (Nat.le_of_ble_eq_true rfl) (mX.ck (fun _ => xbX10_lengthOf o p0))
/-! SlideMills.sackCost()I -/
def bX10_sackCost (S : mSh) (μ : mMm) (o : Nat) : Option (Int32) := (gR S o 10 0).bind fun v1 => (gR S v1 7 1).bind fun v2 => (gR S o 10 0).bind fun v3 => (gR S v3 7 2).bind fun v4 => (fX5_cost S μ v2 v4).bind fun v5 => some v5
def fX10_sackCost (S : mSh) (μ : mMm) (o : Nat) : Option (Int32) := if mok S o 10 = true then bX10_sackCost S μ o else none
abbrev MX10_sackCost : mM := ((yX10_sackCost, cX10_sackCost, 1, (some .int)), (2, 44), (false, false), RX10, eT)
theorem kX10_sackCost : mCalV MX10_sackCost RX10 0 := ⟨q888, q889, q2, q890, by decide +kernel⟩
set_option maxHeartbeats 4000000 in
theorem xbX10_sackCost {n0 c0 s0 cx cy : Nat} {S : mSh} {μ : mMm} (o : Nat) : mX MX10_sackCost n0 c0 s0 0 [some (.ref o)] [] (S, μ, cx, cy) (iPI S μ cx cy) (bX10_sackCost S μ o) := by
  unfold bX10_sackCost
  refine x_aload_n (pc := 0) dX10_sackCost_0 (i := 0) rfl rfl ?_
  refine x_gR (pc := 1) (k := 0) fcX10 dX10_sackCost_1 q16 (by decide) rfl (fun v1 => ?_)
  refine x_gR (pc := 4) (k := 1) fcX7 dX10_sackCost_4 q344 (by decide) rfl (fun v2 => ?_)
  refine x_aload_n (pc := 7) dX10_sackCost_7 (i := 0) rfl rfl ?_
  refine x_gR (pc := 8) (k := 0) fcX10 dX10_sackCost_8 q16 (by decide) rfl (fun v3 => ?_)
  refine x_gR (pc := 11) (k := 2) fcX7 dX10_sackCost_11 q31 (by decide) rfl (fun v4 => ?_)
  refine x_callVi (pc := 14) (As := [.ref v4]) (rest := []) (vx := fun a => a) (μf := fun _ => μ) fcX5 (mX5_cost S μ cx cy v2 v4) (fun _ => rfl) rfl (fun _ h => ifok h) dX10_sackCost_14 q891 kX5_cost rfl ⟨by decide, by decide⟩ rfl (Nat.le_of_ble_eq_true rfl) (fun v5 => ?_)
  exact x_iret rfl dX10_sackCost_17 rfl rfl
theorem mX10_sackCost (S : mSh) (μ : mMm) (cx cy : Nat) (o : Nat) : mMet MX10_sackCost [.ref o] (S, μ, cx, cy) (iPI S μ cx cy) (fX10_sackCost S μ o) := mMet.of rfl (by decide) rfl (fun h => by cases h) (Nat.le_of_ble_eq_true rfl) (mX.ck (fun _ => xbX10_sackCost o))
/-! SlideMills.sackLetters()I -/
def bX10_sackLetters (S : mSh) (μ : mMm) (o : Nat) : Option (Int32) := (gR S o 10 0).bind fun v1 => (gR S v1 7 1).bind fun v2 => (fX5_letters S μ v2).bind fun v3 => some v3
def fX10_sackLetters (S : mSh) (μ : mMm) (o : Nat) : Option (Int32) := if mok S o 10 = true then bX10_sackLetters S μ o else none
abbrev MX10_sackLetters : mM := ((yX10_sackLetters, cX10_sackLetters, 1, (some .int)), (3, 64), (false, false), RX10, eT)
theorem kX10_sackLetters : mCalV MX10_sackLetters RX10 0 := ⟨q906, q907, q2, q908, by decide +kernel⟩
set_option maxHeartbeats 4000000 in
theorem xbX10_sackLetters {n0 c0 s0 cx cy : Nat} {S : mSh} {μ : mMm} (o : Nat) : mX MX10_sackLetters n0 c0 s0 0 [some (.ref o)] [] (S, μ, cx, cy) (iPI S μ cx cy) (bX10_sackLetters S μ o) := by
  unfold bX10_sackLetters
  refine x_aload_n (pc := 0) dX10_sackLetters_0 (i := 0) rfl rfl ?_
  refine x_gR (pc := 1) (k := 0) fcX10 dX10_sackLetters_1 q16 (by decide) rfl (fun v1 => ?_)
  refine x_gR (pc := 4) (k := 1) fcX7 dX10_sackLetters_4 q344 (by decide) rfl (fun v2 => ?_)
  refine x_callVi (pc := 7) (As := []) (rest := []) (vx := fun a => a) (μf := fun _ => μ) fcX5 (mX5_letters S μ cx cy v2) (fun _ => rfl) rfl (fun _ h => ifok h) dX10_sackLetters_7 q909 kX5_letters rfl ⟨by decide, by decide⟩ rfl (Nat.le_of_ble_eq_true rfl) (fun v3 => ?_)
  exact x_iret rfl dX10_sackLetters_10 rfl rfl
theorem mX10_sackLetters (S : mSh) (μ : mMm) (cx cy : Nat) (o : Nat) : mMet MX10_sackLetters [.ref o] (S, μ, cx, cy) (iPI S μ cx cy) (fX10_sackLetters S μ o) := mMet.of rfl (by decide) rfl (fun h => by cases h) (Nat.le_of_ble_eq_true rfl) (mX.ck (fun _ => xbX10_sackLetters o))
/-! SlideMills.wrongToken()I -/
def bX10_wrongToken (S : mSh) (μ : mMm) (o : Nat) : Option (Int32 × mMm) := (gR S o 10 8).bind fun v1 => (gR S o 10 0).bind fun v2 => (gR S v2 7 1).bind fun v3 => (fX8_run S μ v1 v3).bind fun m4 => (gR S o 10 8).bind fun v5 => (gI S m4 v5 8 1).bind fun v6 => some (v6, m4)
def fX10_wrongToken (S : mSh) (μ : mMm) (o : Nat) : Option (Int32 × mMm) := if mok S o 10 = true then bX10_wrongToken S μ o else none
abbrev MX10_wrongToken : mM := ((yX10_wrongToken, cX10_wrongToken, 1, (some .int)), (4, 89), (false, false), RX10, eT)
theorem kX10_wrongToken : mCalV MX10_wrongToken RX10 0 := ⟨q923, q924, q2, q925, by decide +kernel⟩
set_option maxHeartbeats 4000000 in
theorem xbX10_wrongToken {n0 c0 s0 cx cy : Nat} {S : mSh} {μ : mMm} (o : Nat) : mX MX10_wrongToken n0 c0 s0 0 [some (.ref o)] [] (S, μ, cx, cy) (iMI S cx cy) (bX10_wrongToken S μ o) := by
  unfold bX10_wrongToken
  refine x_aload_n (pc := 0) dX10_wrongToken_0 (i := 0) rfl rfl ?_
  refine x_gR (pc := 1) (k := 8) fcX10 dX10_wrongToken_1 q44 (by decide) rfl (fun v1 => ?_)
  refine x_aload_n (pc := 4) dX10_wrongToken_4 (i := 0) rfl rfl ?_
  refine x_gR (pc := 5) (k := 0) fcX10 dX10_wrongToken_5 q16 (by decide) rfl (fun v2 => ?_)
  refine x_gR (pc := 8) (k := 1) fcX7 dX10_wrongToken_8 q344 (by decide) rfl (fun v3 => ?_)
  refine x_callVv (pc := 11) (As := [.ref v3]) (rest := []) (μf := fun a => a) fcX8 (mX8_run S μ cx cy v1 v3) (fun _ => rfl) rfl (fun _ h => ifok h) dX10_wrongToken_11 q461 kX8_run rfl ⟨by decide, by decide⟩ rfl (Nat.le_of_ble_eq_true rfl) (fun m4 => ?_)
  refine x_aload_n (pc := 14) dX10_wrongToken_14 (i := 0) rfl rfl ?_
  refine x_gR (pc := 15) (k := 8) fcX10 dX10_wrongToken_15 q44 (by decide) rfl (fun v5 => ?_)
  refine x_gI (pc := 18) (k := 1) fcX8 dX10_wrongToken_18 q926 (by decide) rfl (fun v6 => ?_)
  exact x_iret rfl dX10_wrongToken_21 rfl rfl
theorem mX10_wrongToken (S : mSh) (μ : mMm) (cx cy : Nat) (o : Nat) : mMet MX10_wrongToken [.ref o] (S, μ, cx, cy) (iMI S cx cy) (fX10_wrongToken S μ o) := mMet.of rfl (by decide) rfl (fun h => by cases h) (Nat.le_of_ble_eq_true rfl) (mX.ck (fun _ => xbX10_wrongToken o))
/-! SlideMills.wrongReason()I -/
def bX10_wrongReason (S : mSh) (μ : mMm) (o : Nat) : Option (Int32 × mMm) := (gR S o 10 8).bind fun v1 => (gR S o 10 0).bind fun v2 => (gR S v2 7 1).bind fun v3 => (fX8_run S μ v1 v3).bind fun m4 => (gR S o 10 8).bind fun v5 => (gI S m4 v5 8 2).bind fun v6 => some (v6, m4)
def fX10_wrongReason (S : mSh) (μ : mMm) (o : Nat) : Option (Int32 × mMm) := if mok S o 10 = true then bX10_wrongReason S μ o else none
abbrev MX10_wrongReason : mM := ((yX10_wrongReason, cX10_wrongReason, 1, (some .int)), (4, 89), (false, false), RX10, eT)
theorem kX10_wrongReason : mCalV MX10_wrongReason RX10 0 := ⟨q932, q933, q2, q934, by decide +kernel⟩
set_option maxHeartbeats 4000000 in
theorem xbX10_wrongReason {n0 c0 s0 cx cy : Nat} {S : mSh} {μ : mMm} (o : Nat) : mX MX10_wrongReason n0 c0 s0 0 [some (.ref o)] [] (S, μ, cx, cy) (iMI S cx cy) (bX10_wrongReason S μ o) := by
  unfold bX10_wrongReason
  refine x_aload_n (pc := 0) dX10_wrongReason_0 (i := 0) rfl rfl ?_
  refine x_gR (pc := 1) (k := 8) fcX10 dX10_wrongReason_1 q44 (by decide) rfl (fun v1 => ?_)
  refine x_aload_n (pc := 4) dX10_wrongReason_4 (i := 0) rfl rfl ?_
  refine x_gR (pc := 5) (k := 0) fcX10 dX10_wrongReason_5 q16 (by decide) rfl (fun v2 => ?_)
  refine x_gR (pc := 8) (k := 1) fcX7 dX10_wrongReason_8 q344 (by decide) rfl (fun v3 => ?_)
  refine x_callVv (pc := 11) (As := [.ref v3]) (rest := []) (μf := fun a => a) fcX8 (mX8_run S μ cx cy v1 v3) (fun _ => rfl) rfl (fun _ h => ifok h) dX10_wrongReason_11 q461 kX8_run rfl ⟨by decide, by decide⟩ rfl (Nat.le_of_ble_eq_true rfl) (fun m4 => ?_)
  refine x_aload_n (pc := 14) dX10_wrongReason_14 (i := 0) rfl rfl ?_
  refine x_gR (pc := 15) (k := 8) fcX10 dX10_wrongReason_15 q44 (by decide) rfl (fun v5 => ?_)
  refine x_gI (pc := 18) (k := 2) fcX8 dX10_wrongReason_18 q459 (by decide) rfl (fun v6 => ?_)
  exact x_iret rfl dX10_wrongReason_21 rfl rfl
theorem mX10_wrongReason (S : mSh) (μ : mMm) (cx cy : Nat) (o : Nat) : mMet MX10_wrongReason [.ref o] (S, μ, cx, cy) (iMI S cx cy) (fX10_wrongReason S μ o) := mMet.of rfl (by decide) rfl (fun h => by cases h) (Nat.le_of_ble_eq_true rfl) (mX.ck (fun _ => xbX10_wrongReason o))
/-! SlideMills.isForText()Z -/
def bX10_isForText (S : mSh) (μ : mMm) (o : Nat) : Option (Int32 × mMm) := (gR S o 10 8).bind fun v1 => (gR S o 10 0).bind fun v2 => (gR S v2 7 1).bind fun v3 => (fX8_run S μ v1 v3).bind fun m4 => (gR S o 10 8).bind fun v5 => (gI S m4 v5 8 2).bind fun v6 => if v6 = 0 then ((gR S o 10 8).bind fun v7 => (gR S v7 8 0).bind fun v8 => (gR S o 10 0).bind fun v9 => (gR S v9 7 0).bind fun v10 => (fX2_isLike S m4 v8 v10).bind fun v11 => if v11 = 0 then (some ((0 : Int32), m4)) else (some ((1 : Int32), m4))) else (some ((0 : Int32), m4))
def fX10_isForText (S : mSh) (μ : mMm) (o : Nat) : Option (Int32 × mMm) := if mok S o 10 = true then bX10_isForText S μ o else none
abbrev MX10_isForText : mM := ((yX10_isForText, cX10_isForText, 1, (some .boolean)), (4, 89), (false, false), RX10, eT)
theorem kX10_isForText : mCalV MX10_isForText RX10 0 := ⟨q940, q941, q2, q942, by decide +kernel⟩
set_option maxHeartbeats 4000000 in
theorem xbX10_isForText {n0 c0 s0 cx cy : Nat} {S : mSh} {μ : mMm} (o : Nat) : mX MX10_isForText n0 c0 s0 0 [some (.ref o)] [] (S, μ, cx, cy) (iMI S cx cy) (bX10_isForText S μ o) := by
  unfold bX10_isForText
  refine x_aload_n (pc := 0) dX10_isForText_0 (i := 0) rfl rfl ?_
  refine x_gR (pc := 1) (k := 8) fcX10 dX10_isForText_1 q44 (by decide) rfl (fun v1 => ?_)
  refine x_aload_n (pc := 4) dX10_isForText_4 (i := 0) rfl rfl ?_
  refine x_gR (pc := 5) (k := 0) fcX10 dX10_isForText_5 q16 (by decide) rfl (fun v2 => ?_)
  refine x_gR (pc := 8) (k := 1) fcX7 dX10_isForText_8 q344 (by decide) rfl (fun v3 => ?_)
  refine x_callVv (pc := 11) (As := [.ref v3]) (rest := []) (μf := fun a => a) fcX8 (mX8_run S μ cx cy v1 v3) (fun _ => rfl) rfl (fun _ h => ifok h) dX10_isForText_11 q461 kX8_run rfl ⟨by decide, by decide⟩ rfl (Nat.le_of_ble_eq_true rfl) (fun m4 => ?_)
  refine x_aload_n (pc := 14) dX10_isForText_14 (i := 0) rfl rfl ?_
  refine x_gR (pc := 15) (k := 8) fcX10 dX10_isForText_15 q44 (by decide) rfl (fun v5 => ?_)
  refine x_gI (pc := 18) (k := 2) fcX8 dX10_isForText_18 q459 (by decide) rfl (fun v6 => ?_)
  refine x_if_ne (pc := 21) (tgt := 48) dX10_isForText_21 (by decide) ?_ ?_
  · refine x_aload_n (pc := 24) dX10_isForText_24 (i := 0) rfl rfl ?_
    refine x_gR (pc := 25) (k := 8) fcX10 dX10_isForText_25 q44 (by decide) rfl (fun v7 => ?_)
    refine x_gR (pc := 28) (k := 0) fcX8 dX10_isForText_28 q460 (by decide) rfl (fun v8 => ?_)
    refine x_aload_n (pc := 31) dX10_isForText_31 (i := 0) rfl rfl ?_
    refine x_gR (pc := 32) (k := 0) fcX10 dX10_isForText_32 q16 (by decide) rfl (fun v9 => ?_)
    refine x_gR (pc := 35) (k := 0) fcX7 dX10_isForText_35 q30 (by decide) rfl (fun v10 => ?_)
    refine x_callVi (pc := 38) (As := [.ref v10]) (rest := []) (vx := fun a => a) (μf := fun _ => m4) fcX2 (mX2_isLike S m4 cx cy v8 v10) (fun _ => rfl) rfl (fun _ h => ifok h) dX10_isForText_38 q943 kX2_isLike rfl ⟨by decide, by decide⟩ rfl (Nat.le_of_ble_eq_true rfl) (fun v11 => ?_)
    refine x_if_eq (pc := 41) (tgt := 48) dX10_isForText_41 (by decide) ?_ ?_
    · refine x_iconst (pc := 48) (v := 0) dX10_isForText_48 (by decide) ?_
      exact x_iret rfl dX10_isForText_49 rfl rfl
    · refine x_iconst (pc := 44) (v := 1) dX10_isForText_44 (by decide) ?_
      refine x_goto (pc := 45) (tgt := 49) dX10_isForText_45 (by decide) ?_
      exact x_iret rfl dX10_isForText_49 rfl rfl
  · refine x_iconst (pc := 48) (v := 0) dX10_isForText_48 (by decide) ?_
    exact x_iret rfl dX10_isForText_49 rfl rfl
theorem mX10_isForText (S : mSh) (μ : mMm) (cx cy : Nat) (o : Nat) : mMet MX10_isForText [.ref o] (S, μ, cx, cy) (iMI S cx cy) (fX10_isForText S μ o) := mMet.of rfl (by decide) rfl (fun h => by cases h) (Nat.le_of_ble_eq_true rfl) (mX.ck (fun _ => xbX10_isForText o))
/-! SlideMills.repeatLength(I)I -/
def bX10_repeatLength (S : mSh) (μ : mMm) (o : Nat) (p0 : Int32) : Option (Int32 ⊕ Nat) := (gR S o 10 0).bind fun v1 => (gR S v1 7 0).bind fun v2 => (fX2_has S μ v2 p0).bind fun v3 => if v3 = 0 then (some (.inr 2)) else ((gR S o 10 5).bind fun v4 => (gR S o 10 0).bind fun v5 => (gR S v5 7 2).bind fun v6 => (gI S μ v6 6 0).bind fun v7 => (fX3_longestAt S μ v4 p0 v7).bind fun v8 => some (.inl v8))
def fX10_repeatLength (S : mSh) (μ : mMm) (o : Nat) (p0 : Int32) : Option (Int32 ⊕ Nat) := if mok S o 10 = true then bX10_repeatLength S μ o p0 else none
abbrev MX10_repeatLength : mM := ((yX10_repeatLength, cX10_repeatLength, 2, (some .int)), (6, 90), (false, false), RX10, eT)
theorem kX10_repeatLength : mCalV MX10_repeatLength RX10 1 := ⟨q960, q961, q2, q962, by decide +kernel⟩
set_option maxHeartbeats 4000000 in
theorem xbX10_repeatLength {n0 c0 s0 cx cy : Nat} {S : mSh} {μ : mMm} (o : Nat) (p0 : Int32) : mX MX10_repeatLength n0 c0 s0 0 [some (.ref o), some (.int p0)] [] (S, μ, cx, cy) (iQI S μ cx cy) (bX10_repeatLength S μ o p0) := by
  unfold bX10_repeatLength
  refine x_aload_n (pc := 0) dX10_repeatLength_0 (i := 0) rfl rfl ?_
  refine x_gR (pc := 1) (k := 0) fcX10 dX10_repeatLength_1 q16 (by decide) rfl (fun v1 => ?_)
  refine x_gR (pc := 4) (k := 0) fcX7 dX10_repeatLength_4 q30 (by decide) rfl (fun v2 => ?_)
  refine x_iload_n (pc := 7) dX10_repeatLength_7 (i := 1) rfl rfl ?_
  refine x_callVi (pc := 8) (As := [.int p0]) (rest := []) (vx := fun a => a) (μf := fun _ => μ) fcX2 (mX2_has S μ cx cy v2 p0) (fun _ => rfl) rfl (fun _ h => ifok h) dX10_repeatLength_8 q230 kX2_has rfl ⟨by decide, by decide⟩ rfl (Nat.le_of_ble_eq_true rfl) (fun v3 => ?_)
  refine x_if_ne (pc := 11) (tgt := 24) dX10_repeatLength_11 (by decide) ?_ ?_
  · exact x_throw rfl ⟨110, 112, 114, "no such place", dX10_repeatLength_14, dX10_repeatLength_17, Or.inl ⟨dX10_repeatLength_18, dX10_repeatLength_20, dX10_repeatLength_23⟩, rfl, q228, q229, Or.inr (Or.inr ⟨rfl, rfl⟩), by decide, by decide, by decide⟩ (Nat.le_of_ble_eq_true rfl)
  · refine x_aload_n (pc := 24) dX10_repeatLength_24 (i := 0) rfl rfl ?_
    refine x_gR (pc := 25) (k := 5) fcX10 dX10_repeatLength_25 q32 (by decide) rfl (fun v4 => ?_)
    refine x_iload_n (pc := 28) dX10_repeatLength_28 (i := 1) rfl rfl ?_
    refine x_aload_n (pc := 29) dX10_repeatLength_29 (i := 0) rfl rfl ?_
    refine x_gR (pc := 30) (k := 0) fcX10 dX10_repeatLength_30 q16 (by decide) rfl (fun v5 => ?_)
    refine x_gR (pc := 33) (k := 2) fcX7 dX10_repeatLength_33 q31 (by decide) rfl (fun v6 => ?_)
    refine x_gI (pc := 36) (k := 0) fcX6 dX10_repeatLength_36 q277 (by decide) rfl (fun v7 => ?_)
    refine x_callVi (pc := 39) (As := [.int p0, .int v7]) (rest := []) (vx := fun a => a) (μf := fun _ => μ) fcX3 (mX3_longestAt S μ cx cy v4 p0 v7) (fun _ => rfl) rfl (fun _ h => ifok h) dX10_repeatLength_39 q963 kX3_longestAt rfl ⟨by decide, by decide⟩ rfl (Nat.le_of_ble_eq_true rfl) (fun v8 => ?_)
    exact x_iret rfl dX10_repeatLength_42 rfl rfl
theorem mX10_repeatLength (S : mSh) (μ : mMm) (cx cy : Nat) (o : Nat) (p0 : Int32) : mMet MX10_repeatLength [.ref o, .int p0] (S, μ, cx, cy) (iQI S μ cx cy) (fX10_repeatLength S μ o p0) := mMet.of rfl (by decide) rfl (fun h => by cases h) (Nat.le_of_ble_eq_true rfl) (mX.ck (fun _ => xbX10_repeatLength o p0))
/-! SlideMills.repeatLengthByPairs(I)I -/
def bX10_repeatLengthByPairs (S : mSh) (μ : mMm) (o : Nat) (p0 : Int32) : Option ((Int32 ⊕ Nat) × mMm) := (gR S o 10 0).bind fun v1 => (gR S v1 7 0).bind fun v2 => (fX2_has S μ v2 p0).bind fun v3 => if v3 = 0 then (some (.inr 2, μ)) else ((gR S o 10 5).bind fun v4 => (gR S v4 3 2).bind fun v5 => (gR S o 10 0).bind fun v6 => (gR S v6 7 0).bind fun v7 => (fX0_read S μ v5 v7).bind fun m8 => (gR S o 10 5).bind fun v9 => (fX3_longestByPairs S m8 v9 p0).bind fun v10 => some (.inl v10, m8))
def fX10_repeatLengthByPairs (S : mSh) (μ : mMm) (o : Nat) (p0 : Int32) : Option ((Int32 ⊕ Nat) × mMm) := if mok S o 10 = true then bX10_repeatLengthByPairs S μ o p0 else none
abbrev MX10_repeatLengthByPairs : mM := ((yX10_repeatLengthByPairs, cX10_repeatLengthByPairs, 2, (some .int)), (6, 90), (false, false), RX10, eT)
theorem kX10_repeatLengthByPairs : mCalV MX10_repeatLengthByPairs RX10 1 := ⟨q972, q973, q2, q974, by decide +kernel⟩
set_option maxHeartbeats 4000000 in
theorem xbX10_repeatLengthByPairs {n0 c0 s0 cx cy : Nat} {S : mSh} {μ : mMm} (o : Nat) (p0 : Int32) : mX MX10_repeatLengthByPairs n0 c0 s0 0 [some (.ref o), some (.int p0)] [] (S, μ, cx, cy) (iTI S cx cy) (bX10_repeatLengthByPairs S μ o p0) := by
  unfold bX10_repeatLengthByPairs
  refine x_aload_n (pc := 0) dX10_repeatLengthByPairs_0 (i := 0) rfl rfl ?_
  refine x_gR (pc := 1) (k := 0) fcX10 dX10_repeatLengthByPairs_1 q16 (by decide) rfl (fun v1 => ?_)
  refine x_gR (pc := 4) (k := 0) fcX7 dX10_repeatLengthByPairs_4 q30 (by decide) rfl (fun v2 => ?_)
  refine x_iload_n (pc := 7) dX10_repeatLengthByPairs_7 (i := 1) rfl rfl ?_
  refine x_callVi (pc := 8) (As := [.int p0]) (rest := []) (vx := fun a => a) (μf := fun _ => μ) fcX2 (mX2_has S μ cx cy v2 p0) (fun _ => rfl) rfl (fun _ h => ifok h) dX10_repeatLengthByPairs_8 q230 kX2_has rfl ⟨by decide, by decide⟩ rfl (Nat.le_of_ble_eq_true rfl) (fun v3 => ?_)
  refine x_if_ne (pc := 11) (tgt := 24) dX10_repeatLengthByPairs_11 (by decide) ?_ ?_
  · exact x_throw rfl ⟨110, 112, 114, "no such place", dX10_repeatLengthByPairs_14, dX10_repeatLengthByPairs_17, Or.inl ⟨dX10_repeatLengthByPairs_18, dX10_repeatLengthByPairs_20, dX10_repeatLengthByPairs_23⟩, rfl, q228, q229, Or.inr (Or.inr ⟨rfl, rfl⟩), by decide, by decide, by decide⟩ (Nat.le_of_ble_eq_true rfl)
  · refine x_aload_n (pc := 24) dX10_repeatLengthByPairs_24 (i := 0) rfl rfl ?_
    refine x_gR (pc := 25) (k := 5) fcX10 dX10_repeatLengthByPairs_25 q32 (by decide) rfl (fun v4 => ?_)
    refine x_gR (pc := 28) (k := 2) fcX3 dX10_repeatLengthByPairs_28 q975 (by decide) rfl (fun v5 => ?_)
    refine x_aload_n (pc := 31) dX10_repeatLengthByPairs_31 (i := 0) rfl rfl ?_
    refine x_gR (pc := 32) (k := 0) fcX10 dX10_repeatLengthByPairs_32 q16 (by decide) rfl (fun v6 => ?_)
    refine x_gR (pc := 35) (k := 0) fcX7 dX10_repeatLengthByPairs_35 q30 (by decide) rfl (fun v7 => ?_)
    refine x_callVv (pc := 38) (As := [.ref v7]) (rest := []) (μf := fun a => a) fcX0 (mX0_read S μ cx cy v5 v7) (fun _ => rfl) rfl (fun _ h => ifok h) dX10_repeatLengthByPairs_38 q976 kX0_read rfl ⟨by decide, by decide⟩ rfl (Nat.le_of_ble_eq_true rfl) (fun m8 => ?_)
    refine x_aload_n (pc := 41) dX10_repeatLengthByPairs_41 (i := 0) rfl rfl ?_
    refine x_gR (pc := 42) (k := 5) fcX10 dX10_repeatLengthByPairs_42 q32 (by decide) rfl (fun v9 => ?_)
    refine x_iload_n (pc := 45) dX10_repeatLengthByPairs_45 (i := 1) rfl rfl ?_
    refine x_callVi (pc := 46) (As := [.int p0]) (rest := []) (vx := fun a => a) (μf := fun _ => m8) fcX3 (mX3_longestByPairs S m8 cx cy v9 p0) (fun _ => rfl) rfl (fun _ h => ifok h) dX10_repeatLengthByPairs_46 q986 kX3_longestByPairs rfl ⟨by decide, by decide⟩ rfl (Nat.le_of_ble_eq_true rfl) (fun v10 => ?_)
    exact x_iret rfl dX10_repeatLengthByPairs_49 rfl rfl
theorem mX10_repeatLengthByPairs (S : mSh) (μ : mMm) (cx cy : Nat) (o : Nat) (p0 : Int32) : mMet MX10_repeatLengthByPairs [.ref o, .int p0] (S, μ, cx, cy) (iTI S cx cy) (fX10_repeatLengthByPairs S μ o p0) := mMet.of rfl (by decide) rfl (fun h => by cases h) (Nat.le_of_ble_eq_true rfl) (mX.ck (fun _ => xbX10_repeatLengthByPairs o p0))
/-! SlideMills.repeatDistance(I)I -/
def bX10_repeatDistance (S : mSh) (μ : mMm) (o : Nat) (p0 : Int32) : Option (Int32 ⊕ Nat) := (gR S o 10 0).bind fun v1 => (gR S v1 7 0).bind fun v2 => (fX2_has S μ v2 p0).bind fun v3 => if v3 = 0 then (some (.inr 2)) else ((gR S o 10 5).bind fun v4 => (gR S o 10 0).bind fun v5 => (gR S v5 7 2).bind fun v6 => (gI S μ v6 6 0).bind fun v7 => (fX3_longestAt S μ v4 p0 v7).bind fun v8 => (gR S o 10 5).bind fun v9 => (fX3_leastDistance S μ v9 p0 v8).bind fun v10 => some (.inl v10))
def fX10_repeatDistance (S : mSh) (μ : mMm) (o : Nat) (p0 : Int32) : Option (Int32 ⊕ Nat) := if mok S o 10 = true then bX10_repeatDistance S μ o p0 else none
abbrev MX10_repeatDistance : mM := ((yX10_repeatDistance, cX10_repeatDistance, 3, (some .int)), (6, 90), (false, false), RX10, eT)
theorem kX10_repeatDistance : mCalV MX10_repeatDistance RX10 1 := ⟨q1010, q1011, q2, q1012, by decide +kernel⟩
set_option maxHeartbeats 4000000 in
theorem xbX10_repeatDistance {n0 c0 s0 cx cy : Nat} {S : mSh} {μ : mMm} (o : Nat) (p0 : Int32) : mX MX10_repeatDistance n0 c0 s0 0 [some (.ref o), some (.int p0), none] [] (S, μ, cx, cy) (iQI S μ cx cy) (bX10_repeatDistance S μ o p0) := by
  unfold bX10_repeatDistance
  refine x_aload_n (pc := 0) dX10_repeatDistance_0 (i := 0) rfl rfl ?_
  refine x_gR (pc := 1) (k := 0) fcX10 dX10_repeatDistance_1 q16 (by decide) rfl (fun v1 => ?_)
  refine x_gR (pc := 4) (k := 0) fcX7 dX10_repeatDistance_4 q30 (by decide) rfl (fun v2 => ?_)
  refine x_iload_n (pc := 7) dX10_repeatDistance_7 (i := 1) rfl rfl ?_
  refine x_callVi (pc := 8) (As := [.int p0]) (rest := []) (vx := fun a => a) (μf := fun _ => μ) fcX2 (mX2_has S μ cx cy v2 p0) (fun _ => rfl) rfl (fun _ h => ifok h) dX10_repeatDistance_8 q230 kX2_has rfl ⟨by decide, by decide⟩ rfl (Nat.le_of_ble_eq_true rfl) (fun v3 => ?_)
  refine x_if_ne (pc := 11) (tgt := 24) dX10_repeatDistance_11 (by decide) ?_ ?_
  · exact x_throw rfl ⟨110, 112, 114, "no such place", dX10_repeatDistance_14, dX10_repeatDistance_17, Or.inl ⟨dX10_repeatDistance_18, dX10_repeatDistance_20, dX10_repeatDistance_23⟩, rfl, q228, q229, Or.inr (Or.inr ⟨rfl, rfl⟩), by decide, by decide, by decide⟩ (Nat.le_of_ble_eq_true rfl)
  · refine x_aload_n (pc := 24) dX10_repeatDistance_24 (i := 0) rfl rfl ?_
    refine x_gR (pc := 25) (k := 5) fcX10 dX10_repeatDistance_25 q32 (by decide) rfl (fun v4 => ?_)
    refine x_iload_n (pc := 28) dX10_repeatDistance_28 (i := 1) rfl rfl ?_
    refine x_aload_n (pc := 29) dX10_repeatDistance_29 (i := 0) rfl rfl ?_
    refine x_gR (pc := 30) (k := 0) fcX10 dX10_repeatDistance_30 q16 (by decide) rfl (fun v5 => ?_)
    refine x_gR (pc := 33) (k := 2) fcX7 dX10_repeatDistance_33 q31 (by decide) rfl (fun v6 => ?_)
    refine x_gI (pc := 36) (k := 0) fcX6 dX10_repeatDistance_36 q277 (by decide) rfl (fun v7 => ?_)
    refine x_callVi (pc := 39) (As := [.int p0, .int v7]) (rest := []) (vx := fun a => a) (μf := fun _ => μ) fcX3 (mX3_longestAt S μ cx cy v4 p0 v7) (fun _ => rfl) rfl (fun _ h => ifok h) dX10_repeatDistance_39 q963 kX3_longestAt rfl ⟨by decide, by decide⟩ rfl (Nat.le_of_ble_eq_true rfl) (fun v8 => ?_)
    refine x_istore_n (pc := 42) dX10_repeatDistance_42 (i := 2) rfl (by decide) (l' := [some (.ref o), some (.int p0), some (.int v8)]) rfl ?_
    refine x_aload_n (pc := 43) dX10_repeatDistance_43 (i := 0) rfl rfl ?_
    refine x_gR (pc := 44) (k := 5) fcX10 dX10_repeatDistance_44 q32 (by decide) rfl (fun v9 => ?_)
    refine x_iload_n (pc := 47) dX10_repeatDistance_47 (i := 1) rfl rfl ?_
    refine x_iload_n (pc := 48) dX10_repeatDistance_48 (i := 2) rfl rfl ?_
    refine x_callVi (pc := 49) (As := [.int p0, .int v8]) (rest := []) (vx := fun a => a) (μf := fun _ => μ) fcX3 (mX3_leastDistance S μ cx cy v9 p0 v8) (fun _ => rfl) rfl (fun _ h => ifok h) dX10_repeatDistance_49 q1013 kX3_leastDistance rfl ⟨by decide, by decide⟩ rfl (Nat.le_of_ble_eq_true rfl) (fun v10 => ?_)
    exact x_iret rfl dX10_repeatDistance_52 rfl rfl
theorem mX10_repeatDistance (S : mSh) (μ : mMm) (cx cy : Nat) (o : Nat) (p0 : Int32) : mMet MX10_repeatDistance [.ref o, .int p0] (S, μ, cx, cy) (iQI S μ cx cy) (fX10_repeatDistance S μ o p0) := mMet.of rfl (by decide) rfl (fun h => by cases h) (Nat.le_of_ble_eq_true rfl) (mX.ck (fun _ => xbX10_repeatDistance o p0))
/-! SlideMills.costBy(I)I -/
def bX10_costBy (S : mSh) (μ : mMm) (o : Nat) (p0 : Int32) : Option ((Int32 ⊕ Nat) × mMm) := (fX10_isWay p0).bind fun v1 => if v1 = 0 then (some (.inr 0, μ)) else ((gR S o 10 6).bind fun v2 => (gR S o 10 7).bind fun v3 => (fX4_packBy S μ v2 p0 v3).bind fun m4 => (gR S o 10 7).bind fun v5 => (gR S o 10 0).bind fun v6 => (gR S v6 7 2).bind fun v7 => (fX5_cost S m4 v5 v7).bind fun v8 => some (.inl v8, m4))
def fX10_costBy (S : mSh) (μ : mMm) (o : Nat) (p0 : Int32) : Option ((Int32 ⊕ Nat) × mMm) := if mok S o 10 = true then bX10_costBy S μ o p0 else none
abbrev MX10_costBy : mM := ((yX10_costBy, cX10_costBy, 2, (some .int)), (6, 141), (false, false), RX10, eT)
theorem kX10_costBy : mCalV MX10_costBy RX10 1 := ⟨q1026, q1027, q2, q1028, by decide +kernel⟩
set_option maxHeartbeats 4000000 in
theorem xbX10_costBy {n0 c0 s0 cx cy : Nat} {S : mSh} {μ : mMm} (o : Nat) (p0 : Int32) : mX MX10_costBy n0 c0 s0 0 [some (.ref o), some (.int p0)] [] (S, μ, cx, cy) (iTI S cx cy) (bX10_costBy S μ o p0) := by
  unfold bX10_costBy
  refine x_iload_n (pc := 0) dX10_costBy_0 (i := 1) rfl rfl ?_
  refine x_callSi (pc := 1) (As := [.int p0]) (rest := []) (vx := fun a => a) (μf := fun _ => μ) (mX10_isWay S μ cx cy p0) (fun _ => rfl) rfl dX10_costBy_1 q346 kX10_isWay rfl ⟨by decide, by decide⟩ rfl (Nat.le_of_ble_eq_true rfl) (fun v1 => ?_)
  refine x_if_ne (pc := 4) (tgt := 17) dX10_costBy_4 (by decide) ?_ ?_
  · exact x_throw rfl ⟨81, 156, 85, "way out of range", dX10_costBy_7, dX10_costBy_10, Or.inl ⟨dX10_costBy_11, dX10_costBy_13, dX10_costBy_16⟩, rfl, q155, q156, Or.inl ⟨rfl, rfl⟩, by decide, by decide, by decide⟩ (Nat.le_of_ble_eq_true rfl)
  · refine x_aload_n (pc := 17) dX10_costBy_17 (i := 0) rfl rfl ?_
    refine x_gR (pc := 18) (k := 6) fcX10 dX10_costBy_18 q36 (by decide) rfl (fun v2 => ?_)
    refine x_iload_n (pc := 21) dX10_costBy_21 (i := 1) rfl rfl ?_
    refine x_aload_n (pc := 22) dX10_costBy_22 (i := 0) rfl rfl ?_
    refine x_gR (pc := 23) (k := 7) fcX10 dX10_costBy_23 q40 (by decide) rfl (fun v3 => ?_)
    refine x_callVv (pc := 26) (As := [.int p0, .ref v3]) (rest := []) (μf := fun a => a) fcX4 (mX4_packBy S μ cx cy v2 p0 v3) (fun _ => rfl) rfl (fun _ h => ifok h) dX10_costBy_26 q349 kX4_packBy rfl ⟨by decide, by decide⟩ rfl (Nat.le_of_ble_eq_true rfl) (fun m4 => ?_)
    refine x_aload_n (pc := 29) dX10_costBy_29 (i := 0) rfl rfl ?_
    refine x_gR (pc := 30) (k := 7) fcX10 dX10_costBy_30 q40 (by decide) rfl (fun v5 => ?_)
    refine x_aload_n (pc := 33) dX10_costBy_33 (i := 0) rfl rfl ?_
    refine x_gR (pc := 34) (k := 0) fcX10 dX10_costBy_34 q16 (by decide) rfl (fun v6 => ?_)
    refine x_gR (pc := 37) (k := 2) fcX7 dX10_costBy_37 q31 (by decide) rfl (fun v7 => ?_)
    refine x_callVi (pc := 40) (As := [.ref v7]) (rest := []) (vx := fun a => a) (μf := fun _ => m4) fcX5 (mX5_cost S m4 cx cy v5 v7) (fun _ => rfl) rfl (fun _ h => ifok h) dX10_costBy_40 q891 kX5_cost rfl ⟨by decide, by decide⟩ rfl (Nat.le_of_ble_eq_true rfl) (fun v8 => ?_)
    exact x_iret rfl dX10_costBy_43 rfl rfl
theorem mX10_costBy (S : mSh) (μ : mMm) (cx cy : Nat) (o : Nat) (p0 : Int32) : mMet MX10_costBy [.ref o, .int p0] (S, μ, cx, cy) (iTI S cx cy) (fX10_costBy S μ o p0) := mMet.of rfl (by decide) rfl (fun h => by cases h) (Nat.le_of_ble_eq_true rfl) (mX.ck (fun _ => xbX10_costBy o p0))
/-! SlideMills.tokensBy(I)I -/
def bX10_tokensBy (S : mSh) (μ : mMm) (o : Nat) (p0 : Int32) : Option ((Int32 ⊕ Nat) × mMm) := (fX10_isWay p0).bind fun v1 => if v1 = 0 then (some (.inr 0, μ)) else ((gR S o 10 6).bind fun v2 => (gR S o 10 7).bind fun v3 => (fX4_packBy S μ v2 p0 v3).bind fun m4 => (gR S o 10 7).bind fun v5 => (gI S m4 v5 5 2).bind fun v6 => some (.inl v6, m4))
def fX10_tokensBy (S : mSh) (μ : mMm) (o : Nat) (p0 : Int32) : Option ((Int32 ⊕ Nat) × mMm) := if mok S o 10 = true then bX10_tokensBy S μ o p0 else none
abbrev MX10_tokensBy : mM := ((yX10_tokensBy, cX10_tokensBy, 2, (some .int)), (6, 141), (false, false), RX10, eT)
theorem kX10_tokensBy : mCalV MX10_tokensBy RX10 1 := ⟨q1041, q1042, q2, q1043, by decide +kernel⟩
set_option maxHeartbeats 4000000 in
theorem xbX10_tokensBy {n0 c0 s0 cx cy : Nat} {S : mSh} {μ : mMm} (o : Nat) (p0 : Int32) : mX MX10_tokensBy n0 c0 s0 0 [some (.ref o), some (.int p0)] [] (S, μ, cx, cy) (iTI S cx cy) (bX10_tokensBy S μ o p0) := by
  unfold bX10_tokensBy
  refine x_iload_n (pc := 0) dX10_tokensBy_0 (i := 1) rfl rfl ?_
  refine x_callSi (pc := 1) (As := [.int p0]) (rest := []) (vx := fun a => a) (μf := fun _ => μ) (mX10_isWay S μ cx cy p0) (fun _ => rfl) rfl dX10_tokensBy_1 q346 kX10_isWay rfl ⟨by decide, by decide⟩ rfl (Nat.le_of_ble_eq_true rfl) (fun v1 => ?_)
  refine x_if_ne (pc := 4) (tgt := 17) dX10_tokensBy_4 (by decide) ?_ ?_
  · exact x_throw rfl ⟨81, 156, 85, "way out of range", dX10_tokensBy_7, dX10_tokensBy_10, Or.inl ⟨dX10_tokensBy_11, dX10_tokensBy_13, dX10_tokensBy_16⟩, rfl, q155, q156, Or.inl ⟨rfl, rfl⟩, by decide, by decide, by decide⟩ (Nat.le_of_ble_eq_true rfl)
  · refine x_aload_n (pc := 17) dX10_tokensBy_17 (i := 0) rfl rfl ?_
    refine x_gR (pc := 18) (k := 6) fcX10 dX10_tokensBy_18 q36 (by decide) rfl (fun v2 => ?_)
    refine x_iload_n (pc := 21) dX10_tokensBy_21 (i := 1) rfl rfl ?_
    refine x_aload_n (pc := 22) dX10_tokensBy_22 (i := 0) rfl rfl ?_
    refine x_gR (pc := 23) (k := 7) fcX10 dX10_tokensBy_23 q40 (by decide) rfl (fun v3 => ?_)
    refine x_callVv (pc := 26) (As := [.int p0, .ref v3]) (rest := []) (μf := fun a => a) fcX4 (mX4_packBy S μ cx cy v2 p0 v3) (fun _ => rfl) rfl (fun _ h => ifok h) dX10_tokensBy_26 q349 kX4_packBy rfl ⟨by decide, by decide⟩ rfl (Nat.le_of_ble_eq_true rfl) (fun m4 => ?_)
    refine x_aload_n (pc := 29) dX10_tokensBy_29 (i := 0) rfl rfl ?_
    refine x_gR (pc := 30) (k := 7) fcX10 dX10_tokensBy_30 q40 (by decide) rfl (fun v5 => ?_)
    refine x_gI (pc := 33) (k := 2) fcX5 dX10_tokensBy_33 q345 (by decide) rfl (fun v6 => ?_)
    exact x_iret rfl dX10_tokensBy_36 rfl rfl
theorem mX10_tokensBy (S : mSh) (μ : mMm) (cx cy : Nat) (o : Nat) (p0 : Int32) : mMet MX10_tokensBy [.ref o, .int p0] (S, μ, cx, cy) (iTI S cx cy) (fX10_tokensBy S μ o p0) := mMet.of rfl (by decide) rfl (fun h => by cases h) (Nat.le_of_ble_eq_true rfl) (mX.ck (fun _ => xbX10_tokensBy o p0))
/-! SlideMills.leastCost()I -/
def bX10_leastCost (S : mSh) (μ : mMm) (o : Nat) : Option (Int32 × mMm) := (gR S o 10 6).bind fun v1 => (gR S o 10 0).bind fun v2 => (gR S v2 7 2).bind fun v3 => (gI S μ v3 6 0).bind fun v4 => (fX4_leastFromEnd S μ v1 v4).bind fun r5 => some (r5.1, r5.2)
def fX10_leastCost (S : mSh) (μ : mMm) (o : Nat) : Option (Int32 × mMm) := if mok S o 10 = true then bX10_leastCost S μ o else none
abbrev MX10_leastCost : mM := ((yX10_leastCost, cX10_leastCost, 1, (some .int)), (4, 96), (false, false), RX10, eT)
theorem kX10_leastCost : mCalV MX10_leastCost RX10 0 := ⟨q1049, q1050, q2, q1051, by decide +kernel⟩
set_option maxHeartbeats 4000000 in
theorem xbX10_leastCost {n0 c0 s0 cx cy : Nat} {S : mSh} {μ : mMm} (o : Nat) : mX MX10_leastCost n0 c0 s0 0 [some (.ref o)] [] (S, μ, cx, cy) (iMI S cx cy) (bX10_leastCost S μ o) := by
  unfold bX10_leastCost
  refine x_aload_n (pc := 0) dX10_leastCost_0 (i := 0) rfl rfl ?_
  refine x_gR (pc := 1) (k := 6) fcX10 dX10_leastCost_1 q36 (by decide) rfl (fun v1 => ?_)
  refine x_aload_n (pc := 4) dX10_leastCost_4 (i := 0) rfl rfl ?_
  refine x_gR (pc := 5) (k := 0) fcX10 dX10_leastCost_5 q16 (by decide) rfl (fun v2 => ?_)
  refine x_gR (pc := 8) (k := 2) fcX7 dX10_leastCost_8 q31 (by decide) rfl (fun v3 => ?_)
  refine x_gI (pc := 11) (k := 0) fcX6 dX10_leastCost_11 q277 (by decide) rfl (fun v4 => ?_)
  refine x_callVi (pc := 14) (As := [.int v4]) (rest := []) (vx := fun a => a.1) (μf := fun a => a.2) fcX4 (mX4_leastFromEnd S μ cx cy v1 v4) (fun _ => rfl) rfl (fun _ h => ifok h) dX10_leastCost_14 q1052 kX4_leastFromEnd rfl ⟨by decide, by decide⟩ rfl (Nat.le_of_ble_eq_true rfl) (fun r5 => ?_)
  exact x_iret rfl dX10_leastCost_17 rfl rfl
theorem mX10_leastCost (S : mSh) (μ : mMm) (cx cy : Nat) (o : Nat) : mMet MX10_leastCost [.ref o] (S, μ, cx, cy) (iMI S cx cy) (fX10_leastCost S μ o) := mMet.of rfl (by decide) rfl (fun h => by cases h) (Nat.le_of_ble_eq_true rfl) (mX.ck (fun _ => xbX10_leastCost o))
/-! SlideMills.leastCostFromBeginning()I -/
def bX10_leastCostFromBeginning (S : mSh) (μ : mMm) (o : Nat) : Option (Int32 × mMm) := (gR S o 10 6).bind fun v1 => (fX4_leastFromBeginning S μ v1).bind fun r2 => some (r2.1, r2.2)
def fX10_leastCostFromBeginning (S : mSh) (μ : mMm) (o : Nat) : Option (Int32 × mMm) := if mok S o 10 = true then bX10_leastCostFromBeginning S μ o else none
abbrev MX10_leastCostFromBeginning : mM := ((yX10_leastCostFromBeginning, cX10_leastCostFromBeginning, 1, (some .int)), (4, 94), (false, false), RX10, eT)
theorem kX10_leastCostFromBeginning : mCalV MX10_leastCostFromBeginning RX10 0 := ⟨q1062, q1063, q2, q1064, by decide +kernel⟩
set_option maxHeartbeats 4000000 in
theorem xbX10_leastCostFromBeginning {n0 c0 s0 cx cy : Nat} {S : mSh} {μ : mMm} (o : Nat) : mX MX10_leastCostFromBeginning n0 c0 s0 0 [some (.ref o)] [] (S, μ, cx, cy) (iMI S cx cy) (bX10_leastCostFromBeginning S μ o) := by
  unfold bX10_leastCostFromBeginning
  refine x_aload_n (pc := 0) dX10_leastCostFromBeginning_0 (i := 0) rfl rfl ?_
  refine x_gR (pc := 1) (k := 6) fcX10 dX10_leastCostFromBeginning_1 q36 (by decide) rfl (fun v1 => ?_)
  refine x_callVi (pc := 4) (As := []) (rest := []) (vx := fun a => a.1) (μf := fun a => a.2) fcX4 (mX4_leastFromBeginning S μ cx cy v1) (fun _ => rfl) rfl (fun _ h => ifok h) dX10_leastCostFromBeginning_4 q1065 kX4_leastFromBeginning rfl ⟨by decide, by decide⟩ rfl (Nat.le_of_ble_eq_true rfl) (fun r2 => ?_)
  exact x_iret rfl dX10_leastCostFromBeginning_7 rfl rfl
theorem mX10_leastCostFromBeginning (S : mSh) (μ : mMm) (cx cy : Nat) (o : Nat) : mMet MX10_leastCostFromBeginning [.ref o] (S, μ, cx, cy) (iMI S cx cy) (fX10_leastCostFromBeginning S μ o) := mMet.of rfl (by decide) rfl (fun h => by cases h) (Nat.le_of_ble_eq_true rfl) (mX.ck (fun _ => xbX10_leastCostFromBeginning o))
/-! SlideMills.leastCostWith(I)I -/
def bX10_leastCostWith (S : mSh) (μ : mMm) (o : Nat) (p0 : Int32) : Option ((Int32 ⊕ Nat) × mMm) := (fX10_isBetween p0 (1 : Int32) (32 : Int32)).bind fun v1 => if v1 = 0 then (some (.inr 0, μ)) else ((gR S o 10 6).bind fun v2 => (fX4_leastFromEnd S μ v2 p0).bind fun r3 => some (.inl r3.1, r3.2))
def fX10_leastCostWith (S : mSh) (μ : mMm) (o : Nat) (p0 : Int32) : Option ((Int32 ⊕ Nat) × mMm) := if mok S o 10 = true then bX10_leastCostWith S μ o p0 else none
abbrev MX10_leastCostWith : mM := ((yX10_leastCostWith, cX10_leastCostWith, 2, (some .int)), (6, 96), (false, false), RX10, eT)
theorem kX10_leastCostWith : mCalV MX10_leastCostWith RX10 1 := ⟨q1087, q1088, q2, q1089, by decide +kernel⟩
set_option maxHeartbeats 4000000 in
theorem xbX10_leastCostWith {n0 c0 s0 cx cy : Nat} {S : mSh} {μ : mMm} (o : Nat) (p0 : Int32) : mX MX10_leastCostWith n0 c0 s0 0 [some (.ref o), some (.int p0)] [] (S, μ, cx, cy) (iTI S cx cy) (bX10_leastCostWith S μ o p0) := by
  unfold bX10_leastCostWith
  refine x_iload_n (pc := 0) dX10_leastCostWith_0 (i := 1) rfl rfl ?_
  refine x_iconst (pc := 1) (v := 1) dX10_leastCostWith_1 (by decide) ?_
  refine x_bipush (pc := 2) (v := 32) dX10_leastCostWith_2 (by decide) ?_
  refine x_callSi (pc := 4) (As := [.int p0, .int (1 : Int32), .int (32 : Int32)]) (rest := []) (vx := fun a => a) (μf := fun _ => μ) (mX10_isBetween S μ cx cy p0 (1 : Int32) (32 : Int32)) (fun _ => rfl) rfl dX10_leastCostWith_4 q278 kX10_isBetween rfl ⟨by decide, by decide⟩ rfl (Nat.le_of_ble_eq_true rfl) (fun v1 => ?_)
  refine x_if_ne (pc := 7) (tgt := 20) dX10_leastCostWith_7 (by decide) ?_ ?_
  · exact x_throw rfl ⟨81, 130, 85, "places out of range", dX10_leastCostWith_10, dX10_leastCostWith_13, Or.inl ⟨dX10_leastCostWith_14, dX10_leastCostWith_16, dX10_leastCostWith_19⟩, rfl, q155, q156, Or.inl ⟨rfl, rfl⟩, by decide, by decide, by decide⟩ (Nat.le_of_ble_eq_true rfl)
  · refine x_aload_n (pc := 20) dX10_leastCostWith_20 (i := 0) rfl rfl ?_
    refine x_gR (pc := 21) (k := 6) fcX10 dX10_leastCostWith_21 q36 (by decide) rfl (fun v2 => ?_)
    refine x_iload_n (pc := 24) dX10_leastCostWith_24 (i := 1) rfl rfl ?_
    refine x_callVi (pc := 25) (As := [.int p0]) (rest := []) (vx := fun a => a.1) (μf := fun a => a.2) fcX4 (mX4_leastFromEnd S μ cx cy v2 p0) (fun _ => rfl) rfl (fun _ h => ifok h) dX10_leastCostWith_25 q1052 kX4_leastFromEnd rfl ⟨by decide, by decide⟩ rfl (Nat.le_of_ble_eq_true rfl) (fun r3 => ?_)
    exact x_iret rfl dX10_leastCostWith_28 rfl rfl
theorem mX10_leastCostWith (S : mSh) (μ : mMm) (cx cy : Nat) (o : Nat) (p0 : Int32) : mMet MX10_leastCostWith [.ref o, .int p0] (S, μ, cx, cy) (iTI S cx cy) (fX10_leastCostWith S μ o p0) := mMet.of rfl (by decide) rfl (fun h => by cases h) (Nat.le_of_ble_eq_true rfl) (mX.ck (fun _ => xbX10_leastCostWith o p0))
/-! SlideMills.isPair(I)Z -/
def fX10_isPair (p0 : Int32) : Option (Int32) := if p0 < 0 then (some (0 : Int32)) else (if (16 : Int32) ≤ p0 then (some (0 : Int32)) else (some (1 : Int32)))
abbrev MX10_isPair : mM := ((yX10_isPair, cX10_isPair, 1, (some .boolean)), (0, 0), (false, false), RX10, eT)
theorem kX10_isPair : mCalS MX10_isPair 1 := ⟨q1102, q2, q1103, by decide +kernel⟩
set_option maxHeartbeats 4000000 in
theorem xbX10_isPair {n0 c0 s0 cx cy : Nat} {S : mSh} {μ : mMm} (p0 : Int32) : mX MX10_isPair n0 c0 s0 0 [some (.int p0)] [] (S, μ, cx, cy) (iPI S μ cx cy) (fX10_isPair p0) := by
  unfold fX10_isPair
  refine x_iload_n (pc := 0) dX10_isPair_0 (i := 0) rfl rfl ?_
  refine x_if_lt (pc := 1) (tgt := 14) dX10_isPair_1 (by decide) ?_ ?_
  · refine x_iconst (pc := 14) (v := 0) dX10_isPair_14 (by decide) ?_
    exact x_iret rfl dX10_isPair_15 rfl rfl
  · refine x_iload_n (pc := 4) dX10_isPair_4 (i := 0) rfl rfl ?_
    refine x_bipush (pc := 5) (v := 16) dX10_isPair_5 (by decide) ?_
    refine x_icmp_ge (pc := 7) (tgt := 14) dX10_isPair_7 (by decide) ?_ ?_
    · refine x_iconst (pc := 14) (v := 0) dX10_isPair_14 (by decide) ?_
      exact x_iret rfl dX10_isPair_15 rfl rfl
    · refine x_iconst (pc := 10) (v := 1) dX10_isPair_10 (by decide) ?_
      refine x_goto (pc := 11) (tgt := 15) dX10_isPair_11 (by decide) ?_
      exact x_iret rfl dX10_isPair_15 rfl rfl
theorem mX10_isPair (S : mSh) (μ : mMm) (cx cy : Nat) (p0 : Int32) : mMet MX10_isPair [.int p0] (S, μ, cx, cy) (iPI S μ cx cy) (fX10_isPair p0) := mMet.of rfl (by decide) rfl (fun h => by cases h) (Nat.le_of_ble_eq_true rfl) (xbX10_isPair p0)
/-! SlideMills.pairs(I)I -/
def bX10_pairs (S : mSh) (μ : mMm) (o : Nat) (p0 : Int32) : Option ((Int32 ⊕ Nat) × mMm) := (fX10_isPair p0).bind fun v1 => if v1 = 0 then (some (.inr 0, μ)) else ((gR S o 10 5).bind fun v2 => (gR S v2 3 2).bind fun v3 => (gR S o 10 0).bind fun v4 => (gR S v4 7 0).bind fun v5 => (fX0_read S μ v3 v5).bind fun m6 => (gR S o 10 5).bind fun v7 => (gR S v7 3 2).bind fun v8 => (fX0_times S m6 v8 p0).bind fun v9 => some (.inl v9, m6))
def fX10_pairs (S : mSh) (μ : mMm) (o : Nat) (p0 : Int32) : Option ((Int32 ⊕ Nat) × mMm) := if mok S o 10 = true then bX10_pairs S μ o p0 else none
abbrev MX10_pairs : mM := ((yX10_pairs, cX10_pairs, 2, (some .int)), (6, 90), (false, false), RX10, eT)
theorem kX10_pairs : mCalV MX10_pairs RX10 1 := ⟨q1098, q1099, q2, q1100, by decide +kernel⟩
set_option maxHeartbeats 4000000 in
theorem xbX10_pairs {n0 c0 s0 cx cy : Nat} {S : mSh} {μ : mMm} (o : Nat) (p0 : Int32) : mX MX10_pairs n0 c0 s0 0 [some (.ref o), some (.int p0)] [] (S, μ, cx, cy) (iTI S cx cy) (bX10_pairs S μ o p0) := by
  unfold bX10_pairs
  refine x_iload_n (pc := 0) dX10_pairs_0 (i := 1) rfl rfl ?_
  refine x_callSi (pc := 1) (As := [.int p0]) (rest := []) (vx := fun a => a) (μf := fun _ => μ) (mX10_isPair S μ cx cy p0) (fun _ => rfl) rfl dX10_pairs_1 q1101 kX10_isPair rfl ⟨by decide, by decide⟩ rfl (Nat.le_of_ble_eq_true rfl) (fun v1 => ?_)
  refine x_if_ne (pc := 4) (tgt := 18) dX10_pairs_4 (by decide) ?_ ?_
  · exact x_throw rfl ⟨81, 292, 85, "pair out of range", dX10_pairs_7, dX10_pairs_10, Or.inr ⟨dX10_pairs_11, dX10_pairs_14, dX10_pairs_17⟩, rfl, q155, q156, Or.inl ⟨rfl, rfl⟩, by decide, by decide, by decide⟩ (Nat.le_of_ble_eq_true rfl)
  · refine x_aload_n (pc := 18) dX10_pairs_18 (i := 0) rfl rfl ?_
    refine x_gR (pc := 19) (k := 5) fcX10 dX10_pairs_19 q32 (by decide) rfl (fun v2 => ?_)
    refine x_gR (pc := 22) (k := 2) fcX3 dX10_pairs_22 q975 (by decide) rfl (fun v3 => ?_)
    refine x_aload_n (pc := 25) dX10_pairs_25 (i := 0) rfl rfl ?_
    refine x_gR (pc := 26) (k := 0) fcX10 dX10_pairs_26 q16 (by decide) rfl (fun v4 => ?_)
    refine x_gR (pc := 29) (k := 0) fcX7 dX10_pairs_29 q30 (by decide) rfl (fun v5 => ?_)
    refine x_callVv (pc := 32) (As := [.ref v5]) (rest := []) (μf := fun a => a) fcX0 (mX0_read S μ cx cy v3 v5) (fun _ => rfl) rfl (fun _ h => ifok h) dX10_pairs_32 q976 kX0_read rfl ⟨by decide, by decide⟩ rfl (Nat.le_of_ble_eq_true rfl) (fun m6 => ?_)
    refine x_aload_n (pc := 35) dX10_pairs_35 (i := 0) rfl rfl ?_
    refine x_gR (pc := 36) (k := 5) fcX10 dX10_pairs_36 q32 (by decide) rfl (fun v7 => ?_)
    refine x_gR (pc := 39) (k := 2) fcX3 dX10_pairs_39 q975 (by decide) rfl (fun v8 => ?_)
    refine x_iload_n (pc := 42) dX10_pairs_42 (i := 1) rfl rfl ?_
    refine x_callVi (pc := 43) (As := [.int p0]) (rest := []) (vx := fun a => a) (μf := fun _ => m6) fcX0 (mX0_times S m6 cx cy v8 p0) (fun _ => rfl) rfl (fun _ h => ifok h) dX10_pairs_43 q1104 kX0_times rfl ⟨by decide, by decide⟩ rfl (Nat.le_of_ble_eq_true rfl) (fun v9 => ?_)
    exact x_iret rfl dX10_pairs_46 rfl rfl
theorem mX10_pairs (S : mSh) (μ : mMm) (cx cy : Nat) (o : Nat) (p0 : Int32) : mMet MX10_pairs [.ref o, .int p0] (S, μ, cx, cy) (iTI S cx cy) (fX10_pairs S μ o p0) := mMet.of rfl (by decide) rfl (fun h => by cases h) (Nat.le_of_ble_eq_true rfl) (mX.ck (fun _ => xbX10_pairs o p0))
/-! SlideMills.lastPlaceOf(I)I -/
def bX10_lastPlaceOf (S : mSh) (μ : mMm) (o : Nat) (p0 : Int32) : Option ((Int32 ⊕ Nat) × mMm) := (fX10_isPair p0).bind fun v1 => if v1 = 0 then (some (.inr 0, μ)) else ((gR S o 10 5).bind fun v2 => (gR S v2 3 2).bind fun v3 => (gR S o 10 0).bind fun v4 => (gR S v4 7 0).bind fun v5 => (fX0_read S μ v3 v5).bind fun m6 => (gR S o 10 5).bind fun v7 => (gR S v7 3 2).bind fun v8 => (fX0_lastPlace S m6 v8 p0).bind fun v9 => some (.inl v9, m6))
def fX10_lastPlaceOf (S : mSh) (μ : mMm) (o : Nat) (p0 : Int32) : Option ((Int32 ⊕ Nat) × mMm) := if mok S o 10 = true then bX10_lastPlaceOf S μ o p0 else none
abbrev MX10_lastPlaceOf : mM := ((yX10_lastPlaceOf, cX10_lastPlaceOf, 2, (some .int)), (6, 90), (false, false), RX10, eT)
theorem kX10_lastPlaceOf : mCalV MX10_lastPlaceOf RX10 1 := ⟨q1120, q1121, q2, q1122, by decide +kernel⟩
set_option maxHeartbeats 4000000 in
theorem xbX10_lastPlaceOf {n0 c0 s0 cx cy : Nat} {S : mSh} {μ : mMm} (o : Nat) (p0 : Int32) : mX MX10_lastPlaceOf n0 c0 s0 0 [some (.ref o), some (.int p0)] [] (S, μ, cx, cy) (iTI S cx cy) (bX10_lastPlaceOf S μ o p0) := by
  unfold bX10_lastPlaceOf
  refine x_iload_n (pc := 0) dX10_lastPlaceOf_0 (i := 1) rfl rfl ?_
  refine x_callSi (pc := 1) (As := [.int p0]) (rest := []) (vx := fun a => a) (μf := fun _ => μ) (mX10_isPair S μ cx cy p0) (fun _ => rfl) rfl dX10_lastPlaceOf_1 q1101 kX10_isPair rfl ⟨by decide, by decide⟩ rfl (Nat.le_of_ble_eq_true rfl) (fun v1 => ?_)
  refine x_if_ne (pc := 4) (tgt := 18) dX10_lastPlaceOf_4 (by decide) ?_ ?_
  · exact x_throw rfl ⟨81, 292, 85, "pair out of range", dX10_lastPlaceOf_7, dX10_lastPlaceOf_10, Or.inr ⟨dX10_lastPlaceOf_11, dX10_lastPlaceOf_14, dX10_lastPlaceOf_17⟩, rfl, q155, q156, Or.inl ⟨rfl, rfl⟩, by decide, by decide, by decide⟩ (Nat.le_of_ble_eq_true rfl)
  · refine x_aload_n (pc := 18) dX10_lastPlaceOf_18 (i := 0) rfl rfl ?_
    refine x_gR (pc := 19) (k := 5) fcX10 dX10_lastPlaceOf_19 q32 (by decide) rfl (fun v2 => ?_)
    refine x_gR (pc := 22) (k := 2) fcX3 dX10_lastPlaceOf_22 q975 (by decide) rfl (fun v3 => ?_)
    refine x_aload_n (pc := 25) dX10_lastPlaceOf_25 (i := 0) rfl rfl ?_
    refine x_gR (pc := 26) (k := 0) fcX10 dX10_lastPlaceOf_26 q16 (by decide) rfl (fun v4 => ?_)
    refine x_gR (pc := 29) (k := 0) fcX7 dX10_lastPlaceOf_29 q30 (by decide) rfl (fun v5 => ?_)
    refine x_callVv (pc := 32) (As := [.ref v5]) (rest := []) (μf := fun a => a) fcX0 (mX0_read S μ cx cy v3 v5) (fun _ => rfl) rfl (fun _ h => ifok h) dX10_lastPlaceOf_32 q976 kX0_read rfl ⟨by decide, by decide⟩ rfl (Nat.le_of_ble_eq_true rfl) (fun m6 => ?_)
    refine x_aload_n (pc := 35) dX10_lastPlaceOf_35 (i := 0) rfl rfl ?_
    refine x_gR (pc := 36) (k := 5) fcX10 dX10_lastPlaceOf_36 q32 (by decide) rfl (fun v7 => ?_)
    refine x_gR (pc := 39) (k := 2) fcX3 dX10_lastPlaceOf_39 q975 (by decide) rfl (fun v8 => ?_)
    refine x_iload_n (pc := 42) dX10_lastPlaceOf_42 (i := 1) rfl rfl ?_
    refine x_callVi (pc := 43) (As := [.int p0]) (rest := []) (vx := fun a => a) (μf := fun _ => m6) fcX0 (mX0_lastPlace S m6 cx cy v8 p0) (fun _ => rfl) rfl (fun _ h => ifok h) dX10_lastPlaceOf_43 q1123 kX0_lastPlace rfl ⟨by decide, by decide⟩ rfl (Nat.le_of_ble_eq_true rfl) (fun v9 => ?_)
    exact x_iret rfl dX10_lastPlaceOf_46 rfl rfl
theorem mX10_lastPlaceOf (S : mSh) (μ : mMm) (cx cy : Nat) (o : Nat) (p0 : Int32) : mMet MX10_lastPlaceOf [.ref o, .int p0] (S, μ, cx, cy) (iTI S cx cy) (fX10_lastPlaceOf S μ o p0) := mMet.of rfl (by decide) rfl (fun h => by cases h) (Nat.le_of_ble_eq_true rfl) (mX.ck (fun _ => xbX10_lastPlaceOf o p0))
/-! SlideMills.mostFrequent()I -/
def bX10_mostFrequent (S : mSh) (μ : mMm) (o : Nat) : Option ((Int32 ⊕ Nat) × mMm) := (gR S o 10 0).bind fun v1 => (gR S v1 7 0).bind fun v2 => (gI S μ v2 2 1).bind fun v3 => if (2 : Int32) ≤ v3 then ((gR S o 10 5).bind fun v4 => (gR S v4 3 2).bind fun v5 => (gR S o 10 0).bind fun v6 => (gR S v6 7 0).bind fun v7 => (fX0_read S μ v5 v7).bind fun m8 => (gR S o 10 5).bind fun v9 => (gR S v9 3 2).bind fun v10 => (fX0_commonest S m8 v10).bind fun v11 => some (.inl v11, m8)) else (some (.inr 1, μ))
def fX10_mostFrequent (S : mSh) (μ : mMm) (o : Nat) : Option ((Int32 ⊕ Nat) × mMm) := if mok S o 10 = true then bX10_mostFrequent S μ o else none
abbrev MX10_mostFrequent : mM := ((yX10_mostFrequent, cX10_mostFrequent, 1, (some .int)), (6, 90), (false, false), RX10, eT)
theorem kX10_mostFrequent : mCalV MX10_mostFrequent RX10 0 := ⟨q1139, q1140, q2, q1141, by decide +kernel⟩
set_option maxHeartbeats 4000000 in
theorem xbX10_mostFrequent {n0 c0 s0 cx cy : Nat} {S : mSh} {μ : mMm} (o : Nat) : mX MX10_mostFrequent n0 c0 s0 0 [some (.ref o)] [] (S, μ, cx, cy) (iTI S cx cy) (bX10_mostFrequent S μ o) := by
  unfold bX10_mostFrequent
  refine x_aload_n (pc := 0) dX10_mostFrequent_0 (i := 0) rfl rfl ?_
  refine x_gR (pc := 1) (k := 0) fcX10 dX10_mostFrequent_1 q16 (by decide) rfl (fun v1 => ?_)
  refine x_gR (pc := 4) (k := 0) fcX7 dX10_mostFrequent_4 q30 (by decide) rfl (fun v2 => ?_)
  refine x_gI (pc := 7) (k := 1) fcX2 dX10_mostFrequent_7 q159 (by decide) rfl (fun v3 => ?_)
  refine x_iconst (pc := 10) (v := 2) dX10_mostFrequent_10 (by decide) ?_
  refine x_icmp_ge (pc := 11) (tgt := 25) dX10_mostFrequent_11 (by decide) ?_ ?_
  · refine x_aload_n (pc := 25) dX10_mostFrequent_25 (i := 0) rfl rfl ?_
    refine x_gR (pc := 26) (k := 5) fcX10 dX10_mostFrequent_26 q32 (by decide) rfl (fun v4 => ?_)
    refine x_gR (pc := 29) (k := 2) fcX3 dX10_mostFrequent_29 q975 (by decide) rfl (fun v5 => ?_)
    refine x_aload_n (pc := 32) dX10_mostFrequent_32 (i := 0) rfl rfl ?_
    refine x_gR (pc := 33) (k := 0) fcX10 dX10_mostFrequent_33 q16 (by decide) rfl (fun v6 => ?_)
    refine x_gR (pc := 36) (k := 0) fcX7 dX10_mostFrequent_36 q30 (by decide) rfl (fun v7 => ?_)
    refine x_callVv (pc := 39) (As := [.ref v7]) (rest := []) (μf := fun a => a) fcX0 (mX0_read S μ cx cy v5 v7) (fun _ => rfl) rfl (fun _ h => ifok h) dX10_mostFrequent_39 q976 kX0_read rfl ⟨by decide, by decide⟩ rfl (Nat.le_of_ble_eq_true rfl) (fun m8 => ?_)
    refine x_aload_n (pc := 42) dX10_mostFrequent_42 (i := 0) rfl rfl ?_
    refine x_gR (pc := 43) (k := 5) fcX10 dX10_mostFrequent_43 q32 (by decide) rfl (fun v9 => ?_)
    refine x_gR (pc := 46) (k := 2) fcX3 dX10_mostFrequent_46 q975 (by decide) rfl (fun v10 => ?_)
    refine x_callVi (pc := 49) (As := []) (rest := []) (vx := fun a => a) (μf := fun _ => m8) fcX0 (mX0_commonest S m8 cx cy v10) (fun _ => rfl) rfl (fun _ h => ifok h) dX10_mostFrequent_49 q1142 kX0_commonest rfl ⟨by decide, by decide⟩ rfl (Nat.le_of_ble_eq_true rfl) (fun v11 => ?_)
    exact x_iret rfl dX10_mostFrequent_52 rfl rfl
  · exact x_throw rfl ⟨94, 300, 98, "the text has no pair", dX10_mostFrequent_14, dX10_mostFrequent_17, Or.inr ⟨dX10_mostFrequent_18, dX10_mostFrequent_21, dX10_mostFrequent_24⟩, rfl, q157, q158, Or.inr (Or.inl ⟨rfl, rfl⟩), by decide, by decide, by decide⟩ (Nat.le_of_ble_eq_true rfl)
theorem mX10_mostFrequent (S : mSh) (μ : mMm) (cx cy : Nat) (o : Nat) : mMet MX10_mostFrequent [.ref o] (S, μ, cx, cy) (iTI S cx cy) (fX10_mostFrequent S μ o) := mMet.of rfl (by decide) rfl (fun h => by cases h) (Nat.le_of_ble_eq_true rfl) (mX.ck (fun _ => xbX10_mostFrequent o))
/-! SlideMills.packedShare()D -/
def bX10_packedShare (S : mSh) (μ : mMm) (o : Nat) : Option (UInt64) := (gR S o 10 0).bind fun v1 => (gR S v1 7 2).bind fun v2 => (gI S μ v2 6 3).bind fun v3 => (gR S o 10 0).bind fun v4 => (gR S v4 7 1).bind fun v5 => (fX5_letters S μ v5).bind fun v6 => (gR S o 10 0).bind fun v7 => (gR S v7 7 1).bind fun v8 => (gI S μ v8 5 2).bind fun v9 => if v9 ≤ 0 then (some FP.dconst1) else (if 0 < (v3 * v6) then ((gR S o 10 0).bind fun v10 => (gR S v10 7 1).bind fun v11 => (gR S o 10 0).bind fun v12 => (gR S v12 7 2).bind fun v13 => (fX5_cost S μ v11 v13).bind fun v14 => (if vfn (FP.ddiv (FP.i2d v14) (FP.i2d (v3 * v6))) = true then (some (FP.ddiv (FP.i2d v14) (FP.i2d (v3 * v6)))) else none)) else (some FP.dconst1))
def fX10_packedShare (S : mSh) (μ : mMm) (o : Nat) : Option (UInt64) := if mok S o 10 = true then bX10_packedShare S μ o else none
abbrev MX10_packedShare : mM := ((yX10_packedShare, cX10_packedShare, 2, (some .double)), (3, 64), (false, false), RX10, eT)
theorem kX10_packedShare : mCalV MX10_packedShare RX10 0 := ⟨q1155, q1156, q2, q1157, by decide +kernel⟩
set_option maxHeartbeats 4000000 in
theorem xbX10_packedShare {n0 c0 s0 cx cy : Nat} {S : mSh} {μ : mMm} (o : Nat) : mX MX10_packedShare n0 c0 s0 0 [some (.ref o), none] [] (S, μ, cx, cy) (iPD S μ cx cy) (bX10_packedShare S μ o) := by
  unfold bX10_packedShare
  refine x_aload_n (pc := 0) dX10_packedShare_0 (i := 0) rfl rfl ?_
  refine x_gR (pc := 1) (k := 0) fcX10 dX10_packedShare_1 q16 (by decide) rfl (fun v1 => ?_)
  refine x_gR (pc := 4) (k := 2) fcX7 dX10_packedShare_4 q31 (by decide) rfl (fun v2 => ?_)
  refine x_gI (pc := 7) (k := 3) fcX6 dX10_packedShare_7 q320 (by decide) rfl (fun v3 => ?_)
  refine x_aload_n (pc := 10) dX10_packedShare_10 (i := 0) rfl rfl ?_
  refine x_gR (pc := 11) (k := 0) fcX10 dX10_packedShare_11 q16 (by decide) rfl (fun v4 => ?_)
  refine x_gR (pc := 14) (k := 1) fcX7 dX10_packedShare_14 q344 (by decide) rfl (fun v5 => ?_)
  refine x_callVi (pc := 17) (As := []) (rest := [.int v3]) (vx := fun a => a) (μf := fun _ => μ) fcX5 (mX5_letters S μ cx cy v5) (fun _ => rfl) rfl (fun _ h => ifok h) dX10_packedShare_17 q909 kX5_letters rfl ⟨by decide, by decide⟩ rfl (Nat.le_of_ble_eq_true rfl) (fun v6 => ?_)
  refine x_imul (pc := 20) dX10_packedShare_20 ?_
  refine x_istore_n (pc := 21) dX10_packedShare_21 (i := 1) rfl (by decide) (l' := [some (.ref o), some (.int (v3 * v6))]) rfl ?_
  refine x_aload_n (pc := 22) dX10_packedShare_22 (i := 0) rfl rfl ?_
  refine x_gR (pc := 23) (k := 0) fcX10 dX10_packedShare_23 q16 (by decide) rfl (fun v7 => ?_)
  refine x_gR (pc := 26) (k := 1) fcX7 dX10_packedShare_26 q344 (by decide) rfl (fun v8 => ?_)
  refine x_gI (pc := 29) (k := 2) fcX5 dX10_packedShare_29 q345 (by decide) rfl (fun v9 => ?_)
  refine x_if_le (pc := 32) (tgt := 39) dX10_packedShare_32 (by decide) ?_ ?_
  · refine x_dconst1 (pc := 39) dX10_packedShare_39 ?_
    exact x_dret rfl dX10_packedShare_40 rfl
  · refine x_iload_n (pc := 35) dX10_packedShare_35 (i := 1) rfl rfl ?_
    refine x_if_gt (pc := 36) (tgt := 41) dX10_packedShare_36 (by decide) ?_ ?_
    · refine x_aload_n (pc := 41) dX10_packedShare_41 (i := 0) rfl rfl ?_
      refine x_gR (pc := 42) (k := 0) fcX10 dX10_packedShare_42 q16 (by decide) rfl (fun v10 => ?_)
      refine x_gR (pc := 45) (k := 1) fcX7 dX10_packedShare_45 q344 (by decide) rfl (fun v11 => ?_)
      refine x_aload_n (pc := 48) dX10_packedShare_48 (i := 0) rfl rfl ?_
      refine x_gR (pc := 49) (k := 0) fcX10 dX10_packedShare_49 q16 (by decide) rfl (fun v12 => ?_)
      refine x_gR (pc := 52) (k := 2) fcX7 dX10_packedShare_52 q31 (by decide) rfl (fun v13 => ?_)
      refine x_callVi (pc := 55) (As := [.ref v13]) (rest := []) (vx := fun a => a) (μf := fun _ => μ) fcX5 (mX5_cost S μ cx cy v11 v13) (fun _ => rfl) rfl (fun _ h => ifok h) dX10_packedShare_55 q891 kX5_cost rfl ⟨by decide, by decide⟩ rfl (Nat.le_of_ble_eq_true rfl) (fun v14 => ?_)
      refine x_i2d (pc := 58) dX10_packedShare_58 ?_
      refine x_iload_n (pc := 59) dX10_packedShare_59 (i := 1) rfl rfl ?_
      refine x_i2d (pc := 60) dX10_packedShare_60 ?_
      refine x_ddiv (pc := 61) dX10_packedShare_61 ?_
      exact x_dret rfl dX10_packedShare_62 rfl
    · refine x_dconst1 (pc := 39) dX10_packedShare_39 ?_
      exact x_dret rfl dX10_packedShare_40 rfl
theorem mX10_packedShare (S : mSh) (μ : mMm) (cx cy : Nat) (o : Nat) : mMet MX10_packedShare [.ref o] (S, μ, cx, cy) (iPD S μ cx cy) (fX10_packedShare S μ o) := mMet.of rfl (by decide) rfl (fun h => by cases h) (Nat.le_of_ble_eq_true rfl) (mX.ck (fun _ => xbX10_packedShare o))
/-! SlideMills.mix(JJ)J -/
def fX10_mix (p0 : Int64) (p1 : Int64) : Option (Int64) := some (((31 : Int64) * p0) + p1)
abbrev MX10_mix : mM := ((yX10_mix, cX10_mix, 4, (some .long)), (0, 0), (false, false), RX10, eT)
theorem kX10_mix : mCalS MX10_mix 2 := ⟨q1176, q2, q1177, by decide +kernel⟩
set_option maxHeartbeats 4000000 in
theorem xbX10_mix {n0 c0 s0 cx cy : Nat} {S : mSh} {μ : mMm} (p0 : Int64) (p1 : Int64) : mX MX10_mix n0 c0 s0 0 [some (.long p0), none, some (.long p1), none] [] (S, μ, cx, cy) (iPJ S μ cx cy) (fX10_mix p0 p1) := by
  unfold fX10_mix
  refine x_ldc2 (pc := 0) (v := 31) dX10_mix_0 q1178 ?_
  refine x_lload_n (pc := 3) dX10_mix_3 (i := 0) rfl rfl ?_
  refine x_lmul (pc := 4) dX10_mix_4 ?_
  refine x_lload_n (pc := 5) dX10_mix_5 (i := 2) rfl rfl ?_
  refine x_ladd (pc := 6) dX10_mix_6 ?_
  exact x_lret rfl dX10_mix_7 rfl
theorem mX10_mix (S : mSh) (μ : mMm) (cx cy : Nat) (p0 : Int64) (p1 : Int64) : mMet MX10_mix [.long p0, .long p1] (S, μ, cx, cy) (iPJ S μ cx cy) (fX10_mix p0 p1) := mMet.of rfl (by decide) rfl (fun h => by cases h) (Nat.le_of_ble_eq_true rfl) (xbX10_mix p0 p1)
/-! SlideMills.hashText(J)J -/
def lX10_hashText_19 (S : mSh) (μ : mMm) : Nat → Nat → Int64 → Int32 → Option (Int64)
  | 0, _, _, _ => none
  | n + 1, x0, x3, x5 => (gR S x0 10 0).bind fun v5 => (gR S v5 7 0).bind fun v6 => (gI S μ v6 2 1).bind fun v7 => if v7 ≤ x5 then (some x3) else ((gR S x0 10 0).bind fun v8 => (gR S v8 7 0).bind fun v9 => (fX2_get S μ v9 x5).bind fun v10 => (fX10_mix x3 v10.toInt64).bind fun v11 => lX10_hashText_19 S μ n x0 v11 (x5 + (1 : Int32)))
def bX10_hashText (S : mSh) (μ : mMm) (o : Nat) (p0 : Int64) : Option (Int64) := (gR S o 10 0).bind fun v1 => (gR S v1 7 0).bind fun v2 => (gI S μ v2 2 1).bind fun v3 => (fX10_mix p0 v3.toInt64).bind fun v4 => lX10_hashText_19 S μ FU o v4 (0 : Int32)
def fX10_hashText (S : mSh) (μ : mMm) (o : Nat) (p0 : Int64) : Option (Int64) := if mok S o 10 = true then bX10_hashText S μ o p0 else none
abbrev MX10_hashText : mM := ((yX10_hashText, cX10_hashText, 6, (some .long)), (1, 23), (false, false), RX10, eT)
theorem kX10_hashText : mCalV MX10_hashText RX10 1 := ⟨q1172, q1173, q2, q1174, by decide +kernel⟩
set_option maxHeartbeats 4000000 in
theorem xX10_hashText_19 {n0 c0 s0 cx cy : Nat} {S : mSh} {μ : mMm} : ∀ (n : Nat) (x0 : Nat) (x3 : Int64) (x5 : Int32) (d1 : Option Value) (d2 : Option Value), mX MX10_hashText n0 c0 s0 19 [some (.ref x0), d1, d2, some (.long x3), none, some (.int x5)] [] (S, μ, cx, cy) (iPJ S μ cx cy) (lX10_hashText_19 S μ n x0 x3 x5) := by
  intro n
  induction n with
  | zero => intros; exact x_none
  | succ n ih =>
    intro x0 x3 x5 d1 d2
    unfold lX10_hashText_19
    refine x_iload (pc := 19) dX10_hashText_19 rfl ?_
    refine x_aload_n (pc := 21) dX10_hashText_21 (i := 0) rfl rfl ?_
    refine x_gR (pc := 22) (k := 0) fcX10 dX10_hashText_22 q16 (by decide) rfl (fun v5 => ?_)
    refine x_gR (pc := 25) (k := 0) fcX7 dX10_hashText_25 q30 (by decide) rfl (fun v6 => ?_)
    refine x_gI (pc := 28) (k := 1) fcX2 dX10_hashText_28 q159 (by decide) rfl (fun v7 => ?_)
    refine x_icmp_ge (pc := 31) (tgt := 58) dX10_hashText_31 (by decide) ?_ ?_
    · refine x_lload_n (pc := 58) dX10_hashText_58 (i := 3) rfl rfl ?_
      exact x_lret rfl dX10_hashText_59 rfl
    · refine x_lload_n (pc := 34) dX10_hashText_34 (i := 3) rfl rfl ?_
      refine x_aload_n (pc := 35) dX10_hashText_35 (i := 0) rfl rfl ?_
      refine x_gR (pc := 36) (k := 0) fcX10 dX10_hashText_36 q16 (by decide) rfl (fun v8 => ?_)
      refine x_gR (pc := 39) (k := 0) fcX7 dX10_hashText_39 q30 (by decide) rfl (fun v9 => ?_)
      refine x_iload (pc := 42) dX10_hashText_42 rfl ?_
      refine x_callVi (pc := 44) (As := [.int x5]) (rest := [.long x3]) (vx := fun a => a) (μf := fun _ => μ) fcX2 (mX2_get S μ cx cy v9 x5) (fun _ => rfl) rfl (fun _ h => ifok h) dX10_hashText_44 q234 kX2_get rfl ⟨by decide, by decide⟩ rfl (Nat.le_of_ble_eq_true rfl) (fun v10 => ?_)
      refine x_i2l (pc := 47) dX10_hashText_47 ?_
      refine x_callSl (pc := 48) (As := [.long x3, .long v10.toInt64]) (rest := []) (vx := fun a => a) (μf := fun _ => μ) (mX10_mix S μ cx cy x3 v10.toInt64) (fun _ => rfl) rfl dX10_hashText_48 q1175 kX10_mix rfl ⟨by decide, by decide⟩ rfl (Nat.le_of_ble_eq_true rfl) (fun v11 => ?_)
      refine x_lstore_n (pc := 51) dX10_hashText_51 (i := 3) rfl (by decide) (l' := [some (.ref x0), d1, (kl d2), some (.long v11), none, some (.int x5)]) rfl ?_
      refine x_iinc (pc := 52) (v := x5 + (1 : Int32)) dX10_hashText_52 rfl (by rw [show Int32.ofInt (1) = (1 : Int32) from by decide]) (by decide) (l' := [some (.ref x0), d1, (kl d2), some (.long v11), none, some (.int (x5 + (1 : Int32)))]) rfl ?_
      refine x_goto (pc := 55) (tgt := 19) dX10_hashText_55 (by decide) ?_
      exact ih x0 v11 (x5 + (1 : Int32)) _ _
set_option maxHeartbeats 4000000 in
theorem xbX10_hashText {n0 c0 s0 cx cy : Nat} {S : mSh} {μ : mMm} (o : Nat) (p0 : Int64) : mX MX10_hashText n0 c0 s0 0 [some (.ref o), some (.long p0), none, none, none, none] [] (S, μ, cx, cy) (iPJ S μ cx cy) (bX10_hashText S μ o p0) := by
  unfold bX10_hashText
  refine x_lload_n (pc := 0) dX10_hashText_0 (i := 1) rfl rfl ?_
  refine x_aload_n (pc := 1) dX10_hashText_1 (i := 0) rfl rfl ?_
  refine x_gR (pc := 2) (k := 0) fcX10 dX10_hashText_2 q16 (by decide) rfl (fun v1 => ?_)
  refine x_gR (pc := 5) (k := 0) fcX7 dX10_hashText_5 q30 (by decide) rfl (fun v2 => ?_)
  refine x_gI (pc := 8) (k := 1) fcX2 dX10_hashText_8 q159 (by decide) rfl (fun v3 => ?_)
  refine x_i2l (pc := 11) dX10_hashText_11 ?_
  refine x_callSl (pc := 12) (As := [.long p0, .long v3.toInt64]) (rest := []) (vx := fun a => a) (μf := fun _ => μ) (mX10_mix S μ cx cy p0 v3.toInt64) (fun _ => rfl) rfl dX10_hashText_12 q1175 kX10_mix rfl ⟨by decide, by decide⟩ rfl (Nat.le_of_ble_eq_true rfl) (fun v4 => ?_)
  refine x_lstore_n (pc := 15) dX10_hashText_15 (i := 3) rfl (by decide) (l' := [some (.ref o), some (.long p0), none, some (.long v4), none, none]) rfl ?_
  refine x_iconst (pc := 16) (v := 0) dX10_hashText_16 (by decide) ?_
  refine x_istore (pc := 17) dX10_hashText_17 (by decide) (l' := [some (.ref o), some (.long p0), none, some (.long v4), none, some (.int (0 : Int32))]) rfl ?_
  exact xX10_hashText_19 FU o v4 (0 : Int32) _ _
theorem mX10_hashText (S : mSh) (μ : mMm) (cx cy : Nat) (o : Nat) (p0 : Int64) : mMet MX10_hashText [.ref o, .long p0] (S, μ, cx, cy) (iPJ S μ cx cy) (fX10_hashText S μ o p0) := mMet.of rfl (by decide) rfl (fun h => by cases h) (Nat.le_of_ble_eq_true rfl) (mX.ck (fun _ => xbX10_hashText o p0))
/-! SlideMills.mixTruth(JZ)J -/
def lX10_mixTruth_10 (t0 : Int64) (t1 : Int64) : Option (Int64) := (fX10_mix t1 t0).bind fun v1 => some v1
def fX10_mixTruth (p0 : Int64) (p1 : Int32) : Option (Int64) := if p1 = 0 then (lX10_mixTruth_10 (0 : Int64) p0) else (lX10_mixTruth_10 (1 : Int64) p0)
abbrev MX10_mixTruth : mM := ((yX10_mixTruth, cX10_mixTruth, 3, (some .long)), (1, 23), (false, false), RX10, eT)
theorem kX10_mixTruth : mCalS MX10_mixTruth 2 := ⟨q1189, q2, q1190, by decide +kernel⟩
set_option maxHeartbeats 4000000 in
theorem xX10_mixTruth_10 {n0 c0 s0 cx cy : Nat} {S : mSh} {μ : mMm} (t0 : Int64) (t1 : Int64) (d0 : Option Value) (d1 : Option Value) (d2 : Option Value) : mX MX10_mixTruth n0 c0 s0 10 [d0, d1, d2] [.long t0, .long t1] (S, μ, cx, cy) (iPJ S μ cx cy) (lX10_mixTruth_10 t0 t1) := by
  unfold lX10_mixTruth_10
  refine x_callSl (pc := 10) (As := [.long t1, .long t0]) (rest := []) (vx := fun a => a) (μf := fun _ => μ) (mX10_mix S μ cx cy t1 t0) (fun _ => rfl) rfl dX10_mixTruth_10 q1175 kX10_mix rfl ⟨by decide, by decide⟩ rfl (Nat.le_of_ble_eq_true rfl) (fun v1 => ?_)
  exact x_lret rfl dX10_mixTruth_13 rfl
set_option maxHeartbeats 4000000 in
theorem xbX10_mixTruth {n0 c0 s0 cx cy : Nat} {S : mSh} {μ : mMm} (p0 : Int64) (p1 : Int32) : mX MX10_mixTruth n0 c0 s0 0 [some (.long p0), none, some (.int p1)] [] (S, μ, cx, cy) (iPJ S μ cx cy) (fX10_mixTruth p0 p1) := by
  unfold fX10_mixTruth
  refine x_lload_n (pc := 0) dX10_mixTruth_0 (i := 0) rfl rfl ?_
  refine x_iload_n (pc := 1) dX10_mixTruth_1 (i := 2) rfl rfl ?_
  refine x_if_eq (pc := 2) (tgt := 9) dX10_mixTruth_2 (by decide) ?_ ?_
  · refine x_lconst (pc := 9) (v := 0) dX10_mixTruth_9 (by decide) ?_
    exact xX10_mixTruth_10 (0 : Int64) p0 _ _ _
  · refine x_lconst (pc := 5) (v := 1) dX10_mixTruth_5 (by decide) ?_
    refine x_goto (pc := 6) (tgt := 10) dX10_mixTruth_6 (by decide) ?_
    exact xX10_mixTruth_10 (1 : Int64) p0 _ _ _
theorem mX10_mixTruth (S : mSh) (μ : mMm) (cx cy : Nat) (p0 : Int64) (p1 : Int32) : mMet MX10_mixTruth [.long p0, .int p1] (S, μ, cx, cy) (iPJ S μ cx cy) (fX10_mixTruth p0 p1) := mMet.of rfl (by decide) rfl (fun h => by cases h) (Nat.le_of_ble_eq_true rfl) (xbX10_mixTruth p0 p1)
/-! SlideMills.hashSack(J)J -/
def bX10_hashSack (S : mSh) (μ : mMm) (o : Nat) (p0 : Int64) : Option (Int64 × mMm) := (gR S o 10 0).bind fun v1 => (gR S v1 7 1).bind fun v2 => (gI S μ v2 5 2).bind fun v3 => (fX10_mix p0 v3.toInt64).bind fun v4 => (fX10_sackCost S μ o).bind fun v5 => (fX10_mix v4 v5.toInt64).bind fun v6 => (fX10_sackLetters S μ o).bind fun v7 => (fX10_mix v6 v7.toInt64).bind fun v8 => (fX10_wrongToken S μ o).bind fun r9 => (fX10_mix v8 r9.1.toInt64).bind fun v10 => (fX10_wrongReason S r9.2 o).bind fun r11 => (fX10_mix v10 r11.1.toInt64).bind fun v12 => (fX10_isForText S r11.2 o).bind fun r13 => (fX10_mixTruth v12 r13.1).bind fun v14 => some (v14, r13.2)
def fX10_hashSack (S : mSh) (μ : mMm) (o : Nat) (p0 : Int64) : Option (Int64 × mMm) := if mok S o 10 = true then bX10_hashSack S μ o p0 else none
abbrev MX10_hashSack : mM := ((yX10_hashSack, cX10_hashSack, 5, (some .long)), (5, 109), (false, false), RX10, eT)
theorem kX10_hashSack : mCalV MX10_hashSack RX10 1 := ⟨q1180, q1181, q2, q1182, by decide +kernel⟩
set_option maxHeartbeats 4000000 in
theorem xbX10_hashSack {n0 c0 s0 cx cy : Nat} {S : mSh} {μ : mMm} (o : Nat) (p0 : Int64) : mX MX10_hashSack n0 c0 s0 0 [some (.ref o), some (.long p0), none, none, none] [] (S, μ, cx, cy) (iMJ S cx cy) (bX10_hashSack S μ o p0) := by
  unfold bX10_hashSack
  refine x_lload_n (pc := 0) dX10_hashSack_0 (i := 1) rfl rfl ?_
  refine x_aload_n (pc := 1) dX10_hashSack_1 (i := 0) rfl rfl ?_
  refine x_gR (pc := 2) (k := 0) fcX10 dX10_hashSack_2 q16 (by decide) rfl (fun v1 => ?_)
  refine x_gR (pc := 5) (k := 1) fcX7 dX10_hashSack_5 q344 (by decide) rfl (fun v2 => ?_)
  refine x_gI (pc := 8) (k := 2) fcX5 dX10_hashSack_8 q345 (by decide) rfl (fun v3 => ?_)
  refine x_i2l (pc := 11) dX10_hashSack_11 ?_
  refine x_callSl (pc := 12) (As := [.long p0, .long v3.toInt64]) (rest := []) (vx := fun a => a) (μf := fun _ => μ) (mX10_mix S μ cx cy p0 v3.toInt64) (fun _ => rfl) rfl dX10_hashSack_12 q1175 kX10_mix rfl ⟨by decide, by decide⟩ rfl (Nat.le_of_ble_eq_true rfl) (fun v4 => ?_)
  refine x_lstore_n (pc := 15) dX10_hashSack_15 (i := 3) rfl (by decide) (l' := [some (.ref o), some (.long p0), none, some (.long v4), none]) rfl ?_
  refine x_lload_n (pc := 16) dX10_hashSack_16 (i := 3) rfl rfl ?_
  refine x_aload_n (pc := 17) dX10_hashSack_17 (i := 0) rfl rfl ?_
  refine x_callVi (pc := 18) (As := []) (rest := [.long v4]) (vx := fun a => a) (μf := fun _ => μ) fcX10 (mX10_sackCost S μ cx cy o) (fun _ => rfl) rfl (fun _ h => ifok h) dX10_hashSack_18 q1183 kX10_sackCost rfl ⟨by decide, by decide⟩ rfl (Nat.le_of_ble_eq_true rfl) (fun v5 => ?_)
  refine x_i2l (pc := 21) dX10_hashSack_21 ?_
  refine x_callSl (pc := 22) (As := [.long v4, .long v5.toInt64]) (rest := []) (vx := fun a => a) (μf := fun _ => μ) (mX10_mix S μ cx cy v4 v5.toInt64) (fun _ => rfl) rfl dX10_hashSack_22 q1175 kX10_mix rfl ⟨by decide, by decide⟩ rfl (Nat.le_of_ble_eq_true rfl) (fun v6 => ?_)
  refine x_lstore_n (pc := 25) dX10_hashSack_25 (i := 3) rfl (by decide) (l' := [some (.ref o), some (.long p0), none, some (.long v6), none]) rfl ?_
  refine x_lload_n (pc := 26) dX10_hashSack_26 (i := 3) rfl rfl ?_
  refine x_aload_n (pc := 27) dX10_hashSack_27 (i := 0) rfl rfl ?_
  refine x_callVi (pc := 28) (As := []) (rest := [.long v6]) (vx := fun a => a) (μf := fun _ => μ) fcX10 (mX10_sackLetters S μ cx cy o) (fun _ => rfl) rfl (fun _ h => ifok h) dX10_hashSack_28 q1184 kX10_sackLetters rfl ⟨by decide, by decide⟩ rfl (Nat.le_of_ble_eq_true rfl) (fun v7 => ?_)
  refine x_i2l (pc := 31) dX10_hashSack_31 ?_
  refine x_callSl (pc := 32) (As := [.long v6, .long v7.toInt64]) (rest := []) (vx := fun a => a) (μf := fun _ => μ) (mX10_mix S μ cx cy v6 v7.toInt64) (fun _ => rfl) rfl dX10_hashSack_32 q1175 kX10_mix rfl ⟨by decide, by decide⟩ rfl (Nat.le_of_ble_eq_true rfl) (fun v8 => ?_)
  refine x_lstore_n (pc := 35) dX10_hashSack_35 (i := 3) rfl (by decide) (l' := [some (.ref o), some (.long p0), none, some (.long v8), none]) rfl ?_
  refine x_lload_n (pc := 36) dX10_hashSack_36 (i := 3) rfl rfl ?_
  refine x_aload_n (pc := 37) dX10_hashSack_37 (i := 0) rfl rfl ?_
  refine x_callVi (pc := 38) (As := []) (rest := [.long v8]) (vx := fun a => a.1) (μf := fun a => a.2) fcX10 (mX10_wrongToken S μ cx cy o) (fun _ => rfl) rfl (fun _ h => ifok h) dX10_hashSack_38 q1185 kX10_wrongToken rfl ⟨by decide, by decide⟩ rfl (Nat.le_of_ble_eq_true rfl) (fun r9 => ?_)
  refine x_i2l (pc := 41) dX10_hashSack_41 ?_
  refine x_callSl (pc := 42) (As := [.long v8, .long r9.1.toInt64]) (rest := []) (vx := fun a => a) (μf := fun _ => r9.2) (mX10_mix S r9.2 cx cy v8 r9.1.toInt64) (fun _ => rfl) rfl dX10_hashSack_42 q1175 kX10_mix rfl ⟨by decide, by decide⟩ rfl (Nat.le_of_ble_eq_true rfl) (fun v10 => ?_)
  refine x_lstore_n (pc := 45) dX10_hashSack_45 (i := 3) rfl (by decide) (l' := [some (.ref o), some (.long p0), none, some (.long v10), none]) rfl ?_
  refine x_lload_n (pc := 46) dX10_hashSack_46 (i := 3) rfl rfl ?_
  refine x_aload_n (pc := 47) dX10_hashSack_47 (i := 0) rfl rfl ?_
  refine x_callVi (pc := 48) (As := []) (rest := [.long v10]) (vx := fun a => a.1) (μf := fun a => a.2) fcX10 (mX10_wrongReason S r9.2 cx cy o) (fun _ => rfl) rfl (fun _ h => ifok h) dX10_hashSack_48 q1186 kX10_wrongReason rfl ⟨by decide, by decide⟩ rfl (Nat.le_of_ble_eq_true rfl) (fun r11 => ?_)
  refine x_i2l (pc := 51) dX10_hashSack_51 ?_
  refine x_callSl (pc := 52) (As := [.long v10, .long r11.1.toInt64]) (rest := []) (vx := fun a => a) (μf := fun _ => r11.2) (mX10_mix S r11.2 cx cy v10 r11.1.toInt64) (fun _ => rfl) rfl dX10_hashSack_52 q1175 kX10_mix rfl ⟨by decide, by decide⟩ rfl (Nat.le_of_ble_eq_true rfl) (fun v12 => ?_)
  refine x_lstore_n (pc := 55) dX10_hashSack_55 (i := 3) rfl (by decide) (l' := [some (.ref o), some (.long p0), none, some (.long v12), none]) rfl ?_
  refine x_lload_n (pc := 56) dX10_hashSack_56 (i := 3) rfl rfl ?_
  refine x_aload_n (pc := 57) dX10_hashSack_57 (i := 0) rfl rfl ?_
  refine x_callVi (pc := 58) (As := []) (rest := [.long v12]) (vx := fun a => a.1) (μf := fun a => a.2) fcX10 (mX10_isForText S r11.2 cx cy o) (fun _ => rfl) rfl (fun _ h => ifok h) dX10_hashSack_58 q1187 kX10_isForText rfl ⟨by decide, by decide⟩ rfl (Nat.le_of_ble_eq_true rfl) (fun r13 => ?_)
  refine x_callSl (pc := 61) (As := [.long v12, .int r13.1]) (rest := []) (vx := fun a => a) (μf := fun _ => r13.2) (mX10_mixTruth S r13.2 cx cy v12 r13.1) (fun _ => rfl) rfl dX10_hashSack_61 q1188 kX10_mixTruth rfl ⟨by decide, by decide⟩ rfl (Nat.le_of_ble_eq_true rfl) (fun v14 => ?_)
  exact x_lret rfl dX10_hashSack_64 rfl
theorem mX10_hashSack (S : mSh) (μ : mMm) (cx cy : Nat) (o : Nat) (p0 : Int64) : mMet MX10_hashSack [.ref o, .long p0] (S, μ, cx, cy) (iMJ S cx cy) (fX10_hashSack S μ o p0) := mMet.of rfl (by decide) rfl (fun h => by cases h) (Nat.le_of_ble_eq_true rfl) (mX.ck (fun _ => xbX10_hashSack o p0))
/-! SlideMills.hashCosts(J)J -/
def lX10_hashCosts_54 (S : mSh) : Nat → mMm → Nat → Int64 → Int32 → Option (Int64 × mMm)
  | 0, _, _, _, _ => none
  | n + 1, μ, x0, x3, x5 => if (2 : Int32) < x5 then (some (x3, μ)) else ((gR S x0 10 6).bind fun v13 => (gR S x0 10 7).bind fun v14 => (fX4_packBy S μ v13 x5 v14).bind fun m15 => (gR S x0 10 7).bind fun v16 => (gR S x0 10 0).bind fun v17 => (gR S v17 7 2).bind fun v18 => (fX5_cost S m15 v16 v18).bind fun v19 => (fX10_mix x3 v19.toInt64).bind fun v20 => (gR S x0 10 7).bind fun v21 => (gI S m15 v21 5 2).bind fun v22 => (fX10_mix v20 v22.toInt64).bind fun v23 => lX10_hashCosts_54 S n m15 x0 v23 (x5 + (1 : Int32)))
def bX10_hashCosts (S : mSh) (μ : mMm) (o : Nat) (p0 : Int64) : Option (Int64 × mMm) := (gR S o 10 6).bind fun v1 => (gR S o 10 0).bind fun v2 => (gR S v2 7 2).bind fun v3 => (gI S μ v3 6 0).bind fun v4 => (fX4_leastFromEnd S μ v1 v4).bind fun r5 => (fX10_mix p0 r5.1.toInt64).bind fun v6 => (gR S o 10 6).bind fun v7 => (fX4_leastFromBeginning S r5.2 v7).bind fun r8 => (fX10_mix v6 r8.1.toInt64).bind fun v9 => (gR S o 10 6).bind fun v10 => (fX4_leastFromEnd S r8.2 v10 (32 : Int32)).bind fun r11 => (fX10_mix v9 r11.1.toInt64).bind fun v12 => lX10_hashCosts_54 S FU r11.2 o v12 (0 : Int32)
def fX10_hashCosts (S : mSh) (μ : mMm) (o : Nat) (p0 : Int64) : Option (Int64 × mMm) := if mok S o 10 = true then bX10_hashCosts S μ o p0 else none
abbrev MX10_hashCosts : mM := ((yX10_hashCosts, cX10_hashCosts, 6, (some .long)), (6, 141), (false, false), RX10, eT)
theorem kX10_hashCosts : mCalV MX10_hashCosts RX10 1 := ⟨q1192, q1193, q2, q1194, by decide +kernel⟩
set_option maxHeartbeats 4000000 in
theorem xX10_hashCosts_54 {n0 c0 s0 cx cy : Nat} {S : mSh} : ∀ (n : Nat) (μ : mMm) (x0 : Nat) (x3 : Int64) (x5 : Int32) (d1 : Option Value) (d2 : Option Value), mX MX10_hashCosts n0 c0 s0 54 [some (.ref x0), d1, d2, some (.long x3), none, some (.int x5)] [] (S, μ, cx, cy) (iMJ S cx cy) (lX10_hashCosts_54 S n μ x0 x3 x5) := by
  intro n
  induction n with
  | zero => intros; exact x_none
  | succ n ih =>
    intro μ x0 x3 x5 d1 d2
    unfold lX10_hashCosts_54
    refine x_iload (pc := 54) dX10_hashCosts_54 rfl ?_
    refine x_iconst (pc := 56) (v := 2) dX10_hashCosts_56 (by decide) ?_
    refine x_icmp_gt (pc := 57) (tgt := 112) dX10_hashCosts_57 (by decide) ?_ ?_
    · refine x_lload_n (pc := 112) dX10_hashCosts_112 (i := 3) rfl rfl ?_
      exact x_lret rfl dX10_hashCosts_113 rfl
    · refine x_aload_n (pc := 60) dX10_hashCosts_60 (i := 0) rfl rfl ?_
      refine x_gR (pc := 61) (k := 6) fcX10 dX10_hashCosts_61 q36 (by decide) rfl (fun v13 => ?_)
      refine x_iload (pc := 64) dX10_hashCosts_64 rfl ?_
      refine x_aload_n (pc := 66) dX10_hashCosts_66 (i := 0) rfl rfl ?_
      refine x_gR (pc := 67) (k := 7) fcX10 dX10_hashCosts_67 q40 (by decide) rfl (fun v14 => ?_)
      refine x_callVv (pc := 70) (As := [.int x5, .ref v14]) (rest := []) (μf := fun a => a) fcX4 (mX4_packBy S μ cx cy v13 x5 v14) (fun _ => rfl) rfl (fun _ h => ifok h) dX10_hashCosts_70 q349 kX4_packBy rfl ⟨by decide, by decide⟩ rfl (Nat.le_of_ble_eq_true rfl) (fun m15 => ?_)
      refine x_lload_n (pc := 73) dX10_hashCosts_73 (i := 3) rfl rfl ?_
      refine x_aload_n (pc := 74) dX10_hashCosts_74 (i := 0) rfl rfl ?_
      refine x_gR (pc := 75) (k := 7) fcX10 dX10_hashCosts_75 q40 (by decide) rfl (fun v16 => ?_)
      refine x_aload_n (pc := 78) dX10_hashCosts_78 (i := 0) rfl rfl ?_
      refine x_gR (pc := 79) (k := 0) fcX10 dX10_hashCosts_79 q16 (by decide) rfl (fun v17 => ?_)
      refine x_gR (pc := 82) (k := 2) fcX7 dX10_hashCosts_82 q31 (by decide) rfl (fun v18 => ?_)
      refine x_callVi (pc := 85) (As := [.ref v18]) (rest := [.long x3]) (vx := fun a => a) (μf := fun _ => m15) fcX5 (mX5_cost S m15 cx cy v16 v18) (fun _ => rfl) rfl (fun _ h => ifok h) dX10_hashCosts_85 q891 kX5_cost rfl ⟨by decide, by decide⟩ rfl (Nat.le_of_ble_eq_true rfl) (fun v19 => ?_)
      refine x_i2l (pc := 88) dX10_hashCosts_88 ?_
      refine x_callSl (pc := 89) (As := [.long x3, .long v19.toInt64]) (rest := []) (vx := fun a => a) (μf := fun _ => m15) (mX10_mix S m15 cx cy x3 v19.toInt64) (fun _ => rfl) rfl dX10_hashCosts_89 q1175 kX10_mix rfl ⟨by decide, by decide⟩ rfl (Nat.le_of_ble_eq_true rfl) (fun v20 => ?_)
      refine x_lstore_n (pc := 92) dX10_hashCosts_92 (i := 3) rfl (by decide) (l' := [some (.ref x0), d1, (kl d2), some (.long v20), none, some (.int x5)]) rfl ?_
      refine x_lload_n (pc := 93) dX10_hashCosts_93 (i := 3) rfl rfl ?_
      refine x_aload_n (pc := 94) dX10_hashCosts_94 (i := 0) rfl rfl ?_
      refine x_gR (pc := 95) (k := 7) fcX10 dX10_hashCosts_95 q40 (by decide) rfl (fun v21 => ?_)
      refine x_gI (pc := 98) (k := 2) fcX5 dX10_hashCosts_98 q345 (by decide) rfl (fun v22 => ?_)
      refine x_i2l (pc := 101) dX10_hashCosts_101 ?_
      refine x_callSl (pc := 102) (As := [.long v20, .long v22.toInt64]) (rest := []) (vx := fun a => a) (μf := fun _ => m15) (mX10_mix S m15 cx cy v20 v22.toInt64) (fun _ => rfl) rfl dX10_hashCosts_102 q1175 kX10_mix rfl ⟨by decide, by decide⟩ rfl (Nat.le_of_ble_eq_true rfl) (fun v23 => ?_)
      refine x_lstore_n (pc := 105) dX10_hashCosts_105 (i := 3) rfl (by decide) (l' := [some (.ref x0), d1, (kl (kl d2)), some (.long v23), none, some (.int x5)]) rfl ?_
      refine x_iinc (pc := 106) (v := x5 + (1 : Int32)) dX10_hashCosts_106 rfl (by rw [show Int32.ofInt (1) = (1 : Int32) from by decide]) (by decide) (l' := [some (.ref x0), d1, (kl (kl d2)), some (.long v23), none, some (.int (x5 + (1 : Int32)))]) rfl ?_
      refine x_goto (pc := 109) (tgt := 54) dX10_hashCosts_109 (by decide) ?_
      exact ih m15 x0 v23 (x5 + (1 : Int32)) _ _
set_option maxHeartbeats 4000000 in
theorem xbX10_hashCosts {n0 c0 s0 cx cy : Nat} {S : mSh} {μ : mMm} (o : Nat) (p0 : Int64) : mX MX10_hashCosts n0 c0 s0 0 [some (.ref o), some (.long p0), none, none, none, none] [] (S, μ, cx, cy) (iMJ S cx cy) (bX10_hashCosts S μ o p0) := by
  unfold bX10_hashCosts
  refine x_lload_n (pc := 0) dX10_hashCosts_0 (i := 1) rfl rfl ?_
  refine x_aload_n (pc := 1) dX10_hashCosts_1 (i := 0) rfl rfl ?_
  refine x_gR (pc := 2) (k := 6) fcX10 dX10_hashCosts_2 q36 (by decide) rfl (fun v1 => ?_)
  refine x_aload_n (pc := 5) dX10_hashCosts_5 (i := 0) rfl rfl ?_
  refine x_gR (pc := 6) (k := 0) fcX10 dX10_hashCosts_6 q16 (by decide) rfl (fun v2 => ?_)
  refine x_gR (pc := 9) (k := 2) fcX7 dX10_hashCosts_9 q31 (by decide) rfl (fun v3 => ?_)
  refine x_gI (pc := 12) (k := 0) fcX6 dX10_hashCosts_12 q277 (by decide) rfl (fun v4 => ?_)
  refine x_callVi (pc := 15) (As := [.int v4]) (rest := [.long p0]) (vx := fun a => a.1) (μf := fun a => a.2) fcX4 (mX4_leastFromEnd S μ cx cy v1 v4) (fun _ => rfl) rfl (fun _ h => ifok h) dX10_hashCosts_15 q1052 kX4_leastFromEnd rfl ⟨by decide, by decide⟩ rfl (Nat.le_of_ble_eq_true rfl) (fun r5 => ?_)
  refine x_i2l (pc := 18) dX10_hashCosts_18 ?_
  refine x_callSl (pc := 19) (As := [.long p0, .long r5.1.toInt64]) (rest := []) (vx := fun a => a) (μf := fun _ => r5.2) (mX10_mix S r5.2 cx cy p0 r5.1.toInt64) (fun _ => rfl) rfl dX10_hashCosts_19 q1175 kX10_mix rfl ⟨by decide, by decide⟩ rfl (Nat.le_of_ble_eq_true rfl) (fun v6 => ?_)
  refine x_lstore_n (pc := 22) dX10_hashCosts_22 (i := 3) rfl (by decide) (l' := [some (.ref o), some (.long p0), none, some (.long v6), none, none]) rfl ?_
  refine x_lload_n (pc := 23) dX10_hashCosts_23 (i := 3) rfl rfl ?_
  refine x_aload_n (pc := 24) dX10_hashCosts_24 (i := 0) rfl rfl ?_
  refine x_gR (pc := 25) (k := 6) fcX10 dX10_hashCosts_25 q36 (by decide) rfl (fun v7 => ?_)
  refine x_callVi (pc := 28) (As := []) (rest := [.long v6]) (vx := fun a => a.1) (μf := fun a => a.2) fcX4 (mX4_leastFromBeginning S r5.2 cx cy v7) (fun _ => rfl) rfl (fun _ h => ifok h) dX10_hashCosts_28 q1065 kX4_leastFromBeginning rfl ⟨by decide, by decide⟩ rfl (Nat.le_of_ble_eq_true rfl) (fun r8 => ?_)
  refine x_i2l (pc := 31) dX10_hashCosts_31 ?_
  refine x_callSl (pc := 32) (As := [.long v6, .long r8.1.toInt64]) (rest := []) (vx := fun a => a) (μf := fun _ => r8.2) (mX10_mix S r8.2 cx cy v6 r8.1.toInt64) (fun _ => rfl) rfl dX10_hashCosts_32 q1175 kX10_mix rfl ⟨by decide, by decide⟩ rfl (Nat.le_of_ble_eq_true rfl) (fun v9 => ?_)
  refine x_lstore_n (pc := 35) dX10_hashCosts_35 (i := 3) rfl (by decide) (l' := [some (.ref o), some (.long p0), none, some (.long v9), none, none]) rfl ?_
  refine x_lload_n (pc := 36) dX10_hashCosts_36 (i := 3) rfl rfl ?_
  refine x_aload_n (pc := 37) dX10_hashCosts_37 (i := 0) rfl rfl ?_
  refine x_gR (pc := 38) (k := 6) fcX10 dX10_hashCosts_38 q36 (by decide) rfl (fun v10 => ?_)
  refine x_bipush (pc := 41) (v := 32) dX10_hashCosts_41 (by decide) ?_
  refine x_callVi (pc := 43) (As := [.int (32 : Int32)]) (rest := [.long v9]) (vx := fun a => a.1) (μf := fun a => a.2) fcX4 (mX4_leastFromEnd S r8.2 cx cy v10 (32 : Int32)) (fun _ => rfl) rfl (fun _ h => ifok h) dX10_hashCosts_43 q1052 kX4_leastFromEnd rfl ⟨by decide, by decide⟩ rfl (Nat.le_of_ble_eq_true rfl) (fun r11 => ?_)
  refine x_i2l (pc := 46) dX10_hashCosts_46 ?_
  refine x_callSl (pc := 47) (As := [.long v9, .long r11.1.toInt64]) (rest := []) (vx := fun a => a) (μf := fun _ => r11.2) (mX10_mix S r11.2 cx cy v9 r11.1.toInt64) (fun _ => rfl) rfl dX10_hashCosts_47 q1175 kX10_mix rfl ⟨by decide, by decide⟩ rfl (Nat.le_of_ble_eq_true rfl) (fun v12 => ?_)
  refine x_lstore_n (pc := 50) dX10_hashCosts_50 (i := 3) rfl (by decide) (l' := [some (.ref o), some (.long p0), none, some (.long v12), none, none]) rfl ?_
  refine x_iconst (pc := 51) (v := 0) dX10_hashCosts_51 (by decide) ?_
  refine x_istore (pc := 52) dX10_hashCosts_52 (by decide) (l' := [some (.ref o), some (.long p0), none, some (.long v12), none, some (.int (0 : Int32))]) rfl ?_
  exact xX10_hashCosts_54 FU r11.2 o v12 (0 : Int32) _ _
theorem mX10_hashCosts (S : mSh) (μ : mMm) (cx cy : Nat) (o : Nat) (p0 : Int64) : mMet MX10_hashCosts [.ref o, .long p0] (S, μ, cx, cy) (iMJ S cx cy) (fX10_hashCosts S μ o p0) := mMet.of rfl (by decide) rfl (fun h => by cases h) (Nat.le_of_ble_eq_true rfl) (mX.ck (fun _ => xbX10_hashCosts o p0))
/-! SlideMills.hashTokens(J)J -/
def lX10_hashTokens_92 (k5 : Nat → Int64 → Int32 → Option (Int64)) (S : mSh) (μ : mMm) (x0 : Nat) (x5 : Int32) (t0 : Int64) (t1 : Int64) : Option (Int64) := (fX10_mix t1 t0).bind fun v15 => k5 x0 v15 (x5 + (1 : Int32))
def lX10_hashTokens_45 (k5 : Nat → Int64 → Int32 → Option (Int64)) (S : mSh) (μ : mMm) (x0 : Nat) (x5 : Int32) (x6 : Int32) (t0 : Int32) (t1 : Int64) : Option (Int64) := (fX10_mixTruth t1 t0).bind fun v7 => (gR S x0 10 0).bind fun v8 => (gR S v8 7 1).bind fun v9 => (fX5_length S μ v9 x5).bind fun v10 => (fX10_mix v7 v10.toInt64).bind fun v11 => if x6 = 0 then ((gR S x0 10 0).bind fun v12 => (gR S v12 7 1).bind fun v13 => (fX5_value S μ v13 x5).bind fun v14 => lX10_hashTokens_92 k5 S μ x0 x5 v14.toInt64 v11) else (lX10_hashTokens_92 k5 S μ x0 x5 x6.toInt64 v11)
def lX10_hashTokens_5 (S : mSh) (μ : mMm) : Nat → Nat → Int64 → Int32 → Option (Int64)
  | 0, _, _, _ => none
  | n + 1, x0, x3, x5 => (gR S x0 10 0).bind fun v1 => (gR S v1 7 1).bind fun v2 => (gI S μ v2 5 2).bind fun v3 => if v3 ≤ x5 then (some x3) else ((gR S x0 10 0).bind fun v4 => (gR S v4 7 1).bind fun v5 => (fX5_distance S μ v5 x5).bind fun v6 => if v6 = 0 then (lX10_hashTokens_45 (lX10_hashTokens_5 S μ n) S μ x0 x5 v6 (0 : Int32) x3) else (lX10_hashTokens_45 (lX10_hashTokens_5 S μ n) S μ x0 x5 v6 (1 : Int32) x3))
def bX10_hashTokens (S : mSh) (μ : mMm) (o : Nat) (p0 : Int64) : Option (Int64) := lX10_hashTokens_5 S μ FU o p0 (0 : Int32)
def fX10_hashTokens (S : mSh) (μ : mMm) (o : Nat) (p0 : Int64) : Option (Int64) := if mok S o 10 = true then bX10_hashTokens S μ o p0 else none
abbrev MX10_hashTokens : mM := ((yX10_hashTokens, cX10_hashTokens, 7, (some .long)), (2, 45), (false, false), RX10, eT)
theorem kX10_hashTokens : mCalV MX10_hashTokens RX10 1 := ⟨q1196, q1197, q2, q1198, by decide +kernel⟩
set_option maxHeartbeats 4000000 in
theorem xX10_hashTokens_92 {n0 c0 s0 cx cy : Nat} {S : mSh} {μ : mMm} {k5 : Nat → Int64 → Int32 → Option (Int64)} (hk5 : ∀ (x0 : Nat) (x3 : Int64) (x5 : Int32) (d1 : Option Value) (d2 : Option Value) (d6 : Option Value), mX MX10_hashTokens n0 c0 s0 5 [some (.ref x0), d1, d2, some (.long x3), none, some (.int x5), d6] [] (S, μ, cx, cy) (iPJ S μ cx cy) (k5 x0 x3 x5)) (x0 : Nat) (x5 : Int32) (t0 : Int64) (t1 : Int64) (d1 : Option Value) (d2 : Option Value) (d3 : Option Value) (d4 : Option Value) (d6 : Option Value) : mX MX10_hashTokens n0 c0 s0 92 [some (.ref x0), d1, d2, d3, d4, some (.int x5), d6] [.long t0, .long t1] (S, μ, cx, cy) (iPJ S μ cx cy) (lX10_hashTokens_92 k5 S μ x0 x5 t0 t1) := by
  unfold lX10_hashTokens_92
  refine x_callSl (pc := 92) (As := [.long t1, .long t0]) (rest := []) (vx := fun a => a) (μf := fun _ => μ) (mX10_mix S μ cx cy t1 t0) (fun _ => rfl) rfl dX10_hashTokens_92 q1175 kX10_mix rfl ⟨by decide, by decide⟩ rfl (Nat.le_of_ble_eq_true rfl) (fun v15 => ?_)
  refine x_lstore_n (pc := 95) dX10_hashTokens_95 (i := 3) rfl (by decide) (l' := [some (.ref x0), d1, (kl d2), some (.long v15), none, some (.int x5), d6]) rfl ?_
  refine x_iinc (pc := 96) (v := x5 + (1 : Int32)) dX10_hashTokens_96 rfl (by rw [show Int32.ofInt (1) = (1 : Int32) from by decide]) (by decide) (l' := [some (.ref x0), d1, (kl d2), some (.long v15), none, some (.int (x5 + (1 : Int32))), d6]) rfl ?_
  refine x_goto (pc := 99) (tgt := 5) dX10_hashTokens_99 (by decide) ?_
  exact hk5 x0 v15 (x5 + (1 : Int32)) _ _ _
set_option maxHeartbeats 4000000 in
theorem xX10_hashTokens_45 {n0 c0 s0 cx cy : Nat} {S : mSh} {μ : mMm} {k5 : Nat → Int64 → Int32 → Option (Int64)} (hk5 : ∀ (x0 : Nat) (x3 : Int64) (x5 : Int32) (d1 : Option Value) (d2 : Option Value) (d6 : Option Value), mX MX10_hashTokens n0 c0 s0 5 [some (.ref x0), d1, d2, some (.long x3), none, some (.int x5), d6] [] (S, μ, cx, cy) (iPJ S μ cx cy) (k5 x0 x3 x5)) (x0 : Nat) (x5 : Int32) (x6 : Int32) (t0 : Int32) (t1 : Int64) (d1 : Option Value) (d2 : Option Value) (d3 : Option Value) (d4 : Option Value) : mX MX10_hashTokens n0 c0 s0 45 [some (.ref x0), d1, d2, d3, d4, some (.int x5), some (.int x6)] [.int t0, .long t1] (S, μ, cx, cy) (iPJ S μ cx cy) (lX10_hashTokens_45 k5 S μ x0 x5 x6 t0 t1) := by
  unfold lX10_hashTokens_45
  refine x_callSl (pc := 45) (As := [.long t1, .int t0]) (rest := []) (vx := fun a => a) (μf := fun _ => μ) (mX10_mixTruth S μ cx cy t1 t0) (fun _ => rfl) rfl dX10_hashTokens_45 q1188 kX10_mixTruth rfl ⟨by decide, by decide⟩ rfl (Nat.le_of_ble_eq_true rfl) (fun v7 => ?_)
  refine x_lstore_n (pc := 48) dX10_hashTokens_48 (i := 3) rfl (by decide) (l' := [some (.ref x0), d1, (kl d2), some (.long v7), none, some (.int x5), some (.int x6)]) rfl ?_
  refine x_lload_n (pc := 49) dX10_hashTokens_49 (i := 3) rfl rfl ?_
  refine x_aload_n (pc := 50) dX10_hashTokens_50 (i := 0) rfl rfl ?_
  refine x_gR (pc := 51) (k := 0) fcX10 dX10_hashTokens_51 q16 (by decide) rfl (fun v8 => ?_)
  refine x_gR (pc := 54) (k := 1) fcX7 dX10_hashTokens_54 q344 (by decide) rfl (fun v9 => ?_)
  refine x_iload (pc := 57) dX10_hashTokens_57 rfl ?_
  refine x_callVi (pc := 59) (As := [.int x5]) (rest := [.long v7]) (vx := fun a => a) (μf := fun _ => μ) fcX5 (mX5_length S μ cx cy v9 x5) (fun _ => rfl) rfl (fun _ h => ifok h) dX10_hashTokens_59 q882 kX5_length rfl ⟨by decide, by decide⟩ rfl (Nat.le_of_ble_eq_true rfl) (fun v10 => ?_)
  refine x_i2l (pc := 62) dX10_hashTokens_62 ?_
  refine x_callSl (pc := 63) (As := [.long v7, .long v10.toInt64]) (rest := []) (vx := fun a => a) (μf := fun _ => μ) (mX10_mix S μ cx cy v7 v10.toInt64) (fun _ => rfl) rfl dX10_hashTokens_63 q1175 kX10_mix rfl ⟨by decide, by decide⟩ rfl (Nat.le_of_ble_eq_true rfl) (fun v11 => ?_)
  refine x_lstore_n (pc := 66) dX10_hashTokens_66 (i := 3) rfl (by decide) (l' := [some (.ref x0), d1, (kl (kl d2)), some (.long v11), none, some (.int x5), some (.int x6)]) rfl ?_
  refine x_lload_n (pc := 67) dX10_hashTokens_67 (i := 3) rfl rfl ?_
  refine x_iload (pc := 68) dX10_hashTokens_68 rfl ?_
  refine x_if_eq (pc := 70) (tgt := 79) dX10_hashTokens_70 (by decide) ?_ ?_
  · refine x_aload_n (pc := 79) dX10_hashTokens_79 (i := 0) rfl rfl ?_
    refine x_gR (pc := 80) (k := 0) fcX10 dX10_hashTokens_80 q16 (by decide) rfl (fun v12 => ?_)
    refine x_gR (pc := 83) (k := 1) fcX7 dX10_hashTokens_83 q344 (by decide) rfl (fun v13 => ?_)
    refine x_iload (pc := 86) dX10_hashTokens_86 rfl ?_
    refine x_callVi (pc := 88) (As := [.int x5]) (rest := [.long v11]) (vx := fun a => a) (μf := fun _ => μ) fcX5 (mX5_value S μ cx cy v13 x5) (fun _ => rfl) rfl (fun _ h => ifok h) dX10_hashTokens_88 q859 kX5_value rfl ⟨by decide, by decide⟩ rfl (Nat.le_of_ble_eq_true rfl) (fun v14 => ?_)
    refine x_i2l (pc := 91) dX10_hashTokens_91 ?_
    exact xX10_hashTokens_92 (k5 := k5) hk5 x0 x5 v14.toInt64 v11 _ _ _ _ _
  · refine x_iload (pc := 73) dX10_hashTokens_73 rfl ?_
    refine x_i2l (pc := 75) dX10_hashTokens_75 ?_
    refine x_goto (pc := 76) (tgt := 92) dX10_hashTokens_76 (by decide) ?_
    exact xX10_hashTokens_92 (k5 := k5) hk5 x0 x5 x6.toInt64 v11 _ _ _ _ _
set_option maxHeartbeats 4000000 in
theorem xX10_hashTokens_5 {n0 c0 s0 cx cy : Nat} {S : mSh} {μ : mMm} : ∀ (n : Nat) (x0 : Nat) (x3 : Int64) (x5 : Int32) (d1 : Option Value) (d2 : Option Value) (d6 : Option Value), mX MX10_hashTokens n0 c0 s0 5 [some (.ref x0), d1, d2, some (.long x3), none, some (.int x5), d6] [] (S, μ, cx, cy) (iPJ S μ cx cy) (lX10_hashTokens_5 S μ n x0 x3 x5) := by
  intro n
  induction n with
  | zero => intros; exact x_none
  | succ n ih =>
    intro x0 x3 x5 d1 d2 d6
    unfold lX10_hashTokens_5
    refine x_iload (pc := 5) dX10_hashTokens_5 rfl ?_
    refine x_aload_n (pc := 7) dX10_hashTokens_7 (i := 0) rfl rfl ?_
    refine x_gR (pc := 8) (k := 0) fcX10 dX10_hashTokens_8 q16 (by decide) rfl (fun v1 => ?_)
    refine x_gR (pc := 11) (k := 1) fcX7 dX10_hashTokens_11 q344 (by decide) rfl (fun v2 => ?_)
    refine x_gI (pc := 14) (k := 2) fcX5 dX10_hashTokens_14 q345 (by decide) rfl (fun v3 => ?_)
    refine x_icmp_ge (pc := 17) (tgt := 102) dX10_hashTokens_17 (by decide) ?_ ?_
    · refine x_lload_n (pc := 102) dX10_hashTokens_102 (i := 3) rfl rfl ?_
      exact x_lret rfl dX10_hashTokens_103 rfl
    · refine x_aload_n (pc := 20) dX10_hashTokens_20 (i := 0) rfl rfl ?_
      refine x_gR (pc := 21) (k := 0) fcX10 dX10_hashTokens_21 q16 (by decide) rfl (fun v4 => ?_)
      refine x_gR (pc := 24) (k := 1) fcX7 dX10_hashTokens_24 q344 (by decide) rfl (fun v5 => ?_)
      refine x_iload (pc := 27) dX10_hashTokens_27 rfl ?_
      refine x_callVi (pc := 29) (As := [.int x5]) (rest := []) (vx := fun a => a) (μf := fun _ => μ) fcX5 (mX5_distance S μ cx cy v5 x5) (fun _ => rfl) rfl (fun _ h => ifok h) dX10_hashTokens_29 q843 kX5_distance rfl ⟨by decide, by decide⟩ rfl (Nat.le_of_ble_eq_true rfl) (fun v6 => ?_)
      refine x_istore (pc := 32) dX10_hashTokens_32 (by decide) (l' := [some (.ref x0), d1, d2, some (.long x3), none, some (.int x5), some (.int v6)]) rfl ?_
      refine x_lload_n (pc := 34) dX10_hashTokens_34 (i := 3) rfl rfl ?_
      refine x_iload (pc := 35) dX10_hashTokens_35 rfl ?_
      refine x_if_eq (pc := 37) (tgt := 44) dX10_hashTokens_37 (by decide) ?_ ?_
      · refine x_iconst (pc := 44) (v := 0) dX10_hashTokens_44 (by decide) ?_
        exact xX10_hashTokens_45 (k5 := (lX10_hashTokens_5 S μ n)) ih x0 x5 v6 (0 : Int32) x3 _ _ _ _
      · refine x_iconst (pc := 40) (v := 1) dX10_hashTokens_40 (by decide) ?_
        refine x_goto (pc := 41) (tgt := 45) dX10_hashTokens_41 (by decide) ?_
        exact xX10_hashTokens_45 (k5 := (lX10_hashTokens_5 S μ n)) ih x0 x5 v6 (1 : Int32) x3 _ _ _ _
set_option maxHeartbeats 4000000 in
theorem xbX10_hashTokens {n0 c0 s0 cx cy : Nat} {S : mSh} {μ : mMm} (o : Nat) (p0 : Int64) : mX MX10_hashTokens n0 c0 s0 0 [some (.ref o), some (.long p0), none, none, none, none, none] [] (S, μ, cx, cy) (iPJ S μ cx cy) (bX10_hashTokens S μ o p0) := by
  unfold bX10_hashTokens
  refine x_lload_n (pc := 0) dX10_hashTokens_0 (i := 1) rfl rfl ?_
  refine x_lstore_n (pc := 1) dX10_hashTokens_1 (i := 3) rfl (by decide) (l' := [some (.ref o), some (.long p0), none, some (.long p0), none, none, none]) rfl ?_
  refine x_iconst (pc := 2) (v := 0) dX10_hashTokens_2 (by decide) ?_
  refine x_istore (pc := 3) dX10_hashTokens_3 (by decide) (l' := [some (.ref o), some (.long p0), none, some (.long p0), none, some (.int (0 : Int32)), none]) rfl ?_
  exact xX10_hashTokens_5 FU o p0 (0 : Int32) _ _ _
theorem mX10_hashTokens (S : mSh) (μ : mMm) (cx cy : Nat) (o : Nat) (p0 : Int64) : mMet MX10_hashTokens [.ref o, .long p0] (S, μ, cx, cy) (iPJ S μ cx cy) (fX10_hashTokens S μ o p0) := mMet.of rfl (by decide) rfl (fun h => by cases h) (Nat.le_of_ble_eq_true rfl) (mX.ck (fun _ => xbX10_hashTokens o p0))
/-! SlideMills.hashRepeats(J)J -/
def lX10_hashRepeats_22 (S : mSh) : Nat → mMm → Nat → Int64 → Int32 → Option (Int64 × mMm)
  | 0, _, _, _, _ => none
  | n + 1, μ, x0, x3, x5 => (gR S x0 10 0).bind fun v6 => (gR S v6 7 0).bind fun v7 => (gI S μ v7 2 1).bind fun v8 => if v8 ≤ x5 then (some (x3, μ)) else ((gR S x0 10 5).bind fun v9 => (gR S x0 10 0).bind fun v10 => (gR S v10 7 2).bind fun v11 => (gI S μ v11 6 0).bind fun v12 => (fX3_longestAt S μ v9 x5 v12).bind fun v13 => (fX10_mix x3 v13.toInt64).bind fun v14 => (gR S x0 10 5).bind fun v15 => (fX3_longestByPairs S μ v15 x5).bind fun v16 => (fX10_mix v14 v16.toInt64).bind fun v17 => (gR S x0 10 5).bind fun v18 => (fX3_leastDistance S μ v18 x5 v13).bind fun v19 => (fX10_mix v17 v19.toInt64).bind fun v20 => lX10_hashRepeats_22 S n μ x0 v20 (x5 + (1 : Int32)))
def bX10_hashRepeats (S : mSh) (μ : mMm) (o : Nat) (p0 : Int64) : Option (Int64 × mMm) := (gR S o 10 5).bind fun v1 => (gR S v1 3 2).bind fun v2 => (gR S o 10 0).bind fun v3 => (gR S v3 7 0).bind fun v4 => (fX0_read S μ v2 v4).bind fun m5 => lX10_hashRepeats_22 S FU m5 o p0 (0 : Int32)
def fX10_hashRepeats (S : mSh) (μ : mMm) (o : Nat) (p0 : Int64) : Option (Int64 × mMm) := if mok S o 10 = true then bX10_hashRepeats S μ o p0 else none
abbrev MX10_hashRepeats : mM := ((yX10_hashRepeats, cX10_hashRepeats, 7, (some .long)), (3, 71), (false, false), RX10, eT)
theorem kX10_hashRepeats : mCalV MX10_hashRepeats RX10 1 := ⟨q1200, q1201, q2, q1202, by decide +kernel⟩
set_option maxHeartbeats 4000000 in
theorem xX10_hashRepeats_22 {n0 c0 s0 cx cy : Nat} {S : mSh} : ∀ (n : Nat) (μ : mMm) (x0 : Nat) (x3 : Int64) (x5 : Int32) (d1 : Option Value) (d2 : Option Value) (d6 : Option Value), mX MX10_hashRepeats n0 c0 s0 22 [some (.ref x0), d1, d2, some (.long x3), none, some (.int x5), d6] [] (S, μ, cx, cy) (iMJ S cx cy) (lX10_hashRepeats_22 S n μ x0 x3 x5) := by
  intro n
  induction n with
  | zero => intros; exact x_none
  | succ n ih =>
    intro μ x0 x3 x5 d1 d2 d6
    unfold lX10_hashRepeats_22
    refine x_iload (pc := 22) dX10_hashRepeats_22 rfl ?_
    refine x_aload_n (pc := 24) dX10_hashRepeats_24 (i := 0) rfl rfl ?_
    refine x_gR (pc := 25) (k := 0) fcX10 dX10_hashRepeats_25 q16 (by decide) rfl (fun v6 => ?_)
    refine x_gR (pc := 28) (k := 0) fcX7 dX10_hashRepeats_28 q30 (by decide) rfl (fun v7 => ?_)
    refine x_gI (pc := 31) (k := 1) fcX2 dX10_hashRepeats_31 q159 (by decide) rfl (fun v8 => ?_)
    refine x_icmp_ge (pc := 34) (tgt := 104) dX10_hashRepeats_34 (by decide) ?_ ?_
    · refine x_lload_n (pc := 104) dX10_hashRepeats_104 (i := 3) rfl rfl ?_
      exact x_lret rfl dX10_hashRepeats_105 rfl
    · refine x_aload_n (pc := 37) dX10_hashRepeats_37 (i := 0) rfl rfl ?_
      refine x_gR (pc := 38) (k := 5) fcX10 dX10_hashRepeats_38 q32 (by decide) rfl (fun v9 => ?_)
      refine x_iload (pc := 41) dX10_hashRepeats_41 rfl ?_
      refine x_aload_n (pc := 43) dX10_hashRepeats_43 (i := 0) rfl rfl ?_
      refine x_gR (pc := 44) (k := 0) fcX10 dX10_hashRepeats_44 q16 (by decide) rfl (fun v10 => ?_)
      refine x_gR (pc := 47) (k := 2) fcX7 dX10_hashRepeats_47 q31 (by decide) rfl (fun v11 => ?_)
      refine x_gI (pc := 50) (k := 0) fcX6 dX10_hashRepeats_50 q277 (by decide) rfl (fun v12 => ?_)
      refine x_callVi (pc := 53) (As := [.int x5, .int v12]) (rest := []) (vx := fun a => a) (μf := fun _ => μ) fcX3 (mX3_longestAt S μ cx cy v9 x5 v12) (fun _ => rfl) rfl (fun _ h => ifok h) dX10_hashRepeats_53 q963 kX3_longestAt rfl ⟨by decide, by decide⟩ rfl (Nat.le_of_ble_eq_true rfl) (fun v13 => ?_)
      refine x_istore (pc := 56) dX10_hashRepeats_56 (by decide) (l' := [some (.ref x0), d1, d2, some (.long x3), none, some (.int x5), some (.int v13)]) rfl ?_
      refine x_lload_n (pc := 58) dX10_hashRepeats_58 (i := 3) rfl rfl ?_
      refine x_iload (pc := 59) dX10_hashRepeats_59 rfl ?_
      refine x_i2l (pc := 61) dX10_hashRepeats_61 ?_
      refine x_callSl (pc := 62) (As := [.long x3, .long v13.toInt64]) (rest := []) (vx := fun a => a) (μf := fun _ => μ) (mX10_mix S μ cx cy x3 v13.toInt64) (fun _ => rfl) rfl dX10_hashRepeats_62 q1175 kX10_mix rfl ⟨by decide, by decide⟩ rfl (Nat.le_of_ble_eq_true rfl) (fun v14 => ?_)
      refine x_lstore_n (pc := 65) dX10_hashRepeats_65 (i := 3) rfl (by decide) (l' := [some (.ref x0), d1, (kl d2), some (.long v14), none, some (.int x5), some (.int v13)]) rfl ?_
      refine x_lload_n (pc := 66) dX10_hashRepeats_66 (i := 3) rfl rfl ?_
      refine x_aload_n (pc := 67) dX10_hashRepeats_67 (i := 0) rfl rfl ?_
      refine x_gR (pc := 68) (k := 5) fcX10 dX10_hashRepeats_68 q32 (by decide) rfl (fun v15 => ?_)
      refine x_iload (pc := 71) dX10_hashRepeats_71 rfl ?_
      refine x_callVi (pc := 73) (As := [.int x5]) (rest := [.long v14]) (vx := fun a => a) (μf := fun _ => μ) fcX3 (mX3_longestByPairs S μ cx cy v15 x5) (fun _ => rfl) rfl (fun _ h => ifok h) dX10_hashRepeats_73 q986 kX3_longestByPairs rfl ⟨by decide, by decide⟩ rfl (Nat.le_of_ble_eq_true rfl) (fun v16 => ?_)
      refine x_i2l (pc := 76) dX10_hashRepeats_76 ?_
      refine x_callSl (pc := 77) (As := [.long v14, .long v16.toInt64]) (rest := []) (vx := fun a => a) (μf := fun _ => μ) (mX10_mix S μ cx cy v14 v16.toInt64) (fun _ => rfl) rfl dX10_hashRepeats_77 q1175 kX10_mix rfl ⟨by decide, by decide⟩ rfl (Nat.le_of_ble_eq_true rfl) (fun v17 => ?_)
      refine x_lstore_n (pc := 80) dX10_hashRepeats_80 (i := 3) rfl (by decide) (l' := [some (.ref x0), d1, (kl (kl d2)), some (.long v17), none, some (.int x5), some (.int v13)]) rfl ?_
      refine x_lload_n (pc := 81) dX10_hashRepeats_81 (i := 3) rfl rfl ?_
      refine x_aload_n (pc := 82) dX10_hashRepeats_82 (i := 0) rfl rfl ?_
      refine x_gR (pc := 83) (k := 5) fcX10 dX10_hashRepeats_83 q32 (by decide) rfl (fun v18 => ?_)
      refine x_iload (pc := 86) dX10_hashRepeats_86 rfl ?_
      refine x_iload (pc := 88) dX10_hashRepeats_88 rfl ?_
      refine x_callVi (pc := 90) (As := [.int x5, .int v13]) (rest := [.long v17]) (vx := fun a => a) (μf := fun _ => μ) fcX3 (mX3_leastDistance S μ cx cy v18 x5 v13) (fun _ => rfl) rfl (fun _ h => ifok h) dX10_hashRepeats_90 q1013 kX3_leastDistance rfl ⟨by decide, by decide⟩ rfl (Nat.le_of_ble_eq_true rfl) (fun v19 => ?_)
      refine x_i2l (pc := 93) dX10_hashRepeats_93 ?_
      refine x_callSl (pc := 94) (As := [.long v17, .long v19.toInt64]) (rest := []) (vx := fun a => a) (μf := fun _ => μ) (mX10_mix S μ cx cy v17 v19.toInt64) (fun _ => rfl) rfl dX10_hashRepeats_94 q1175 kX10_mix rfl ⟨by decide, by decide⟩ rfl (Nat.le_of_ble_eq_true rfl) (fun v20 => ?_)
      refine x_lstore_n (pc := 97) dX10_hashRepeats_97 (i := 3) rfl (by decide) (l' := [some (.ref x0), d1, (kl (kl (kl d2))), some (.long v20), none, some (.int x5), some (.int v13)]) rfl ?_
      refine x_iinc (pc := 98) (v := x5 + (1 : Int32)) dX10_hashRepeats_98 rfl (by rw [show Int32.ofInt (1) = (1 : Int32) from by decide]) (by decide) (l' := [some (.ref x0), d1, (kl (kl (kl d2))), some (.long v20), none, some (.int (x5 + (1 : Int32))), some (.int v13)]) rfl ?_
      refine x_goto (pc := 101) (tgt := 22) dX10_hashRepeats_101 (by decide) ?_
      exact ih μ x0 v20 (x5 + (1 : Int32)) _ _ _
set_option maxHeartbeats 4000000 in
theorem xbX10_hashRepeats {n0 c0 s0 cx cy : Nat} {S : mSh} {μ : mMm} (o : Nat) (p0 : Int64) : mX MX10_hashRepeats n0 c0 s0 0 [some (.ref o), some (.long p0), none, none, none, none, none] [] (S, μ, cx, cy) (iMJ S cx cy) (bX10_hashRepeats S μ o p0) := by
  unfold bX10_hashRepeats
  refine x_lload_n (pc := 0) dX10_hashRepeats_0 (i := 1) rfl rfl ?_
  refine x_lstore_n (pc := 1) dX10_hashRepeats_1 (i := 3) rfl (by decide) (l' := [some (.ref o), some (.long p0), none, some (.long p0), none, none, none]) rfl ?_
  refine x_aload_n (pc := 2) dX10_hashRepeats_2 (i := 0) rfl rfl ?_
  refine x_gR (pc := 3) (k := 5) fcX10 dX10_hashRepeats_3 q32 (by decide) rfl (fun v1 => ?_)
  refine x_gR (pc := 6) (k := 2) fcX3 dX10_hashRepeats_6 q975 (by decide) rfl (fun v2 => ?_)
  refine x_aload_n (pc := 9) dX10_hashRepeats_9 (i := 0) rfl rfl ?_
  refine x_gR (pc := 10) (k := 0) fcX10 dX10_hashRepeats_10 q16 (by decide) rfl (fun v3 => ?_)
  refine x_gR (pc := 13) (k := 0) fcX7 dX10_hashRepeats_13 q30 (by decide) rfl (fun v4 => ?_)
  refine x_callVv (pc := 16) (As := [.ref v4]) (rest := []) (μf := fun a => a) fcX0 (mX0_read S μ cx cy v2 v4) (fun _ => rfl) rfl (fun _ h => ifok h) dX10_hashRepeats_16 q976 kX0_read rfl ⟨by decide, by decide⟩ rfl (Nat.le_of_ble_eq_true rfl) (fun m5 => ?_)
  refine x_iconst (pc := 19) (v := 0) dX10_hashRepeats_19 (by decide) ?_
  refine x_istore (pc := 20) dX10_hashRepeats_20 (by decide) (l' := [some (.ref o), some (.long p0), none, some (.long p0), none, some (.int (0 : Int32)), none]) rfl ?_
  exact xX10_hashRepeats_22 FU m5 o p0 (0 : Int32) _ _ _
theorem mX10_hashRepeats (S : mSh) (μ : mMm) (cx cy : Nat) (o : Nat) (p0 : Int64) : mMet MX10_hashRepeats [.ref o, .long p0] (S, μ, cx, cy) (iMJ S cx cy) (fX10_hashRepeats S μ o p0) := mMet.of rfl (by decide) rfl (fun h => by cases h) (Nat.le_of_ble_eq_true rfl) (mX.ck (fun _ => xbX10_hashRepeats o p0))
/-! SlideMills.hashPairs(J)J -/
def lX10_hashPairs_22 (S : mSh) : Nat → mMm → Nat → Int64 → Int32 → Option (Int64 × mMm)
  | 0, _, _, _, _ => none
  | n + 1, μ, x0, x3, x5 => if (16 : Int32) ≤ x5 then ((gR S x0 10 0).bind fun v6 => (gR S v6 7 0).bind fun v7 => (gI S μ v7 2 1).bind fun v8 => if (2 : Int32) ≤ v8 then ((gR S x0 10 5).bind fun v9 => (gR S v9 3 2).bind fun v10 => (fX0_commonest S μ v10).bind fun v11 => (fX10_mix x3 v11.toInt64).bind fun v12 => some (v12, μ)) else (some (x3, μ))) else ((gR S x0 10 5).bind fun v13 => (gR S v13 3 2).bind fun v14 => (fX0_times S μ v14 x5).bind fun v15 => (fX10_mix x3 v15.toInt64).bind fun v16 => (gR S x0 10 5).bind fun v17 => (gR S v17 3 2).bind fun v18 => (fX0_lastPlace S μ v18 x5).bind fun v19 => (fX10_mix v16 v19.toInt64).bind fun v20 => lX10_hashPairs_22 S n μ x0 v20 (x5 + (1 : Int32)))
def bX10_hashPairs (S : mSh) (μ : mMm) (o : Nat) (p0 : Int64) : Option (Int64 × mMm) := (gR S o 10 5).bind fun v1 => (gR S v1 3 2).bind fun v2 => (gR S o 10 0).bind fun v3 => (gR S v3 7 0).bind fun v4 => (fX0_read S μ v2 v4).bind fun m5 => lX10_hashPairs_22 S FU m5 o p0 (0 : Int32)
def fX10_hashPairs (S : mSh) (μ : mMm) (o : Nat) (p0 : Int64) : Option (Int64 × mMm) := if mok S o 10 = true then bX10_hashPairs S μ o p0 else none
abbrev MX10_hashPairs : mM := ((yX10_hashPairs, cX10_hashPairs, 6, (some .long)), (2, 44), (false, false), RX10, eT)
theorem kX10_hashPairs : mCalV MX10_hashPairs RX10 1 := ⟨q1204, q1205, q2, q1206, by decide +kernel⟩
set_option maxHeartbeats 4000000 in
theorem xX10_hashPairs_22 {n0 c0 s0 cx cy : Nat} {S : mSh} : ∀ (n : Nat) (μ : mMm) (x0 : Nat) (x3 : Int64) (x5 : Int32) (d1 : Option Value) (d2 : Option Value), mX MX10_hashPairs n0 c0 s0 22 [some (.ref x0), d1, d2, some (.long x3), none, some (.int x5)] [] (S, μ, cx, cy) (iMJ S cx cy) (lX10_hashPairs_22 S n μ x0 x3 x5) := by
  intro n
  induction n with
  | zero => intros; exact x_none
  | succ n ih =>
    intro μ x0 x3 x5 d1 d2
    unfold lX10_hashPairs_22
    refine x_iload (pc := 22) dX10_hashPairs_22 rfl ?_
    refine x_bipush (pc := 24) (v := 16) dX10_hashPairs_24 (by decide) ?_
    refine x_icmp_ge (pc := 26) (tgt := 71) dX10_hashPairs_26 (by decide) ?_ ?_
    · refine x_aload_n (pc := 71) dX10_hashPairs_71 (i := 0) rfl rfl ?_
      refine x_gR (pc := 72) (k := 0) fcX10 dX10_hashPairs_72 q16 (by decide) rfl (fun v6 => ?_)
      refine x_gR (pc := 75) (k := 0) fcX7 dX10_hashPairs_75 q30 (by decide) rfl (fun v7 => ?_)
      refine x_gI (pc := 78) (k := 1) fcX2 dX10_hashPairs_78 q159 (by decide) rfl (fun v8 => ?_)
      refine x_iconst (pc := 81) (v := 2) dX10_hashPairs_81 (by decide) ?_
      refine x_icmp_ge (pc := 82) (tgt := 89) dX10_hashPairs_82 (by decide) ?_ ?_
      · refine x_lload_n (pc := 89) dX10_hashPairs_89 (i := 3) rfl rfl ?_
        refine x_aload_n (pc := 90) dX10_hashPairs_90 (i := 0) rfl rfl ?_
        refine x_gR (pc := 91) (k := 5) fcX10 dX10_hashPairs_91 q32 (by decide) rfl (fun v9 => ?_)
        refine x_gR (pc := 94) (k := 2) fcX3 dX10_hashPairs_94 q975 (by decide) rfl (fun v10 => ?_)
        refine x_callVi (pc := 97) (As := []) (rest := [.long x3]) (vx := fun a => a) (μf := fun _ => μ) fcX0 (mX0_commonest S μ cx cy v10) (fun _ => rfl) rfl (fun _ h => ifok h) dX10_hashPairs_97 q1142 kX0_commonest rfl ⟨by decide, by decide⟩ rfl (Nat.le_of_ble_eq_true rfl) (fun v11 => ?_)
        refine x_i2l (pc := 100) dX10_hashPairs_100 ?_
        refine x_callSl (pc := 101) (As := [.long x3, .long v11.toInt64]) (rest := []) (vx := fun a => a) (μf := fun _ => μ) (mX10_mix S μ cx cy x3 v11.toInt64) (fun _ => rfl) rfl dX10_hashPairs_101 q1175 kX10_mix rfl ⟨by decide, by decide⟩ rfl (Nat.le_of_ble_eq_true rfl) (fun v12 => ?_)
        exact x_lret rfl dX10_hashPairs_104 rfl
      · refine x_lload_n (pc := 85) dX10_hashPairs_85 (i := 3) rfl rfl ?_
        refine x_goto (pc := 86) (tgt := 104) dX10_hashPairs_86 (by decide) ?_
        exact x_lret rfl dX10_hashPairs_104 rfl
    · refine x_lload_n (pc := 29) dX10_hashPairs_29 (i := 3) rfl rfl ?_
      refine x_aload_n (pc := 30) dX10_hashPairs_30 (i := 0) rfl rfl ?_
      refine x_gR (pc := 31) (k := 5) fcX10 dX10_hashPairs_31 q32 (by decide) rfl (fun v13 => ?_)
      refine x_gR (pc := 34) (k := 2) fcX3 dX10_hashPairs_34 q975 (by decide) rfl (fun v14 => ?_)
      refine x_iload (pc := 37) dX10_hashPairs_37 rfl ?_
      refine x_callVi (pc := 39) (As := [.int x5]) (rest := [.long x3]) (vx := fun a => a) (μf := fun _ => μ) fcX0 (mX0_times S μ cx cy v14 x5) (fun _ => rfl) rfl (fun _ h => ifok h) dX10_hashPairs_39 q1104 kX0_times rfl ⟨by decide, by decide⟩ rfl (Nat.le_of_ble_eq_true rfl) (fun v15 => ?_)
      refine x_i2l (pc := 42) dX10_hashPairs_42 ?_
      refine x_callSl (pc := 43) (As := [.long x3, .long v15.toInt64]) (rest := []) (vx := fun a => a) (μf := fun _ => μ) (mX10_mix S μ cx cy x3 v15.toInt64) (fun _ => rfl) rfl dX10_hashPairs_43 q1175 kX10_mix rfl ⟨by decide, by decide⟩ rfl (Nat.le_of_ble_eq_true rfl) (fun v16 => ?_)
      refine x_lstore_n (pc := 46) dX10_hashPairs_46 (i := 3) rfl (by decide) (l' := [some (.ref x0), d1, (kl d2), some (.long v16), none, some (.int x5)]) rfl ?_
      refine x_lload_n (pc := 47) dX10_hashPairs_47 (i := 3) rfl rfl ?_
      refine x_aload_n (pc := 48) dX10_hashPairs_48 (i := 0) rfl rfl ?_
      refine x_gR (pc := 49) (k := 5) fcX10 dX10_hashPairs_49 q32 (by decide) rfl (fun v17 => ?_)
      refine x_gR (pc := 52) (k := 2) fcX3 dX10_hashPairs_52 q975 (by decide) rfl (fun v18 => ?_)
      refine x_iload (pc := 55) dX10_hashPairs_55 rfl ?_
      refine x_callVi (pc := 57) (As := [.int x5]) (rest := [.long v16]) (vx := fun a => a) (μf := fun _ => μ) fcX0 (mX0_lastPlace S μ cx cy v18 x5) (fun _ => rfl) rfl (fun _ h => ifok h) dX10_hashPairs_57 q1123 kX0_lastPlace rfl ⟨by decide, by decide⟩ rfl (Nat.le_of_ble_eq_true rfl) (fun v19 => ?_)
      refine x_i2l (pc := 60) dX10_hashPairs_60 ?_
      refine x_callSl (pc := 61) (As := [.long v16, .long v19.toInt64]) (rest := []) (vx := fun a => a) (μf := fun _ => μ) (mX10_mix S μ cx cy v16 v19.toInt64) (fun _ => rfl) rfl dX10_hashPairs_61 q1175 kX10_mix rfl ⟨by decide, by decide⟩ rfl (Nat.le_of_ble_eq_true rfl) (fun v20 => ?_)
      refine x_lstore_n (pc := 64) dX10_hashPairs_64 (i := 3) rfl (by decide) (l' := [some (.ref x0), d1, (kl (kl d2)), some (.long v20), none, some (.int x5)]) rfl ?_
      refine x_iinc (pc := 65) (v := x5 + (1 : Int32)) dX10_hashPairs_65 rfl (by rw [show Int32.ofInt (1) = (1 : Int32) from by decide]) (by decide) (l' := [some (.ref x0), d1, (kl (kl d2)), some (.long v20), none, some (.int (x5 + (1 : Int32)))]) rfl ?_
      refine x_goto (pc := 68) (tgt := 22) dX10_hashPairs_68 (by decide) ?_
      exact ih μ x0 v20 (x5 + (1 : Int32)) _ _
set_option maxHeartbeats 4000000 in
theorem xbX10_hashPairs {n0 c0 s0 cx cy : Nat} {S : mSh} {μ : mMm} (o : Nat) (p0 : Int64) : mX MX10_hashPairs n0 c0 s0 0 [some (.ref o), some (.long p0), none, none, none, none] [] (S, μ, cx, cy) (iMJ S cx cy) (bX10_hashPairs S μ o p0) := by
  unfold bX10_hashPairs
  refine x_lload_n (pc := 0) dX10_hashPairs_0 (i := 1) rfl rfl ?_
  refine x_lstore_n (pc := 1) dX10_hashPairs_1 (i := 3) rfl (by decide) (l' := [some (.ref o), some (.long p0), none, some (.long p0), none, none]) rfl ?_
  refine x_aload_n (pc := 2) dX10_hashPairs_2 (i := 0) rfl rfl ?_
  refine x_gR (pc := 3) (k := 5) fcX10 dX10_hashPairs_3 q32 (by decide) rfl (fun v1 => ?_)
  refine x_gR (pc := 6) (k := 2) fcX3 dX10_hashPairs_6 q975 (by decide) rfl (fun v2 => ?_)
  refine x_aload_n (pc := 9) dX10_hashPairs_9 (i := 0) rfl rfl ?_
  refine x_gR (pc := 10) (k := 0) fcX10 dX10_hashPairs_10 q16 (by decide) rfl (fun v3 => ?_)
  refine x_gR (pc := 13) (k := 0) fcX7 dX10_hashPairs_13 q30 (by decide) rfl (fun v4 => ?_)
  refine x_callVv (pc := 16) (As := [.ref v4]) (rest := []) (μf := fun a => a) fcX0 (mX0_read S μ cx cy v2 v4) (fun _ => rfl) rfl (fun _ h => ifok h) dX10_hashPairs_16 q976 kX0_read rfl ⟨by decide, by decide⟩ rfl (Nat.le_of_ble_eq_true rfl) (fun m5 => ?_)
  refine x_iconst (pc := 19) (v := 0) dX10_hashPairs_19 (by decide) ?_
  refine x_istore (pc := 20) dX10_hashPairs_20 (by decide) (l' := [some (.ref o), some (.long p0), none, some (.long p0), none, some (.int (0 : Int32))]) rfl ?_
  exact xX10_hashPairs_22 FU m5 o p0 (0 : Int32) _ _
theorem mX10_hashPairs (S : mSh) (μ : mMm) (cx cy : Nat) (o : Nat) (p0 : Int64) : mMet MX10_hashPairs [.ref o, .long p0] (S, μ, cx, cy) (iMJ S cx cy) (fX10_hashPairs S μ o p0) := mMet.of rfl (by decide) rfl (fun h => by cases h) (Nat.le_of_ble_eq_true rfl) (mX.ck (fun _ => xbX10_hashPairs o p0))
/-! SlideMills.hashStop(J)J -/
def bX10_hashStop (S : mSh) (μ : mMm) (o : Nat) (p0 : Int64) : Option (Int64) := (fX10_hasStopped S μ o).bind fun v1 => (fX10_mixTruth p0 v1).bind fun v2 => (gR S o 10 0).bind fun v3 => (gI S μ v3 7 4).bind fun v4 => if v4 = 0 then (some v2) else ((gR S o 10 0).bind fun v5 => (gI S μ v5 7 3).bind fun v6 => (fX10_mix v2 v6.toInt64).bind fun v7 => (gR S o 10 0).bind fun v8 => (gI S μ v8 7 4).bind fun v9 => (fX10_mix v7 v9.toInt64).bind fun v10 => some v10)
def fX10_hashStop (S : mSh) (μ : mMm) (o : Nat) (p0 : Int64) : Option (Int64) := if mok S o 10 = true then bX10_hashStop S μ o p0 else none
abbrev MX10_hashStop : mM := ((yX10_hashStop, cX10_hashStop, 5, (some .long)), (2, 45), (false, false), RX10, eT)
theorem kX10_hashStop : mCalV MX10_hashStop RX10 1 := ⟨q1208, q1209, q2, q1210, by decide +kernel⟩
set_option maxHeartbeats 4000000 in
theorem xbX10_hashStop {n0 c0 s0 cx cy : Nat} {S : mSh} {μ : mMm} (o : Nat) (p0 : Int64) : mX MX10_hashStop n0 c0 s0 0 [some (.ref o), some (.long p0), none, none, none] [] (S, μ, cx, cy) (iPJ S μ cx cy) (bX10_hashStop S μ o p0) := by
  unfold bX10_hashStop
  refine x_lload_n (pc := 0) dX10_hashStop_0 (i := 1) rfl rfl ?_
  refine x_aload_n (pc := 1) dX10_hashStop_1 (i := 0) rfl rfl ?_
  refine x_callVi (pc := 2) (As := []) (rest := [.long p0]) (vx := fun a => a) (μf := fun _ => μ) fcX10 (mX10_hasStopped S μ cx cy o) (fun _ => rfl) rfl (fun _ h => ifok h) dX10_hashStop_2 q1211 kX10_hasStopped rfl ⟨by decide, by decide⟩ rfl (Nat.le_of_ble_eq_true rfl) (fun v1 => ?_)
  refine x_callSl (pc := 5) (As := [.long p0, .int v1]) (rest := []) (vx := fun a => a) (μf := fun _ => μ) (mX10_mixTruth S μ cx cy p0 v1) (fun _ => rfl) rfl dX10_hashStop_5 q1188 kX10_mixTruth rfl ⟨by decide, by decide⟩ rfl (Nat.le_of_ble_eq_true rfl) (fun v2 => ?_)
  refine x_lstore_n (pc := 8) dX10_hashStop_8 (i := 3) rfl (by decide) (l' := [some (.ref o), some (.long p0), none, some (.long v2), none]) rfl ?_
  refine x_aload_n (pc := 9) dX10_hashStop_9 (i := 0) rfl rfl ?_
  refine x_gR (pc := 10) (k := 0) fcX10 dX10_hashStop_10 q16 (by decide) rfl (fun v3 => ?_)
  refine x_gI (pc := 13) (k := 4) fcX7 dX10_hashStop_13 q658 (by decide) rfl (fun v4 => ?_)
  refine x_if_ne (pc := 16) (tgt := 21) dX10_hashStop_16 (by decide) ?_ ?_
  · refine x_lload_n (pc := 19) dX10_hashStop_19 (i := 3) rfl rfl ?_
    exact x_lret rfl dX10_hashStop_20 rfl
  · refine x_lload_n (pc := 21) dX10_hashStop_21 (i := 3) rfl rfl ?_
    refine x_aload_n (pc := 22) dX10_hashStop_22 (i := 0) rfl rfl ?_
    refine x_gR (pc := 23) (k := 0) fcX10 dX10_hashStop_23 q16 (by decide) rfl (fun v5 => ?_)
    refine x_gI (pc := 26) (k := 3) fcX7 dX10_hashStop_26 q659 (by decide) rfl (fun v6 => ?_)
    refine x_i2l (pc := 29) dX10_hashStop_29 ?_
    refine x_callSl (pc := 30) (As := [.long v2, .long v6.toInt64]) (rest := []) (vx := fun a => a) (μf := fun _ => μ) (mX10_mix S μ cx cy v2 v6.toInt64) (fun _ => rfl) rfl dX10_hashStop_30 q1175 kX10_mix rfl ⟨by decide, by decide⟩ rfl (Nat.le_of_ble_eq_true rfl) (fun v7 => ?_)
    refine x_lstore_n (pc := 33) dX10_hashStop_33 (i := 3) rfl (by decide) (l' := [some (.ref o), some (.long p0), none, some (.long v7), none]) rfl ?_
    refine x_lload_n (pc := 34) dX10_hashStop_34 (i := 3) rfl rfl ?_
    refine x_aload_n (pc := 35) dX10_hashStop_35 (i := 0) rfl rfl ?_
    refine x_gR (pc := 36) (k := 0) fcX10 dX10_hashStop_36 q16 (by decide) rfl (fun v8 => ?_)
    refine x_gI (pc := 39) (k := 4) fcX7 dX10_hashStop_39 q658 (by decide) rfl (fun v9 => ?_)
    refine x_i2l (pc := 42) dX10_hashStop_42 ?_
    refine x_callSl (pc := 43) (As := [.long v7, .long v9.toInt64]) (rest := []) (vx := fun a => a) (μf := fun _ => μ) (mX10_mix S μ cx cy v7 v9.toInt64) (fun _ => rfl) rfl dX10_hashStop_43 q1175 kX10_mix rfl ⟨by decide, by decide⟩ rfl (Nat.le_of_ble_eq_true rfl) (fun v10 => ?_)
    exact x_lret rfl dX10_hashStop_46 rfl
theorem mX10_hashStop (S : mSh) (μ : mMm) (cx cy : Nat) (o : Nat) (p0 : Int64) : mMet MX10_hashStop [.ref o, .long p0] (S, μ, cx, cy) (iPJ S μ cx cy) (fX10_hashStop S μ o p0) := mMet.of rfl (by decide) rfl (fun h => by cases h) (Nat.le_of_ble_eq_true rfl) (mX.ck (fun _ => xbX10_hashStop o p0))
/-! SlideMills.bitsOf(D)J -/
def lX10_bitsOf_77 (x2 : UInt64) (x4 : Int64) : Option (Int64) := (if vfn (FP.dsub x2 FP.dconst1) = true then ((if vfn (FP.dmul (FP.dsub x2 FP.dconst1) (4841369599423283200 : UInt64)) = true then (some ((x4 <<< ((52 : Int32).toInt64 &&& 63)) + (FP.d2l (FP.dmul (FP.dsub x2 FP.dconst1) (4841369599423283200 : UInt64))))) else none)) else none)
def lX10_bitsOf_46 : Nat → UInt64 → Int64 → Int32 → Option (Int64)
  | 0, _, _, _ => none
  | n + 1, x2, x4, x6 => if (64 : Int32) ≤ x6 then (lX10_bitsOf_77 x2 x4) else (if 0 ≤ (Op.cmpValue (FP.dcmp x2 FP.dconst1) .g) then (lX10_bitsOf_77 x2 x4) else ((if vfn (FP.dmul x2 (4611686018427387904 : UInt64)) = true then (lX10_bitsOf_46 n (FP.dmul x2 (4611686018427387904 : UInt64)) (x4 - (1 : Int64)) (x6 + (1 : Int32))) else none)))
def lX10_bitsOf_43 (x2 : UInt64) (x4 : Int64) : Option (Int64) := lX10_bitsOf_46 FU x2 x4 (0 : Int32)
def lX10_bitsOf_10 : Nat → UInt64 → Int64 → Int32 → Option (Int64)
  | 0, _, _, _ => none
  | n + 1, x2, x4, x6 => if (64 : Int32) ≤ x6 then (lX10_bitsOf_43 x2 x4) else (if (Op.cmpValue (FP.dcmp x2 (4611686018427387904 : UInt64)) .l) < 0 then (lX10_bitsOf_43 x2 x4) else ((if vfn (FP.ddiv x2 (4611686018427387904 : UInt64)) = true then (lX10_bitsOf_10 n (FP.ddiv x2 (4611686018427387904 : UInt64)) (x4 + (1 : Int64)) (x6 + (1 : Int32))) else none)))
def fX10_bitsOf (p0 : UInt64) : Option (Int64) := lX10_bitsOf_10 FU p0 (1023 : Int64) (0 : Int32)
abbrev MX10_bitsOf : mM := ((yX10_bitsOf, cX10_bitsOf, 8, (some .long)), (0, 0), (false, false), RX10, eT)
theorem kX10_bitsOf : mCalS MX10_bitsOf 1 := ⟨q1214, q2, q1215, by decide +kernel⟩
set_option maxHeartbeats 4000000 in
theorem xX10_bitsOf_77 {n0 c0 s0 cx cy : Nat} {S : mSh} {μ : mMm} (x2 : UInt64) (x4 : Int64) (d0 : Option Value) (d1 : Option Value) (d6 : Option Value) (d7 : Option Value) : mX MX10_bitsOf n0 c0 s0 77 [d0, d1, some (.double x2), none, some (.long x4), none, d6, d7] [] (S, μ, cx, cy) (iPJ S μ cx cy) (lX10_bitsOf_77 x2 x4) := by
  unfold lX10_bitsOf_77
  refine x_dload_n (pc := 77) dX10_bitsOf_77 (i := 2) rfl rfl ?_
  refine x_dconst1 (pc := 78) dX10_bitsOf_78 ?_
  refine x_dsub (pc := 79) dX10_bitsOf_79 ?_
  refine x_ldc2d (pc := 80) (v := 4841369599423283200) dX10_bitsOf_80 q1218 ?_
  refine x_dmul (pc := 83) dX10_bitsOf_83 ?_
  refine x_d2l (pc := 84) dX10_bitsOf_84 ?_
  refine x_lstore (pc := 85) dX10_bitsOf_85 (by decide) (l' := [d0, d1, some (.double x2), none, some (.long x4), none, some (.long (FP.d2l (FP.dmul (FP.dsub x2 FP.dconst1) (4841369599423283200 : UInt64)))), none]) rfl ?_
  refine x_lload (pc := 87) dX10_bitsOf_87 rfl ?_
  refine x_bipush (pc := 89) (v := 52) dX10_bitsOf_89 (by decide) ?_
  refine x_lshl (pc := 91) dX10_bitsOf_91 ?_
  refine x_lload (pc := 92) dX10_bitsOf_92 rfl ?_
  refine x_ladd (pc := 94) dX10_bitsOf_94 ?_
  exact x_lret rfl dX10_bitsOf_95 rfl
set_option maxHeartbeats 4000000 in
theorem xX10_bitsOf_46 {n0 c0 s0 cx cy : Nat} {S : mSh} {μ : mMm} : ∀ (n : Nat) (x2 : UInt64) (x4 : Int64) (x6 : Int32) (d0 : Option Value) (d1 : Option Value) (d7 : Option Value), mX MX10_bitsOf n0 c0 s0 46 [d0, d1, some (.double x2), none, some (.long x4), none, some (.int x6), d7] [] (S, μ, cx, cy) (iPJ S μ cx cy) (lX10_bitsOf_46 n x2 x4 x6) := by
  intro n
  induction n with
  | zero => intros; exact x_none
  | succ n ih =>
    intro x2 x4 x6 d0 d1 d7
    unfold lX10_bitsOf_46
    refine x_iload (pc := 46) dX10_bitsOf_46 rfl ?_
    refine x_bipush (pc := 48) (v := 64) dX10_bitsOf_48 (by decide) ?_
    refine x_icmp_ge (pc := 50) (tgt := 77) dX10_bitsOf_50 (by decide) ?_ ?_
    · exact xX10_bitsOf_77 x2 x4 _ _ _ _
    · refine x_dload_n (pc := 53) dX10_bitsOf_53 (i := 2) rfl rfl ?_
      refine x_dconst1 (pc := 54) dX10_bitsOf_54 ?_
      refine x_dcmp (pc := 55) dX10_bitsOf_55 ?_
      refine x_if_ge (pc := 56) (tgt := 77) dX10_bitsOf_56 (by decide) ?_ ?_
      · exact xX10_bitsOf_77 x2 x4 _ _ _ _
      · refine x_dload_n (pc := 59) dX10_bitsOf_59 (i := 2) rfl rfl ?_
        refine x_ldc2d (pc := 60) (v := 4611686018427387904) dX10_bitsOf_60 q1217 ?_
        refine x_dmul (pc := 63) dX10_bitsOf_63 ?_
        refine x_dstore_n (pc := 64) dX10_bitsOf_64 (i := 2) rfl (by decide) (l' := [d0, (kl d1), some (.double (FP.dmul x2 (4611686018427387904 : UInt64))), none, some (.long x4), none, some (.int x6), d7]) rfl ?_
        refine x_lload (pc := 65) dX10_bitsOf_65 rfl ?_
        refine x_lconst (pc := 67) (v := 1) dX10_bitsOf_67 (by decide) ?_
        refine x_lsub (pc := 68) dX10_bitsOf_68 ?_
        refine x_lstore (pc := 69) dX10_bitsOf_69 (by decide) (l' := [d0, (kl d1), some (.double (FP.dmul x2 (4611686018427387904 : UInt64))), none, some (.long (x4 - (1 : Int64))), none, some (.int x6), d7]) rfl ?_
        refine x_iinc (pc := 71) (v := x6 + (1 : Int32)) dX10_bitsOf_71 rfl (by rw [show Int32.ofInt (1) = (1 : Int32) from by decide]) (by decide) (l' := [d0, (kl d1), some (.double (FP.dmul x2 (4611686018427387904 : UInt64))), none, some (.long (x4 - (1 : Int64))), none, some (.int (x6 + (1 : Int32))), d7]) rfl ?_
        refine x_goto (pc := 74) (tgt := 46) dX10_bitsOf_74 (by decide) ?_
        exact ih (FP.dmul x2 (4611686018427387904 : UInt64)) (x4 - (1 : Int64)) (x6 + (1 : Int32)) _ _ _
set_option maxHeartbeats 4000000 in
theorem xX10_bitsOf_43 {n0 c0 s0 cx cy : Nat} {S : mSh} {μ : mMm} (x2 : UInt64) (x4 : Int64) (d0 : Option Value) (d1 : Option Value) (d6 : Option Value) (d7 : Option Value) : mX MX10_bitsOf n0 c0 s0 43 [d0, d1, some (.double x2), none, some (.long x4), none, d6, d7] [] (S, μ, cx, cy) (iPJ S μ cx cy) (lX10_bitsOf_43 x2 x4) := by
  unfold lX10_bitsOf_43
  refine x_iconst (pc := 43) (v := 0) dX10_bitsOf_43 (by decide) ?_
  refine x_istore (pc := 44) dX10_bitsOf_44 (by decide) (l' := [d0, d1, some (.double x2), none, some (.long x4), none, some (.int (0 : Int32)), d7]) rfl ?_
  exact xX10_bitsOf_46 FU x2 x4 (0 : Int32) _ _ _
set_option maxHeartbeats 4000000 in
theorem xX10_bitsOf_10 {n0 c0 s0 cx cy : Nat} {S : mSh} {μ : mMm} : ∀ (n : Nat) (x2 : UInt64) (x4 : Int64) (x6 : Int32) (d0 : Option Value) (d1 : Option Value) (d7 : Option Value), mX MX10_bitsOf n0 c0 s0 10 [d0, d1, some (.double x2), none, some (.long x4), none, some (.int x6), d7] [] (S, μ, cx, cy) (iPJ S μ cx cy) (lX10_bitsOf_10 n x2 x4 x6) := by
  intro n
  induction n with
  | zero => intros; exact x_none
  | succ n ih =>
    intro x2 x4 x6 d0 d1 d7
    unfold lX10_bitsOf_10
    refine x_iload (pc := 10) dX10_bitsOf_10 rfl ?_
    refine x_bipush (pc := 12) (v := 64) dX10_bitsOf_12 (by decide) ?_
    refine x_icmp_ge (pc := 14) (tgt := 43) dX10_bitsOf_14 (by decide) ?_ ?_
    · exact xX10_bitsOf_43 x2 x4 _ _ _ _
    · refine x_dload_n (pc := 17) dX10_bitsOf_17 (i := 2) rfl rfl ?_
      refine x_ldc2d (pc := 18) (v := 4611686018427387904) dX10_bitsOf_18 q1217 ?_
      refine x_dcmp (pc := 21) dX10_bitsOf_21 ?_
      refine x_if_lt (pc := 22) (tgt := 43) dX10_bitsOf_22 (by decide) ?_ ?_
      · exact xX10_bitsOf_43 x2 x4 _ _ _ _
      · refine x_dload_n (pc := 25) dX10_bitsOf_25 (i := 2) rfl rfl ?_
        refine x_ldc2d (pc := 26) (v := 4611686018427387904) dX10_bitsOf_26 q1217 ?_
        refine x_ddiv (pc := 29) dX10_bitsOf_29 ?_
        refine x_dstore_n (pc := 30) dX10_bitsOf_30 (i := 2) rfl (by decide) (l' := [d0, (kl d1), some (.double (FP.ddiv x2 (4611686018427387904 : UInt64))), none, some (.long x4), none, some (.int x6), d7]) rfl ?_
        refine x_lload (pc := 31) dX10_bitsOf_31 rfl ?_
        refine x_lconst (pc := 33) (v := 1) dX10_bitsOf_33 (by decide) ?_
        refine x_ladd (pc := 34) dX10_bitsOf_34 ?_
        refine x_lstore (pc := 35) dX10_bitsOf_35 (by decide) (l' := [d0, (kl d1), some (.double (FP.ddiv x2 (4611686018427387904 : UInt64))), none, some (.long (x4 + (1 : Int64))), none, some (.int x6), d7]) rfl ?_
        refine x_iinc (pc := 37) (v := x6 + (1 : Int32)) dX10_bitsOf_37 rfl (by rw [show Int32.ofInt (1) = (1 : Int32) from by decide]) (by decide) (l' := [d0, (kl d1), some (.double (FP.ddiv x2 (4611686018427387904 : UInt64))), none, some (.long (x4 + (1 : Int64))), none, some (.int (x6 + (1 : Int32))), d7]) rfl ?_
        refine x_goto (pc := 40) (tgt := 10) dX10_bitsOf_40 (by decide) ?_
        exact ih (FP.ddiv x2 (4611686018427387904 : UInt64)) (x4 + (1 : Int64)) (x6 + (1 : Int32)) _ _ _
set_option maxHeartbeats 4000000 in
theorem xbX10_bitsOf {n0 c0 s0 cx cy : Nat} {S : mSh} {μ : mMm} (p0 : UInt64) : mX MX10_bitsOf n0 c0 s0 0 [some (.double p0), none, none, none, none, none, none, none] [] (S, μ, cx, cy) (iPJ S μ cx cy) (fX10_bitsOf p0) := by
  unfold fX10_bitsOf
  refine x_dload_n (pc := 0) dX10_bitsOf_0 (i := 0) rfl rfl ?_
  refine x_dstore_n (pc := 1) dX10_bitsOf_1 (i := 2) rfl (by decide) (l' := [some (.double p0), none, some (.double p0), none, none, none, none, none]) rfl ?_
  refine x_ldc2 (pc := 2) (v := 1023) dX10_bitsOf_2 q1216 ?_
  refine x_lstore (pc := 5) dX10_bitsOf_5 (by decide) (l' := [some (.double p0), none, some (.double p0), none, some (.long (1023 : Int64)), none, none, none]) rfl ?_
  refine x_iconst (pc := 7) (v := 0) dX10_bitsOf_7 (by decide) ?_
  refine x_istore (pc := 8) dX10_bitsOf_8 (by decide) (l' := [some (.double p0), none, some (.double p0), none, some (.long (1023 : Int64)), none, some (.int (0 : Int32)), none]) rfl ?_
  exact xX10_bitsOf_10 FU p0 (1023 : Int64) (0 : Int32) _ _ _
theorem mX10_bitsOf (S : mSh) (μ : mMm) (cx cy : Nat) (p0 : UInt64) : mMet MX10_bitsOf [.double p0] (S, μ, cx, cy) (iPJ S μ cx cy) (fX10_bitsOf p0) := mMet.of rfl (by decide) rfl (fun h => by cases h) (Nat.le_of_ble_eq_true rfl) (xbX10_bitsOf p0)
/-! SlideMills.hashBuffer(J)J -/
def lX10_hashBuffer_16 (S : mSh) (μ : mMm) : Nat → Nat → Int64 → Int32 → Option (Int64)
  | 0, _, _, _ => none
  | n + 1, x0, x3, x5 => (gR S x0 10 4).bind fun v4 => (gI S μ v4 9 1).bind fun v5 => if v5 ≤ x5 then (some x3) else ((gR S x0 10 4).bind fun v6 => (fX9_codeAt S μ v6 x5).bind fun v7 => (fX10_mix x3 v7.toInt64).bind fun v8 => lX10_hashBuffer_16 S μ n x0 v8 (x5 + (1 : Int32)))
def bX10_hashBuffer (S : mSh) (μ : mMm) (o : Nat) (p0 : Int64) : Option (Int64) := (gR S o 10 4).bind fun v1 => (gI S μ v1 9 1).bind fun v2 => (fX10_mix p0 v2.toInt64).bind fun v3 => lX10_hashBuffer_16 S μ FU o v3 (0 : Int32)
def fX10_hashBuffer (S : mSh) (μ : mMm) (o : Nat) (p0 : Int64) : Option (Int64) := if mok S o 10 = true then bX10_hashBuffer S μ o p0 else none
abbrev MX10_hashBuffer : mM := ((yX10_hashBuffer, cX10_hashBuffer, 6, (some .long)), (1, 23), (false, false), RX10, eT)
theorem kX10_hashBuffer : mCalV MX10_hashBuffer RX10 1 := ⟨q1220, q1221, q2, q1222, by decide +kernel⟩
set_option maxHeartbeats 4000000 in
theorem xX10_hashBuffer_16 {n0 c0 s0 cx cy : Nat} {S : mSh} {μ : mMm} : ∀ (n : Nat) (x0 : Nat) (x3 : Int64) (x5 : Int32) (d1 : Option Value) (d2 : Option Value), mX MX10_hashBuffer n0 c0 s0 16 [some (.ref x0), d1, d2, some (.long x3), none, some (.int x5)] [] (S, μ, cx, cy) (iPJ S μ cx cy) (lX10_hashBuffer_16 S μ n x0 x3 x5) := by
  intro n
  induction n with
  | zero => intros; exact x_none
  | succ n ih =>
    intro x0 x3 x5 d1 d2
    unfold lX10_hashBuffer_16
    refine x_iload (pc := 16) dX10_hashBuffer_16 rfl ?_
    refine x_aload_n (pc := 18) dX10_hashBuffer_18 (i := 0) rfl rfl ?_
    refine x_gR (pc := 19) (k := 4) fcX10 dX10_hashBuffer_19 q26 (by decide) rfl (fun v4 => ?_)
    refine x_gI (pc := 22) (k := 1) fcX9 dX10_hashBuffer_22 q566 (by decide) rfl (fun v5 => ?_)
    refine x_icmp_ge (pc := 25) (tgt := 49) dX10_hashBuffer_25 (by decide) ?_ ?_
    · refine x_lload_n (pc := 49) dX10_hashBuffer_49 (i := 3) rfl rfl ?_
      exact x_lret rfl dX10_hashBuffer_50 rfl
    · refine x_lload_n (pc := 28) dX10_hashBuffer_28 (i := 3) rfl rfl ?_
      refine x_aload_n (pc := 29) dX10_hashBuffer_29 (i := 0) rfl rfl ?_
      refine x_gR (pc := 30) (k := 4) fcX10 dX10_hashBuffer_30 q26 (by decide) rfl (fun v6 => ?_)
      refine x_iload (pc := 33) dX10_hashBuffer_33 rfl ?_
      refine x_callVi (pc := 35) (As := [.int x5]) (rest := [.long x3]) (vx := fun a => a) (μf := fun _ => μ) fcX9 (mX9_codeAt S μ cx cy v6 x5) (fun _ => rfl) rfl (fun _ h => ifok h) dX10_hashBuffer_35 q668 kX9_codeAt rfl ⟨by decide, by decide⟩ rfl (Nat.le_of_ble_eq_true rfl) (fun v7 => ?_)
      refine x_i2l (pc := 38) dX10_hashBuffer_38 ?_
      refine x_callSl (pc := 39) (As := [.long x3, .long v7.toInt64]) (rest := []) (vx := fun a => a) (μf := fun _ => μ) (mX10_mix S μ cx cy x3 v7.toInt64) (fun _ => rfl) rfl dX10_hashBuffer_39 q1175 kX10_mix rfl ⟨by decide, by decide⟩ rfl (Nat.le_of_ble_eq_true rfl) (fun v8 => ?_)
      refine x_lstore_n (pc := 42) dX10_hashBuffer_42 (i := 3) rfl (by decide) (l' := [some (.ref x0), d1, (kl d2), some (.long v8), none, some (.int x5)]) rfl ?_
      refine x_iinc (pc := 43) (v := x5 + (1 : Int32)) dX10_hashBuffer_43 rfl (by rw [show Int32.ofInt (1) = (1 : Int32) from by decide]) (by decide) (l' := [some (.ref x0), d1, (kl d2), some (.long v8), none, some (.int (x5 + (1 : Int32)))]) rfl ?_
      refine x_goto (pc := 46) (tgt := 16) dX10_hashBuffer_46 (by decide) ?_
      exact ih x0 v8 (x5 + (1 : Int32)) _ _
set_option maxHeartbeats 4000000 in
theorem xbX10_hashBuffer {n0 c0 s0 cx cy : Nat} {S : mSh} {μ : mMm} (o : Nat) (p0 : Int64) : mX MX10_hashBuffer n0 c0 s0 0 [some (.ref o), some (.long p0), none, none, none, none] [] (S, μ, cx, cy) (iPJ S μ cx cy) (bX10_hashBuffer S μ o p0) := by
  unfold bX10_hashBuffer
  refine x_lload_n (pc := 0) dX10_hashBuffer_0 (i := 1) rfl rfl ?_
  refine x_aload_n (pc := 1) dX10_hashBuffer_1 (i := 0) rfl rfl ?_
  refine x_gR (pc := 2) (k := 4) fcX10 dX10_hashBuffer_2 q26 (by decide) rfl (fun v1 => ?_)
  refine x_gI (pc := 5) (k := 1) fcX9 dX10_hashBuffer_5 q566 (by decide) rfl (fun v2 => ?_)
  refine x_i2l (pc := 8) dX10_hashBuffer_8 ?_
  refine x_callSl (pc := 9) (As := [.long p0, .long v2.toInt64]) (rest := []) (vx := fun a => a) (μf := fun _ => μ) (mX10_mix S μ cx cy p0 v2.toInt64) (fun _ => rfl) rfl dX10_hashBuffer_9 q1175 kX10_mix rfl ⟨by decide, by decide⟩ rfl (Nat.le_of_ble_eq_true rfl) (fun v3 => ?_)
  refine x_lstore_n (pc := 12) dX10_hashBuffer_12 (i := 3) rfl (by decide) (l' := [some (.ref o), some (.long p0), none, some (.long v3), none, none]) rfl ?_
  refine x_iconst (pc := 13) (v := 0) dX10_hashBuffer_13 (by decide) ?_
  refine x_istore (pc := 14) dX10_hashBuffer_14 (by decide) (l' := [some (.ref o), some (.long p0), none, some (.long v3), none, some (.int (0 : Int32))]) rfl ?_
  exact xX10_hashBuffer_16 FU o v3 (0 : Int32) _ _
theorem mX10_hashBuffer (S : mSh) (μ : mMm) (cx cy : Nat) (o : Nat) (p0 : Int64) : mMet MX10_hashBuffer [.ref o, .long p0] (S, μ, cx, cy) (iPJ S μ cx cy) (fX10_hashBuffer S μ o p0) := mMet.of rfl (by decide) rfl (fun h => by cases h) (Nat.le_of_ble_eq_true rfl) (mX.ck (fun _ => xbX10_hashBuffer o p0))
/-! SlideMills.digest()J -/
def bX10_digest (S : mSh) (μ : mMm) (o : Nat) : Option (Int64 × mMm) := (fX10_hashText S μ o (4483 : Int64)).bind fun v1 => (gR S o 10 0).bind fun v2 => (gR S v2 7 2).bind fun v3 => (gI S μ v3 6 0).bind fun v4 => (fX10_mix v1 v4.toInt64).bind fun v5 => (gR S o 10 0).bind fun v6 => (gR S v6 7 2).bind fun v7 => (gI S μ v7 6 1).bind fun v8 => (fX10_mix v5 v8.toInt64).bind fun v9 => (gR S o 10 0).bind fun v10 => (gR S v10 7 2).bind fun v11 => (gI S μ v11 6 2).bind fun v12 => (fX10_mix v9 v12.toInt64).bind fun v13 => (fX10_hashSack S μ o v13).bind fun r14 => (fX10_hashCosts S r14.2 o r14.1).bind fun r15 => (gR S o 10 3).bind fun v16 => (gI S r15.2 v16 1 2).bind fun v17 => (fX10_mix r15.1 v17.toInt64).bind fun v18 => (fX10_hashTokens S r15.2 o v18).bind fun v19 => (fX10_hashRepeats S r15.2 o v19).bind fun r20 => (fX10_hashPairs S r20.2 o r20.1).bind fun r21 => (fX10_hashStop S r21.2 o r21.1).bind fun v22 => (fX10_packedShare S r21.2 o).bind fun v23 => (fX10_bitsOf v23).bind fun v24 => (fX10_mix v22 v24).bind fun v25 => (fX10_hashBuffer S r21.2 o v25).bind fun v26 => some (v26, r21.2)
def fX10_digest (S : mSh) (μ : mMm) (o : Nat) : Option (Int64 × mMm) := if mok S o 10 = true then bX10_digest S μ o else none
abbrev MX10_digest : mM := ((yX10_digest, cX10_digest, 3, (some .long)), (7, 166), (false, false), RX10, eT)
theorem kX10_digest : mCalV MX10_digest RX10 0 := ⟨q1167, q1168, q2, q1169, by decide +kernel⟩
set_option maxHeartbeats 4000000 in
theorem xbX10_digest {n0 c0 s0 cx cy : Nat} {S : mSh} {μ : mMm} (o : Nat) : mX MX10_digest n0 c0 s0 0 [some (.ref o), none, none] [] (S, μ, cx, cy) (iMJ S cx cy) (bX10_digest S μ o) := by
  unfold bX10_digest
  refine x_ldc2 (pc := 0) (v := 4483) dX10_digest_0 q1170 ?_
  refine x_lstore_n (pc := 3) dX10_digest_3 (i := 1) rfl (by decide) (l' := [some (.ref o), some (.long (4483 : Int64)), none]) rfl ?_
  refine x_aload_n (pc := 4) dX10_digest_4 (i := 0) rfl rfl ?_
  refine x_lload_n (pc := 5) dX10_digest_5 (i := 1) rfl rfl ?_
  refine x_callVl (pc := 6) (As := [.long (4483 : Int64)]) (rest := []) (vx := fun a => a) (μf := fun _ => μ) fcX10 (mX10_hashText S μ cx cy o (4483 : Int64)) (fun _ => rfl) rfl (fun _ h => ifok h) dX10_digest_6 q1171 kX10_hashText rfl ⟨by decide, by decide⟩ rfl (Nat.le_of_ble_eq_true rfl) (fun v1 => ?_)
  refine x_lstore_n (pc := 9) dX10_digest_9 (i := 1) rfl (by decide) (l' := [some (.ref o), some (.long v1), none]) rfl ?_
  refine x_lload_n (pc := 10) dX10_digest_10 (i := 1) rfl rfl ?_
  refine x_aload_n (pc := 11) dX10_digest_11 (i := 0) rfl rfl ?_
  refine x_gR (pc := 12) (k := 0) fcX10 dX10_digest_12 q16 (by decide) rfl (fun v2 => ?_)
  refine x_gR (pc := 15) (k := 2) fcX7 dX10_digest_15 q31 (by decide) rfl (fun v3 => ?_)
  refine x_gI (pc := 18) (k := 0) fcX6 dX10_digest_18 q277 (by decide) rfl (fun v4 => ?_)
  refine x_i2l (pc := 21) dX10_digest_21 ?_
  refine x_callSl (pc := 22) (As := [.long v1, .long v4.toInt64]) (rest := []) (vx := fun a => a) (μf := fun _ => μ) (mX10_mix S μ cx cy v1 v4.toInt64) (fun _ => rfl) rfl dX10_digest_22 q1175 kX10_mix rfl ⟨by decide, by decide⟩ rfl (Nat.le_of_ble_eq_true rfl) (fun v5 => ?_)
  refine x_lstore_n (pc := 25) dX10_digest_25 (i := 1) rfl (by decide) (l' := [some (.ref o), some (.long v5), none]) rfl ?_
  refine x_lload_n (pc := 26) dX10_digest_26 (i := 1) rfl rfl ?_
  refine x_aload_n (pc := 27) dX10_digest_27 (i := 0) rfl rfl ?_
  refine x_gR (pc := 28) (k := 0) fcX10 dX10_digest_28 q16 (by decide) rfl (fun v6 => ?_)
  refine x_gR (pc := 31) (k := 2) fcX7 dX10_digest_31 q31 (by decide) rfl (fun v7 => ?_)
  refine x_gI (pc := 34) (k := 1) fcX6 dX10_digest_34 q296 (by decide) rfl (fun v8 => ?_)
  refine x_i2l (pc := 37) dX10_digest_37 ?_
  refine x_callSl (pc := 38) (As := [.long v5, .long v8.toInt64]) (rest := []) (vx := fun a => a) (μf := fun _ => μ) (mX10_mix S μ cx cy v5 v8.toInt64) (fun _ => rfl) rfl dX10_digest_38 q1175 kX10_mix rfl ⟨by decide, by decide⟩ rfl (Nat.le_of_ble_eq_true rfl) (fun v9 => ?_)
  refine x_lstore_n (pc := 41) dX10_digest_41 (i := 1) rfl (by decide) (l' := [some (.ref o), some (.long v9), none]) rfl ?_
  refine x_lload_n (pc := 42) dX10_digest_42 (i := 1) rfl rfl ?_
  refine x_aload_n (pc := 43) dX10_digest_43 (i := 0) rfl rfl ?_
  refine x_gR (pc := 44) (k := 0) fcX10 dX10_digest_44 q16 (by decide) rfl (fun v10 => ?_)
  refine x_gR (pc := 47) (k := 2) fcX7 dX10_digest_47 q31 (by decide) rfl (fun v11 => ?_)
  refine x_gI (pc := 50) (k := 2) fcX6 dX10_digest_50 q308 (by decide) rfl (fun v12 => ?_)
  refine x_i2l (pc := 53) dX10_digest_53 ?_
  refine x_callSl (pc := 54) (As := [.long v9, .long v12.toInt64]) (rest := []) (vx := fun a => a) (μf := fun _ => μ) (mX10_mix S μ cx cy v9 v12.toInt64) (fun _ => rfl) rfl dX10_digest_54 q1175 kX10_mix rfl ⟨by decide, by decide⟩ rfl (Nat.le_of_ble_eq_true rfl) (fun v13 => ?_)
  refine x_lstore_n (pc := 57) dX10_digest_57 (i := 1) rfl (by decide) (l' := [some (.ref o), some (.long v13), none]) rfl ?_
  refine x_aload_n (pc := 58) dX10_digest_58 (i := 0) rfl rfl ?_
  refine x_lload_n (pc := 59) dX10_digest_59 (i := 1) rfl rfl ?_
  refine x_callVl (pc := 60) (As := [.long v13]) (rest := []) (vx := fun a => a.1) (μf := fun a => a.2) fcX10 (mX10_hashSack S μ cx cy o v13) (fun _ => rfl) rfl (fun _ h => ifok h) dX10_digest_60 q1179 kX10_hashSack rfl ⟨by decide, by decide⟩ rfl (Nat.le_of_ble_eq_true rfl) (fun r14 => ?_)
  refine x_lstore_n (pc := 63) dX10_digest_63 (i := 1) rfl (by decide) (l' := [some (.ref o), some (.long r14.1), none]) rfl ?_
  refine x_aload_n (pc := 64) dX10_digest_64 (i := 0) rfl rfl ?_
  refine x_lload_n (pc := 65) dX10_digest_65 (i := 1) rfl rfl ?_
  refine x_callVl (pc := 66) (As := [.long r14.1]) (rest := []) (vx := fun a => a.1) (μf := fun a => a.2) fcX10 (mX10_hashCosts S r14.2 cx cy o r14.1) (fun _ => rfl) rfl (fun _ h => ifok h) dX10_digest_66 q1191 kX10_hashCosts rfl ⟨by decide, by decide⟩ rfl (Nat.le_of_ble_eq_true rfl) (fun r15 => ?_)
  refine x_lstore_n (pc := 69) dX10_digest_69 (i := 1) rfl (by decide) (l' := [some (.ref o), some (.long r15.1), none]) rfl ?_
  refine x_lload_n (pc := 70) dX10_digest_70 (i := 1) rfl rfl ?_
  refine x_aload_n (pc := 71) dX10_digest_71 (i := 0) rfl rfl ?_
  refine x_gR (pc := 72) (k := 3) fcX10 dX10_digest_72 q22 (by decide) rfl (fun v16 => ?_)
  refine x_gI (pc := 75) (k := 2) fcX1 dX10_digest_75 q743 (by decide) rfl (fun v17 => ?_)
  refine x_i2l (pc := 78) dX10_digest_78 ?_
  refine x_callSl (pc := 79) (As := [.long r15.1, .long v17.toInt64]) (rest := []) (vx := fun a => a) (μf := fun _ => r15.2) (mX10_mix S r15.2 cx cy r15.1 v17.toInt64) (fun _ => rfl) rfl dX10_digest_79 q1175 kX10_mix rfl ⟨by decide, by decide⟩ rfl (Nat.le_of_ble_eq_true rfl) (fun v18 => ?_)
  refine x_lstore_n (pc := 82) dX10_digest_82 (i := 1) rfl (by decide) (l' := [some (.ref o), some (.long v18), none]) rfl ?_
  refine x_aload_n (pc := 83) dX10_digest_83 (i := 0) rfl rfl ?_
  refine x_lload_n (pc := 84) dX10_digest_84 (i := 1) rfl rfl ?_
  refine x_callVl (pc := 85) (As := [.long v18]) (rest := []) (vx := fun a => a) (μf := fun _ => r15.2) fcX10 (mX10_hashTokens S r15.2 cx cy o v18) (fun _ => rfl) rfl (fun _ h => ifok h) dX10_digest_85 q1195 kX10_hashTokens rfl ⟨by decide, by decide⟩ rfl (Nat.le_of_ble_eq_true rfl) (fun v19 => ?_)
  refine x_lstore_n (pc := 88) dX10_digest_88 (i := 1) rfl (by decide) (l' := [some (.ref o), some (.long v19), none]) rfl ?_
  refine x_aload_n (pc := 89) dX10_digest_89 (i := 0) rfl rfl ?_
  refine x_lload_n (pc := 90) dX10_digest_90 (i := 1) rfl rfl ?_
  refine x_callVl (pc := 91) (As := [.long v19]) (rest := []) (vx := fun a => a.1) (μf := fun a => a.2) fcX10 (mX10_hashRepeats S r15.2 cx cy o v19) (fun _ => rfl) rfl (fun _ h => ifok h) dX10_digest_91 q1199 kX10_hashRepeats rfl ⟨by decide, by decide⟩ rfl (Nat.le_of_ble_eq_true rfl) (fun r20 => ?_)
  refine x_lstore_n (pc := 94) dX10_digest_94 (i := 1) rfl (by decide) (l' := [some (.ref o), some (.long r20.1), none]) rfl ?_
  refine x_aload_n (pc := 95) dX10_digest_95 (i := 0) rfl rfl ?_
  refine x_lload_n (pc := 96) dX10_digest_96 (i := 1) rfl rfl ?_
  refine x_callVl (pc := 97) (As := [.long r20.1]) (rest := []) (vx := fun a => a.1) (μf := fun a => a.2) fcX10 (mX10_hashPairs S r20.2 cx cy o r20.1) (fun _ => rfl) rfl (fun _ h => ifok h) dX10_digest_97 q1203 kX10_hashPairs rfl ⟨by decide, by decide⟩ rfl (Nat.le_of_ble_eq_true rfl) (fun r21 => ?_)
  refine x_lstore_n (pc := 100) dX10_digest_100 (i := 1) rfl (by decide) (l' := [some (.ref o), some (.long r21.1), none]) rfl ?_
  refine x_aload_n (pc := 101) dX10_digest_101 (i := 0) rfl rfl ?_
  refine x_lload_n (pc := 102) dX10_digest_102 (i := 1) rfl rfl ?_
  refine x_callVl (pc := 103) (As := [.long r21.1]) (rest := []) (vx := fun a => a) (μf := fun _ => r21.2) fcX10 (mX10_hashStop S r21.2 cx cy o r21.1) (fun _ => rfl) rfl (fun _ h => ifok h) dX10_digest_103 q1207 kX10_hashStop rfl ⟨by decide, by decide⟩ rfl (Nat.le_of_ble_eq_true rfl) (fun v22 => ?_)
  refine x_lstore_n (pc := 106) dX10_digest_106 (i := 1) rfl (by decide) (l' := [some (.ref o), some (.long v22), none]) rfl ?_
  refine x_lload_n (pc := 107) dX10_digest_107 (i := 1) rfl rfl ?_
  refine x_aload_n (pc := 108) dX10_digest_108 (i := 0) rfl rfl ?_
  refine x_callVd (pc := 109) (As := []) (rest := [.long v22]) (vx := fun a => a) (μf := fun _ => r21.2) fcX10 (mX10_packedShare S r21.2 cx cy o) (fun _ => rfl) rfl (fun _ h => ifok h) dX10_digest_109 q1212 kX10_packedShare rfl ⟨by decide, by decide⟩ rfl (Nat.le_of_ble_eq_true rfl) (fun v23 => ?_)
  refine x_callSl (pc := 112) (As := [.double v23]) (rest := [.long v22]) (vx := fun a => a) (μf := fun _ => r21.2) (mX10_bitsOf S r21.2 cx cy v23) (fun _ => rfl) rfl dX10_digest_112 q1213 kX10_bitsOf rfl ⟨by decide, by decide⟩ rfl (Nat.le_of_ble_eq_true rfl) (fun v24 => ?_)
  refine x_callSl (pc := 115) (As := [.long v22, .long v24]) (rest := []) (vx := fun a => a) (μf := fun _ => r21.2) (mX10_mix S r21.2 cx cy v22 v24) (fun _ => rfl) rfl dX10_digest_115 q1175 kX10_mix rfl ⟨by decide, by decide⟩ rfl (Nat.le_of_ble_eq_true rfl) (fun v25 => ?_)
  refine x_lstore_n (pc := 118) dX10_digest_118 (i := 1) rfl (by decide) (l' := [some (.ref o), some (.long v25), none]) rfl ?_
  refine x_aload_n (pc := 119) dX10_digest_119 (i := 0) rfl rfl ?_
  refine x_lload_n (pc := 120) dX10_digest_120 (i := 1) rfl rfl ?_
  refine x_callVl (pc := 121) (As := [.long v25]) (rest := []) (vx := fun a => a) (μf := fun _ => r21.2) fcX10 (mX10_hashBuffer S r21.2 cx cy o v25) (fun _ => rfl) rfl (fun _ h => ifok h) dX10_digest_121 q1219 kX10_hashBuffer rfl ⟨by decide, by decide⟩ rfl (Nat.le_of_ble_eq_true rfl) (fun v26 => ?_)
  exact x_lret rfl dX10_digest_124 rfl
theorem mX10_digest (S : mSh) (μ : mMm) (cx cy : Nat) (o : Nat) : mMet MX10_digest [.ref o] (S, μ, cx, cy) (iMJ S cx cy) (fX10_digest S μ o) := mMet.of rfl (by decide) rfl (fun h => by cases h) (Nat.le_of_ble_eq_true rfl) (mX.ck (fun _ => xbX10_digest o))
