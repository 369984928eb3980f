/-! printed by gen.py: each method as a function of numbers, and that the machine does what it says -/
/-! SlideMills.isLetter(I)Z -/
def fX10_isLetter (p0 : Int32) : Option (Int32) := if p0 < 0 then (some (0 : Int32)) else (if (4 : Int32) ≤ p0 then (some (0 : Int32)) else (some (1 : Int32)))
abbrev MX10_isLetter : mM := ((yX10_isLetter, cX10_isLetter, 1, (some .boolean)), (0, 0), (false, false), RX10, eT)
theorem kX10_isLetter : mCalS MX10_isLetter 1 := ⟨q153, q2, q154, by decide +kernel⟩
set_option maxHeartbeats 4000000 in
theorem xbX10_isLetter {n0 c0 s0 cx cy : Nat} {S : mSh} {μ : mMm} (p0 : Int32) : mX MX10_isLetter n0 c0 s0 0 [some (.int p0)] [] (S, μ, cx, cy) (iPI S μ cx cy) (fX10_isLetter p0) := by
  unfold fX10_isLetter
  refine x_iload_n (pc := 0) dX10_isLetter_0 (i := 0) rfl rfl ?_
  refine x_if_lt (pc := 1) (tgt := 13) dX10_isLetter_1 (by decide) ?_ ?_
  · refine x_iconst (pc := 13) (v := 0) dX10_isLetter_13 (by decide) ?_
    exact x_iret rfl dX10_isLetter_14 rfl rfl
  · refine x_iload_n (pc := 4) dX10_isLetter_4 (i := 0) rfl rfl ?_
    refine x_iconst (pc := 5) (v := 4) dX10_isLetter_5 (by decide) ?_
    refine x_icmp_ge (pc := 6) (tgt := 13) dX10_isLetter_6 (by decide) ?_ ?_
    · refine x_iconst (pc := 13) (v := 0) dX10_isLetter_13 (by decide) ?_
      exact x_iret rfl dX10_isLetter_14 rfl rfl
    · refine x_iconst (pc := 9) (v := 1) dX10_isLetter_9 (by decide) ?_
      refine x_goto (pc := 10) (tgt := 14) dX10_isLetter_10 (by decide) ?_
      exact x_iret rfl dX10_isLetter_14 rfl rfl
theorem mX10_isLetter (S : mSh) (μ : mMm) (cx cy : Nat) (p0 : Int32) : mMet MX10_isLetter [.int p0] (S, μ, cx, cy) (iPI S μ cx cy) (fX10_isLetter p0) := mMet.of rfl (by decide) rfl (fun h => by cases h) (Nat.le_of_ble_eq_true rfl) (xbX10_isLetter p0)
/-! SlideMills.addLetter(I)I -/
def bX10_addLetter (S : mSh) (μ : mMm) (o : Nat) (p0 : Int32) : Option ((Int32 ⊕ Nat) × mMm) := (fX10_isLetter p0).bind fun v1 => if v1 = 0 then (some (.inr 0, μ)) else ((gR S o 10 0).bind fun v2 => (gR S v2 7 0).bind fun v3 => (gI S μ v3 2 1).bind fun v4 => if v4 < (40 : Int32) then ((gR S o 10 3).bind fun v5 => (gR S o 10 0).bind fun v6 => (fX1_push S μ v5 v6).bind fun m7 => (gR S o 10 0).bind fun v8 => (gR S v8 7 0).bind fun v9 => (fX2_put S m7 v9 p0).bind fun m10 => (gR S o 10 0).bind fun v11 => (gR S v11 7 0).bind fun v12 => (gI S m10 v12 2 1).bind fun v13 => some (.inl v13, m10)) else (some (.inr 1, μ)))
def fX10_addLetter (S : mSh) (μ : mMm) (o : Nat) (p0 : Int32) : Option ((Int32 ⊕ Nat) × mMm) := if mok S o 10 = true then bX10_addLetter S μ o p0 else none
abbrev MX10_addLetter : mM := ((yX10_addLetter, cX10_addLetter, 2, (some .int)), (6, 90), (false, false), RX10, eT)
theorem kX10_addLetter : mCalV MX10_addLetter RX10 1 := ⟨q144, q145, q2, q146, by decide +kernel⟩
set_option maxHeartbeats 4000000 in
theorem xbX10_addLetter {n0 c0 s0 cx cy : Nat} {S : mSh} {μ : mMm} (o : Nat) (p0 : Int32) : mX MX10_addLetter n0 c0 s0 0 [some (.ref o), some (.int p0)] [] (S, μ, cx, cy) (iTI S cx cy) (bX10_addLetter S μ o p0) := by
  unfold bX10_addLetter
  refine x_iload_n (pc := 0) dX10_addLetter_0 (i := 1) rfl rfl ?_
  refine x_callSi (pc := 1) (As := [.int p0]) (rest := []) (vx := fun a => a) (μf := fun _ => μ) (mX10_isLetter S μ cx cy p0) (fun _ => rfl) rfl dX10_addLetter_1 q152 kX10_isLetter rfl ⟨by decide, by decide⟩ rfl (Nat.le_of_ble_eq_true rfl) (fun v1 => ?_)
  refine x_if_ne (pc := 4) (tgt := 17) dX10_addLetter_4 (by decide) ?_ ?_
  · exact x_throw rfl ⟨81, 83, 85, "letter out of range", dX10_addLetter_7, dX10_addLetter_10, Or.inl ⟨dX10_addLetter_11, dX10_addLetter_13, dX10_addLetter_16⟩, rfl, q147, q148, Or.inl ⟨rfl, rfl⟩, by decide, by decide, by decide⟩ (Nat.le_of_ble_eq_true rfl)
  · refine x_aload_n (pc := 17) dX10_addLetter_17 (i := 0) rfl rfl ?_
    refine x_gR (pc := 18) (k := 0) fcX10 dX10_addLetter_18 q13 (by decide) rfl (fun v2 => ?_)
    refine x_gR (pc := 21) (k := 0) fcX7 dX10_addLetter_21 q27 (by decide) rfl (fun v3 => ?_)
    refine x_gI (pc := 24) (k := 1) fcX2 dX10_addLetter_24 q151 (by decide) rfl (fun v4 => ?_)
    refine x_bipush (pc := 27) (v := 40) dX10_addLetter_27 (by decide) ?_
    refine x_icmp_lt (pc := 29) (tgt := 42) dX10_addLetter_29 (by decide) ?_ ?_
    · refine x_aload_n (pc := 42) dX10_addLetter_42 (i := 0) rfl rfl ?_
      refine x_gR (pc := 43) (k := 3) fcX10 dX10_addLetter_43 q19 (by decide) rfl (fun v5 => ?_)
      refine x_aload_n (pc := 46) dX10_addLetter_46 (i := 0) rfl rfl ?_
      refine x_gR (pc := 47) (k := 0) fcX10 dX10_addLetter_47 q13 (by decide) rfl (fun v6 => ?_)
      refine x_callVv (pc := 50) (As := [.ref v6]) (rest := []) (μf := fun a => a) fcX1 (mX1_push S μ cx cy v5 v6) (fun _ => rfl) rfl (fun _ h => ifok h) dX10_addLetter_50 q155 kX1_push rfl ⟨by decide, by decide⟩ rfl (Nat.le_of_ble_eq_true rfl) (fun m7 => ?_)
      refine x_aload_n (pc := 53) dX10_addLetter_53 (i := 0) rfl rfl ?_
      refine x_gR (pc := 54) (k := 0) fcX10 dX10_addLetter_54 q13 (by decide) rfl (fun v8 => ?_)
      refine x_gR (pc := 57) (k := 0) fcX7 dX10_addLetter_57 q27 (by decide) rfl (fun v9 => ?_)
      refine x_iload_n (pc := 60) dX10_addLetter_60 (i := 1) rfl rfl ?_
      refine x_callVv (pc := 61) (As := [.int p0]) (rest := []) (μf := fun a => a) fcX2 (mX2_put S m7 cx cy v9 p0) (fun _ => rfl) rfl (fun _ h => ifok h) dX10_addLetter_61 q183 kX2_put rfl ⟨by decide, by decide⟩ rfl (Nat.le_of_ble_eq_true rfl) (fun m10 => ?_)
      refine x_aload_n (pc := 64) dX10_addLetter_64 (i := 0) rfl rfl ?_
      refine x_gR (pc := 65) (k := 0) fcX10 dX10_addLetter_65 q13 (by decide) rfl (fun v11 => ?_)
      refine x_gR (pc := 68) (k := 0) fcX7 dX10_addLetter_68 q27 (by decide) rfl (fun v12 => ?_)
      refine x_gI (pc := 71) (k := 1) fcX2 dX10_addLetter_71 q151 (by decide) rfl (fun v13 => ?_)
      exact x_iret rfl dX10_addLetter_74 rfl rfl
    · exact x_throw rfl ⟨94, 96, 98, "the text is full", dX10_addLetter_32, dX10_addLetter_35, Or.inl ⟨dX10_addLetter_36, dX10_addLetter_38, dX10_addLetter_41⟩, rfl, q149, q150, Or.inr (Or.inl ⟨rfl, rfl⟩), by decide, by decide, by decide⟩ (Nat.le_of_ble_eq_true rfl)
theorem mX10_addLetter (S : mSh) (μ : mMm) (cx cy : Nat) (o : Nat) (p0 : Int32) : mMet MX10_addLetter [.ref o, .int p0] (S, μ, cx, cy) (iTI S cx cy) (fX10_addLetter S μ o p0) := mMet.of rfl (by decide) rfl (fun h => by cases h) (Nat.le_of_ble_eq_true rfl) (mX.ck (fun _ => xbX10_addLetter o p0))
/-! SlideMills.setLetter(II)I -/
def bX10_setLetter (S : mSh) (μ : mMm) (o : Nat) (p0 : Int32) (p1 : Int32) : Option ((Int32 ⊕ Nat) × mMm) := (gR S o 10 0).bind fun v1 => (gR S v1 7 0).bind fun v2 => (fX2_has S μ v2 p0).bind fun v3 => if v3 = 0 then (some (.inr 2, μ)) else ((fX10_isLetter p1).bind fun v4 => if v4 = 0 then (some (.inr 0, μ)) else ((gR S o 10 3).bind fun v5 => (gR S o 10 0).bind fun v6 => (fX1_push S μ v5 v6).bind fun m7 => (gR S o 10 0).bind fun v8 => (gR S v8 7 0).bind fun v9 => (fX2_get S m7 v9 p0).bind fun v10 => (gR S o 10 0).bind fun v11 => (gR S v11 7 0).bind fun v12 => (fX2_replace S m7 v12 p0 p1).bind fun m13 => some (.inl v10, m13)))
def fX10_setLetter (S : mSh) (μ : mMm) (o : Nat) (p0 : Int32) (p1 : Int32) : Option ((Int32 ⊕ Nat) × mMm) := if mok S o 10 = true then bX10_setLetter S μ o p0 p1 else none
abbrev MX10_setLetter : mM := ((yX10_setLetter, cX10_setLetter, 4, (some .int)), (6, 90), (false, false), RX10, eT)
theorem kX10_setLetter : mCalV MX10_setLetter RX10 2 := ⟨q188, q189, q2, q190, by decide +kernel⟩
set_option maxHeartbeats 4000000 in
theorem xbX10_setLetter {n0 c0 s0 cx cy : Nat} {S : mSh} {μ : mMm} (o : Nat) (p0 : Int32) (p1 : Int32) : mX MX10_setLetter n0 c0 s0 0 [some (.ref o), some (.int p0), some (.int p1), none] [] (S, μ, cx, cy) (iTI S cx cy) (bX10_setLetter S μ o p0 p1) := by
  unfold bX10_setLetter
  refine x_aload_n (pc := 0) dX10_setLetter_0 (i := 0) rfl rfl ?_
  refine x_gR (pc := 1) (k := 0) fcX10 dX10_setLetter_1 q13 (by decide) rfl (fun v1 => ?_)
  refine x_gR (pc := 4) (k := 0) fcX7 dX10_setLetter_4 q27 (by decide) rfl (fun v2 => ?_)
  refine x_iload_n (pc := 7) dX10_setLetter_7 (i := 1) rfl rfl ?_
  refine x_callVi (pc := 8) (As := [.int p0]) (rest := []) (vx := fun a => a) (μf := fun _ => μ) fcX2 (mX2_has S μ cx cy v2 p0) (fun _ => rfl) rfl (fun _ h => ifok h) dX10_setLetter_8 q193 kX2_has rfl ⟨by decide, by decide⟩ rfl (Nat.le_of_ble_eq_true rfl) (fun v3 => ?_)
  refine x_if_ne (pc := 11) (tgt := 24) dX10_setLetter_11 (by decide) ?_ ?_
  · exact x_throw rfl ⟨110, 112, 114, "no such place", dX10_setLetter_14, dX10_setLetter_17, Or.inl ⟨dX10_setLetter_18, dX10_setLetter_20, dX10_setLetter_23⟩, rfl, q191, q192, Or.inr (Or.inr ⟨rfl, rfl⟩), by decide, by decide, by decide⟩ (Nat.le_of_ble_eq_true rfl)
  · refine x_iload_n (pc := 24) dX10_setLetter_24 (i := 2) rfl rfl ?_
    refine x_callSi (pc := 25) (As := [.int p1]) (rest := []) (vx := fun a => a) (μf := fun _ => μ) (mX10_isLetter S μ cx cy p1) (fun _ => rfl) rfl dX10_setLetter_25 q152 kX10_isLetter rfl ⟨by decide, by decide⟩ rfl (Nat.le_of_ble_eq_true rfl) (fun v4 => ?_)
    refine x_if_ne (pc := 28) (tgt := 41) dX10_setLetter_28 (by decide) ?_ ?_
    · exact x_throw rfl ⟨81, 83, 85, "letter out of range", dX10_setLetter_31, dX10_setLetter_34, Or.inl ⟨dX10_setLetter_35, dX10_setLetter_37, dX10_setLetter_40⟩, rfl, q147, q148, Or.inl ⟨rfl, rfl⟩, by decide, by decide, by decide⟩ (Nat.le_of_ble_eq_true rfl)
    · refine x_aload_n (pc := 41) dX10_setLetter_41 (i := 0) rfl rfl ?_
      refine x_gR (pc := 42) (k := 3) fcX10 dX10_setLetter_42 q19 (by decide) rfl (fun v5 => ?_)
      refine x_aload_n (pc := 45) dX10_setLetter_45 (i := 0) rfl rfl ?_
      refine x_gR (pc := 46) (k := 0) fcX10 dX10_setLetter_46 q13 (by decide) rfl (fun v6 => ?_)
      refine x_callVv (pc := 49) (As := [.ref v6]) (rest := []) (μf := fun a => a) fcX1 (mX1_push S μ cx cy v5 v6) (fun _ => rfl) rfl (fun _ h => ifok h) dX10_setLetter_49 q155 kX1_push rfl ⟨by decide, by decide⟩ rfl (Nat.le_of_ble_eq_true rfl) (fun m7 => ?_)
      refine x_aload_n (pc := 52) dX10_setLetter_52 (i := 0) rfl rfl ?_
      refine x_gR (pc := 53) (k := 0) fcX10 dX10_setLetter_53 q13 (by decide) rfl (fun v8 => ?_)
      refine x_gR (pc := 56) (k := 0) fcX7 dX10_setLetter_56 q27 (by decide) rfl (fun v9 => ?_)
      refine x_iload_n (pc := 59) dX10_setLetter_59 (i := 1) rfl rfl ?_
      refine x_callVi (pc := 60) (As := [.int p0]) (rest := []) (vx := fun a => a) (μf := fun _ => m7) fcX2 (mX2_get S m7 cx cy v9 p0) (fun _ => rfl) rfl (fun _ h => ifok h) dX10_setLetter_60 q197 kX2_get rfl ⟨by decide, by decide⟩ rfl (Nat.le_of_ble_eq_true rfl) (fun v10 => ?_)
      refine x_istore_n (pc := 63) dX10_setLetter_63 (i := 3) rfl (by decide) (l' := [some (.ref o), some (.int p0), some (.int p1), some (.int v10)]) rfl ?_
      refine x_aload_n (pc := 64) dX10_setLetter_64 (i := 0) rfl rfl ?_
      refine x_gR (pc := 65) (k := 0) fcX10 dX10_setLetter_65 q13 (by decide) rfl (fun v11 => ?_)
      refine x_gR (pc := 68) (k := 0) fcX7 dX10_setLetter_68 q27 (by decide) rfl (fun v12 => ?_)
      refine x_iload_n (pc := 71) dX10_setLetter_71 (i := 1) rfl rfl ?_
      refine x_iload_n (pc := 72) dX10_setLetter_72 (i := 2) rfl rfl ?_
      refine x_callVv (pc := 73) (As := [.int p0, .int p1]) (rest := []) (μf := fun a => a) fcX2 (mX2_replace S m7 cx cy v12 p0 p1) (fun _ => rfl) rfl (fun _ h => ifok h) dX10_setLetter_73 q201 kX2_replace rfl ⟨by decide, by decide⟩ rfl (Nat.le_of_ble_eq_true rfl) (fun m13 => ?_)
      refine x_iload_n (pc := 76) dX10_setLetter_76 (i := 3) rfl rfl ?_
      exact x_iret rfl dX10_setLetter_77 rfl rfl
theorem mX10_setLetter (S : mSh) (μ : mMm) (cx cy : Nat) (o : Nat) (p0 : Int32) (p1 : Int32) : mMet MX10_setLetter [.ref o, .int p0, .int p1] (S, μ, cx, cy) (iTI S cx cy) (fX10_setLetter S μ o p0 p1) := mMet.of rfl (by decide) rfl (fun h => by cases h) (Nat.le_of_ble_eq_true rfl) (mX.ck (fun _ => xbX10_setLetter o p0 p1))
/-! SlideMills.emptyText()I -/
def bX10_emptyText (S : mSh) (μ : mMm) (o : Nat) : Option (Int32 × mMm) := (gR S o 10 3).bind fun v1 => (gR S o 10 0).bind fun v2 => (fX1_push S μ v1 v2).bind fun m3 => (gR S o 10 0).bind fun v4 => (gR S v4 7 0).bind fun v5 => (gI S m3 v5 2 1).bind fun v6 => (gR S o 10 0).bind fun v7 => (gR S v7 7 0).bind fun v8 => (fX2_clear S m3 v8).bind fun m9 => some (v6, m9)
def fX10_emptyText (S : mSh) (μ : mMm) (o : Nat) : Option (Int32 × mMm) := if mok S o 10 = true then bX10_emptyText S μ o else none
abbrev MX10_emptyText : mM := ((yX10_emptyText, cX10_emptyText, 2, (some .int)), (4, 85), (false, false), RX10, eT)
theorem kX10_emptyText : mCalV MX10_emptyText RX10 0 := ⟨q398, q399, q2, q400, by decide +kernel⟩
set_option maxHeartbeats 4000000 in
theorem xbX10_emptyText {n0 c0 s0 cx cy : Nat} {S : mSh} {μ : mMm} (o : Nat) : mX MX10_emptyText n0 c0 s0 0 [some (.ref o), none] [] (S, μ, cx, cy) (iMI S cx cy) (bX10_emptyText S μ o) := by
  unfold bX10_emptyText
  refine x_aload_n (pc := 0) dX10_emptyText_0 (i := 0) rfl rfl ?_
  refine x_gR (pc := 1) (k := 3) fcX10 dX10_emptyText_1 q19 (by decide) rfl (fun v1 => ?_)
  refine x_aload_n (pc := 4) dX10_emptyText_4 (i := 0) rfl rfl ?_
  refine x_gR (pc := 5) (k := 0) fcX10 dX10_emptyText_5 q13 (by decide) rfl (fun v2 => ?_)
  refine x_callVv (pc := 8) (As := [.ref v2]) (rest := []) (μf := fun a => a) fcX1 (mX1_push S μ cx cy v1 v2) (fun _ => rfl) rfl (fun _ h => ifok h) dX10_emptyText_8 q155 kX1_push rfl ⟨by decide, by decide⟩ rfl (Nat.le_of_ble_eq_true rfl) (fun m3 => ?_)
  refine x_aload_n (pc := 11) dX10_emptyText_11 (i := 0) rfl rfl ?_
  refine x_gR (pc := 12) (k := 0) fcX10 dX10_emptyText_12 q13 (by decide) rfl (fun v4 => ?_)
  refine x_gR (pc := 15) (k := 0) fcX7 dX10_emptyText_15 q27 (by decide) rfl (fun v5 => ?_)
  refine x_gI (pc := 18) (k := 1) fcX2 dX10_emptyText_18 q151 (by decide) rfl (fun v6 => ?_)
  refine x_istore_n (pc := 21) dX10_emptyText_21 (i := 1) rfl (by decide) (l' := [some (.ref o), some (.int v6)]) rfl ?_
  refine x_aload_n (pc := 22) dX10_emptyText_22 (i := 0) rfl rfl ?_
  refine x_gR (pc := 23) (k := 0) fcX10 dX10_emptyText_23 q13 (by decide) rfl (fun v7 => ?_)
  refine x_gR (pc := 26) (k := 0) fcX7 dX10_emptyText_26 q27 (by decide) rfl (fun v8 => ?_)
  refine x_callVv (pc := 29) (As := []) (rest := []) (μf := fun a => a) fcX2 (mX2_clear S m3 cx cy v8) (fun _ => rfl) rfl (fun _ h => ifok h) dX10_emptyText_29 q401 kX2_clear rfl ⟨by decide, by decide⟩ rfl (Nat.le_of_ble_eq_true rfl) (fun m9 => ?_)
  refine x_iload_n (pc := 32) dX10_emptyText_32 (i := 1) rfl rfl ?_
  exact x_iret rfl dX10_emptyText_33 rfl rfl
theorem mX10_emptyText (S : mSh) (μ : mMm) (cx cy : Nat) (o : Nat) : mMet MX10_emptyText [.ref o] (S, μ, cx, cy) (iMI S cx cy) (fX10_emptyText S μ o) := mMet.of rfl (by decide) rfl (fun h => by cases h) (Nat.le_of_ble_eq_true rfl) (mX.ck (fun _ => xbX10_emptyText o))
/-! SlideMills.isBetween(III)Z -/
def fX10_isBetween (p0 : Int32) (p1 : Int32) (p2 : Int32) : Option (Int32) := if p0 < p1 then (some (0 : Int32)) else (if p2 < p0 then (some (0 : Int32)) else (some (1 : Int32)))
abbrev MX10_isBetween : mM := ((yX10_isBetween, cX10_isBetween, 3, (some .boolean)), (0, 0), (false, false), RX10, eT)
theorem kX10_isBetween : mCalS MX10_isBetween 3 := ⟨q211, q2, q212, by decide +kernel⟩
set_option maxHeartbeats 4000000 in
theorem xbX10_isBetween {n0 c0 s0 cx cy : Nat} {S : mSh} {μ : mMm} (p0 : Int32) (p1 : Int32) (p2 : Int32) : mX MX10_isBetween n0 c0 s0 0 [some (.int p0), some (.int p1), some (.int p2)] [] (S, μ, cx, cy) (iPI S μ cx cy) (fX10_isBetween p0 p1 p2) := by
  unfold fX10_isBetween
  refine x_iload_n (pc := 0) dX10_isBetween_0 (i := 0) rfl rfl ?_
  refine x_iload_n (pc := 1) dX10_isBetween_1 (i := 1) rfl rfl ?_
  refine x_icmp_lt (pc := 2) (tgt := 14) dX10_isBetween_2 (by decide) ?_ ?_
  · refine x_iconst (pc := 14) (v := 0) dX10_isBetween_14 (by decide) ?_
    exact x_iret rfl dX10_isBetween_15 rfl rfl
  · refine x_iload_n (pc := 5) dX10_isBetween_5 (i := 0) rfl rfl ?_
    refine x_iload_n (pc := 6) dX10_isBetween_6 (i := 2) rfl rfl ?_
    refine x_icmp_gt (pc := 7) (tgt := 14) dX10_isBetween_7 (by decide) ?_ ?_
    · refine x_iconst (pc := 14) (v := 0) dX10_isBetween_14 (by decide) ?_
      exact x_iret rfl dX10_isBetween_15 rfl rfl
    · refine x_iconst (pc := 10) (v := 1) dX10_isBetween_10 (by decide) ?_
      refine x_goto (pc := 11) (tgt := 15) dX10_isBetween_11 (by decide) ?_
      exact x_iret rfl dX10_isBetween_15 rfl rfl
theorem mX10_isBetween (S : mSh) (μ : mMm) (cx cy : Nat) (p0 : Int32) (p1 : Int32) (p2 : Int32) : mMet MX10_isBetween [.int p0, .int p1, .int p2] (S, μ, cx, cy) (iPI S μ cx cy) (fX10_isBetween p0 p1 p2) := mMet.of rfl (by decide) rfl (fun h => by cases h) (Nat.le_of_ble_eq_true rfl) (xbX10_isBetween p0 p1 p2)
/-! SlideMills.setWindow(I)I -/
def bX10_setWindow (S : mSh) (μ : mMm) (o : Nat) (p0 : Int32) : Option ((Int32 ⊕ Nat) × mMm) := (fX10_isBetween p0 (1 : Int32) (32 : Int32)).bind fun v1 => if v1 = 0 then (some (.inr 0, μ)) else ((gR S o 10 3).bind fun v2 => (gR S o 10 0).bind fun v3 => (fX1_push S μ v2 v3).bind fun m4 => (gR S o 10 0).bind fun v5 => (gR S v5 7 2).bind fun v6 => (gI S m4 v6 6 0).bind fun v7 => (gR S o 10 0).bind fun v8 => (gR S v8 7 2).bind fun v9 => (pI S m4 v9 6 0 p0).bind fun m10 => some (.inl v7, m10))
def fX10_setWindow (S : mSh) (μ : mMm) (o : Nat) (p0 : Int32) : Option ((Int32 ⊕ Nat) × mMm) := if mok S o 10 = true then bX10_setWindow S μ o p0 else none
abbrev MX10_setWindow : mM := ((yX10_setWindow, cX10_setWindow, 3, (some .int)), (6, 90), (false, false), RX10, eT)
theorem kX10_setWindow : mCalV MX10_setWindow RX10 1 := ⟨q206, q207, q2, q208, by decide +kernel⟩
set_option maxHeartbeats 4000000 in
theorem xbX10_setWindow {n0 c0 s0 cx cy : Nat} {S : mSh} {μ : mMm} (o : Nat) (p0 : Int32) : mX MX10_setWindow n0 c0 s0 0 [some (.ref o), some (.int p0), none] [] (S, μ, cx, cy) (iTI S cx cy) (bX10_setWindow S μ o p0) := by
  unfold bX10_setWindow
  refine x_iload_n (pc := 0) dX10_setWindow_0 (i := 1) rfl rfl ?_
  refine x_iconst (pc := 1) (v := 1) dX10_setWindow_1 (by decide) ?_
  refine x_bipush (pc := 2) (v := 32) dX10_setWindow_2 (by decide) ?_
  refine x_callSi (pc := 4) (As := [.int p0, .int (1 : Int32), .int (32 : Int32)]) (rest := []) (vx := fun a => a) (μf := fun _ => μ) (mX10_isBetween S μ cx cy p0 (1 : Int32) (32 : Int32)) (fun _ => rfl) rfl dX10_setWindow_4 q210 kX10_isBetween rfl ⟨by decide, by decide⟩ rfl (Nat.le_of_ble_eq_true rfl) (fun v1 => ?_)
  refine x_if_ne (pc := 7) (tgt := 20) dX10_setWindow_7 (by decide) ?_ ?_
  · exact x_throw rfl ⟨81, 130, 85, "places out of range", dX10_setWindow_10, dX10_setWindow_13, Or.inl ⟨dX10_setWindow_14, dX10_setWindow_16, dX10_setWindow_19⟩, rfl, q147, q148, Or.inl ⟨rfl, rfl⟩, by decide, by decide, by decide⟩ (Nat.le_of_ble_eq_true rfl)
  · refine x_aload_n (pc := 20) dX10_setWindow_20 (i := 0) rfl rfl ?_
    refine x_gR (pc := 21) (k := 3) fcX10 dX10_setWindow_21 q19 (by decide) rfl (fun v2 => ?_)
    refine x_aload_n (pc := 24) dX10_setWindow_24 (i := 0) rfl rfl ?_
    refine x_gR (pc := 25) (k := 0) fcX10 dX10_setWindow_25 q13 (by decide) rfl (fun v3 => ?_)
    refine x_callVv (pc := 28) (As := [.ref v3]) (rest := []) (μf := fun a => a) fcX1 (mX1_push S μ cx cy v2 v3) (fun _ => rfl) rfl (fun _ h => ifok h) dX10_setWindow_28 q155 kX1_push rfl ⟨by decide, by decide⟩ rfl (Nat.le_of_ble_eq_true rfl) (fun m4 => ?_)
    refine x_aload_n (pc := 31) dX10_setWindow_31 (i := 0) rfl rfl ?_
    refine x_gR (pc := 32) (k := 0) fcX10 dX10_setWindow_32 q13 (by decide) rfl (fun v5 => ?_)
    refine x_gR (pc := 35) (k := 2) fcX7 dX10_setWindow_35 q28 (by decide) rfl (fun v6 => ?_)
    refine x_gI (pc := 38) (k := 0) fcX6 dX10_setWindow_38 q209 (by decide) rfl (fun v7 => ?_)
    refine x_istore_n (pc := 41) dX10_setWindow_41 (i := 2) rfl (by decide) (l' := [some (.ref o), some (.int p0), some (.int v7)]) rfl ?_
    refine x_aload_n (pc := 42) dX10_setWindow_42 (i := 0) rfl rfl ?_
    refine x_gR (pc := 43) (k := 0) fcX10 dX10_setWindow_43 q13 (by decide) rfl (fun v8 => ?_)
    refine x_gR (pc := 46) (k := 2) fcX7 dX10_setWindow_46 q28 (by decide) rfl (fun v9 => ?_)
    refine x_iload_n (pc := 49) dX10_setWindow_49 (i := 1) rfl rfl ?_
    refine x_pI (pc := 50) (k := 0) fcX6 dX10_setWindow_50 q209 (by decide) rfl rfl rfl rfl (fun m10 => ?_)
    refine x_iload_n (pc := 53) dX10_setWindow_53 (i := 2) rfl rfl ?_
    exact x_iret rfl dX10_setWindow_54 rfl rfl
theorem mX10_setWindow (S : mSh) (μ : mMm) (cx cy : Nat) (o : Nat) (p0 : Int32) : mMet MX10_setWindow [.ref o, .int p0] (S, μ, cx, cy) (iTI S cx cy) (fX10_setWindow S μ o p0) := mMet.of rfl (by decide) rfl (fun h => by cases h) (Nat.le_of_ble_eq_true rfl) (mX.ck (fun _ => xbX10_setWindow o p0))
/-! SlideMills.setShortest(I)I -/
def bX10_setShortest (S : mSh) (μ : mMm) (o : Nat) (p0 : Int32) : Option ((Int32 ⊕ Nat) × mMm) := (fX10_isBetween p0 (2 : Int32) (4 : Int32)).bind fun v1 => if v1 = 0 then (some (.inr 0, μ)) else ((gR S o 10 3).bind fun v2 => (gR S o 10 0).bind fun v3 => (fX1_push S μ v2 v3).bind fun m4 => (gR S o 10 0).bind fun v5 => (gR S v5 7 2).bind fun v6 => (gI S m4 v6 6 1).bind fun v7 => (gR S o 10 0).bind fun v8 => (gR S v8 7 2).bind fun v9 => (pI S m4 v9 6 1 p0).bind fun m10 => some (.inl v7, m10))
def fX10_setShortest (S : mSh) (μ : mMm) (o : Nat) (p0 : Int32) : Option ((Int32 ⊕ Nat) × mMm) := if mok S o 10 = true then bX10_setShortest S μ o p0 else none
abbrev MX10_setShortest : mM := ((yX10_setShortest, cX10_setShortest, 3, (some .int)), (6, 90), (false, false), RX10, eT)
theorem kX10_setShortest : mCalV MX10_setShortest RX10 1 := ⟨q214, q215, q2, q216, by decide +kernel⟩
set_option maxHeartbeats 4000000 in
theorem xbX10_setShortest {n0 c0 s0 cx cy : Nat} {S : mSh} {μ : mMm} (o : Nat) (p0 : Int32) : mX MX10_setShortest n0 c0 s0 0 [some (.ref o), some (.int p0), none] [] (S, μ, cx, cy) (iTI S cx cy) (bX10_setShortest S μ o p0) := by
  unfold bX10_setShortest
  refine x_iload_n (pc := 0) dX10_setShortest_0 (i := 1) rfl rfl ?_
  refine x_iconst (pc := 1) (v := 2) dX10_setShortest_1 (by decide) ?_
  refine x_iconst (pc := 2) (v := 4) dX10_setShortest_2 (by decide) ?_
  refine x_callSi (pc := 3) (As := [.int p0, .int (2 : Int32), .int (4 : Int32)]) (rest := []) (vx := fun a => a) (μf := fun _ => μ) (mX10_isBetween S μ cx cy p0 (2 : Int32) (4 : Int32)) (fun _ => rfl) rfl dX10_setShortest_3 q210 kX10_isBetween rfl ⟨by decide, by decide⟩ rfl (Nat.le_of_ble_eq_true rfl) (fun v1 => ?_)
  refine x_if_ne (pc := 6) (tgt := 19) dX10_setShortest_6 (by decide) ?_ ?_
  · exact x_throw rfl ⟨81, 137, 85, "length out of range", dX10_setShortest_9, dX10_setShortest_12, Or.inl ⟨dX10_setShortest_13, dX10_setShortest_15, dX10_setShortest_18⟩, rfl, q147, q148, Or.inl ⟨rfl, rfl⟩, by decide, by decide, by decide⟩ (Nat.le_of_ble_eq_true rfl)
  · refine x_aload_n (pc := 19) dX10_setShortest_19 (i := 0) rfl rfl ?_
    refine x_gR (pc := 20) (k := 3) fcX10 dX10_setShortest_20 q19 (by decide) rfl (fun v2 => ?_)
    refine x_aload_n (pc := 23) dX10_setShortest_23 (i := 0) rfl rfl ?_
    refine x_gR (pc := 24) (k := 0) fcX10 dX10_setShortest_24 q13 (by decide) rfl (fun v3 => ?_)
    refine x_callVv (pc := 27) (As := [.ref v3]) (rest := []) (μf := fun a => a) fcX1 (mX1_push S μ cx cy v2 v3) (fun _ => rfl) rfl (fun _ h => ifok h) dX10_setShortest_27 q155 kX1_push rfl ⟨by decide, by decide⟩ rfl (Nat.le_of_ble_eq_true rfl) (fun m4 => ?_)
    refine x_aload_n (pc := 30) dX10_setShortest_30 (i := 0) rfl rfl ?_
    refine x_gR (pc := 31) (k := 0) fcX10 dX10_setShortest_31 q13 (by decide) rfl (fun v5 => ?_)
    refine x_gR (pc := 34) (k := 2) fcX7 dX10_setShortest_34 q28 (by decide) rfl (fun v6 => ?_)
    refine x_gI (pc := 37) (k := 1) fcX6 dX10_setShortest_37 q217 (by decide) rfl (fun v7 => ?_)
    refine x_istore_n (pc := 40) dX10_setShortest_40 (i := 2) rfl (by decide) (l' := [some (.ref o), some (.int p0), some (.int v7)]) rfl ?_
    refine x_aload_n (pc := 41) dX10_setShortest_41 (i := 0) rfl rfl ?_
    refine x_gR (pc := 42) (k := 0) fcX10 dX10_setShortest_42 q13 (by decide) rfl (fun v8 => ?_)
    refine x_gR (pc := 45) (k := 2) fcX7 dX10_setShortest_45 q28 (by decide) rfl (fun v9 => ?_)
    refine x_iload_n (pc := 48) dX10_setShortest_48 (i := 1) rfl rfl ?_
    refine x_pI (pc := 49) (k := 1) fcX6 dX10_setShortest_49 q217 (by decide) rfl rfl rfl rfl (fun m10 => ?_)
    refine x_iload_n (pc := 52) dX10_setShortest_52 (i := 2) rfl rfl ?_
    exact x_iret rfl dX10_setShortest_53 rfl rfl
theorem mX10_setShortest (S : mSh) (μ : mMm) (cx cy : Nat) (o : Nat) (p0 : Int32) : mMet MX10_setShortest [.ref o, .int p0] (S, μ, cx, cy) (iTI S cx cy) (fX10_setShortest S μ o p0) := mMet.of rfl (by decide) rfl (fun h => by cases h) (Nat.le_of_ble_eq_true rfl) (mX.ck (fun _ => xbX10_setShortest o p0))
/-! SlideMills.setLongest(I)I -/
def bX10_setLongest (S : mSh) (μ : mMm) (o : Nat) (p0 : Int32) : Option ((Int32 ⊕ Nat) × mMm) := (fX10_isBetween p0 (4 : Int32) (9 : Int32)).bind fun v1 => if v1 = 0 then (some (.inr 0, μ)) else ((gR S o 10 3).bind fun v2 => (gR S o 10 0).bind fun v3 => (fX1_push S μ v2 v3).bind fun m4 => (gR S o 10 0).bind fun v5 => (gR S v5 7 2).bind fun v6 => (gI S m4 v6 6 2).bind fun v7 => (gR S o 10 0).bind fun v8 => (gR S v8 7 2).bind fun v9 => (pI S m4 v9 6 2 p0).bind fun m10 => some (.inl v7, m10))
def fX10_setLongest (S : mSh) (μ : mMm) (o : Nat) (p0 : Int32) : Option ((Int32 ⊕ Nat) × mMm) := if mok S o 10 = true then bX10_setLongest S μ o p0 else none
abbrev MX10_setLongest : mM := ((yX10_setLongest, cX10_setLongest, 3, (some .int)), (6, 90), (false, false), RX10, eT)
theorem kX10_setLongest : mCalV MX10_setLongest RX10 1 := ⟨q219, q220, q2, q221, by decide +kernel⟩
set_option maxHeartbeats 4000000 in
theorem xbX10_setLongest {n0 c0 s0 cx cy : Nat} {S : mSh} {μ : mMm} (o : Nat) (p0 : Int32) : mX MX10_setLongest n0 c0 s0 0 [some (.ref o), some (.int p0), none] [] (S, μ, cx, cy) (iTI S cx cy) (bX10_setLongest S μ o p0) := by
  unfold bX10_setLongest
  refine x_iload_n (pc := 0) dX10_setLongest_0 (i := 1) rfl rfl ?_
  refine x_iconst (pc := 1) (v := 4) dX10_setLongest_1 (by decide) ?_
  refine x_bipush (pc := 2) (v := 9) dX10_setLongest_2 (by decide) ?_
  refine x_callSi (pc := 4) (As := [.int p0, .int (4 : Int32), .int (9 : Int32)]) (rest := []) (vx := fun a => a) (μf := fun _ => μ) (mX10_isBetween S μ cx cy p0 (4 : Int32) (9 : Int32)) (fun _ => rfl) rfl dX10_setLongest_4 q210 kX10_isBetween rfl ⟨by decide, by decide⟩ rfl (Nat.le_of_ble_eq_true rfl) (fun v1 => ?_)
  refine x_if_ne (pc := 7) (tgt := 20) dX10_setLongest_7 (by decide) ?_ ?_
  · exact x_throw rfl ⟨81, 137, 85, "length out of range", dX10_setLongest_10, dX10_setLongest_13, Or.inl ⟨dX10_setLongest_14, dX10_setLongest_16, dX10_setLongest_19⟩, rfl, q147, q148, Or.inl ⟨rfl, rfl⟩, by decide, by decide, by decide⟩ (Nat.le_of_ble_eq_true rfl)
  · refine x_aload_n (pc := 20) dX10_setLongest_20 (i := 0) rfl rfl ?_
    refine x_gR (pc := 21) (k := 3) fcX10 dX10_setLongest_21 q19 (by decide) rfl (fun v2 => ?_)
    refine x_aload_n (pc := 24) dX10_setLongest_24 (i := 0) rfl rfl ?_
    refine x_gR (pc := 25) (k := 0) fcX10 dX10_setLongest_25 q13 (by decide) rfl (fun v3 => ?_)
    refine x_callVv (pc := 28) (As := [.ref v3]) (rest := []) (μf := fun a => a) fcX1 (mX1_push S μ cx cy v2 v3) (fun _ => rfl) rfl (fun _ h => ifok h) dX10_setLongest_28 q155 kX1_push rfl ⟨by decide, by decide⟩ rfl (Nat.le_of_ble_eq_true rfl) (fun m4 => ?_)
    refine x_aload_n (pc := 31) dX10_setLongest_31 (i := 0) rfl rfl ?_
    refine x_gR (pc := 32) (k := 0) fcX10 dX10_setLongest_32 q13 (by decide) rfl (fun v5 => ?_)
    refine x_gR (pc := 35) (k := 2) fcX7 dX10_setLongest_35 q28 (by decide) rfl (fun v6 => ?_)
    refine x_gI (pc := 38) (k := 2) fcX6 dX10_setLongest_38 q222 (by decide) rfl (fun v7 => ?_)
    refine x_istore_n (pc := 41) dX10_setLongest_41 (i := 2) rfl (by decide) (l' := [some (.ref o), some (.int p0), some (.int v7)]) rfl ?_
    refine x_aload_n (pc := 42) dX10_setLongest_42 (i := 0) rfl rfl ?_
    refine x_gR (pc := 43) (k := 0) fcX10 dX10_setLongest_43 q13 (by decide) rfl (fun v8 => ?_)
    refine x_gR (pc := 46) (k := 2) fcX7 dX10_setLongest_46 q28 (by decide) rfl (fun v9 => ?_)
    refine x_iload_n (pc := 49) dX10_setLongest_49 (i := 1) rfl rfl ?_
    refine x_pI (pc := 50) (k := 2) fcX6 dX10_setLongest_50 q222 (by decide) rfl rfl rfl rfl (fun m10 => ?_)
    refine x_iload_n (pc := 53) dX10_setLongest_53 (i := 2) rfl rfl ?_
    exact x_iret rfl dX10_setLongest_54 rfl rfl
theorem mX10_setLongest (S : mSh) (μ : mMm) (cx cy : Nat) (o : Nat) (p0 : Int32) : mMet MX10_setLongest [.ref o, .int p0] (S, μ, cx, cy) (iTI S cx cy) (fX10_setLongest S μ o p0) := mMet.of rfl (by decide) rfl (fun h => by cases h) (Nat.le_of_ble_eq_true rfl) (mX.ck (fun _ => xbX10_setLongest o p0))
/-! SlideMills.setLetterPrice(I)I -/
def bX10_setLetterPrice (S : mSh) (μ : mMm) (o : Nat) (p0 : Int32) : Option ((Int32 ⊕ Nat) × mMm) := (fX10_isBetween p0 (1 : Int32) (9 : Int32)).bind fun v1 => if v1 = 0 then (some (.inr 0, μ)) else ((gR S o 10 3).bind fun v2 => (gR S o 10 0).bind fun v3 => (fX1_push S μ v2 v3).bind fun m4 => (gR S o 10 0).bind fun v5 => (gR S v5 7 2).bind fun v6 => (gI S m4 v6 6 3).bind fun v7 => (gR S o 10 0).bind fun v8 => (gR S v8 7 2).bind fun v9 => (pI S m4 v9 6 3 p0).bind fun m10 => some (.inl v7, m10))
def fX10_setLetterPrice (S : mSh) (μ : mMm) (o : Nat) (p0 : Int32) : Option ((Int32 ⊕ Nat) × mMm) := if mok S o 10 = true then bX10_setLetterPrice S μ o p0 else none
abbrev MX10_setLetterPrice : mM := ((yX10_setLetterPrice, cX10_setLetterPrice, 3, (some .int)), (6, 90), (false, false), RX10, eT)
theorem kX10_setLetterPrice : mCalV MX10_setLetterPrice RX10 1 := ⟨q224, q225, q2, q226, by decide +kernel⟩
set_option maxHeartbeats 4000000 in
theorem xbX10_setLetterPrice {n0 c0 s0 cx cy : Nat} {S : mSh} {μ : mMm} (o : Nat) (p0 : Int32) : mX MX10_setLetterPrice n0 c0 s0 0 [some (.ref o), some (.int p0), none] [] (S, μ, cx, cy) (iTI S cx cy) (bX10_setLetterPrice S μ o p0) := by
  unfold bX10_setLetterPrice
  refine x_iload_n (pc := 0) dX10_setLetterPrice_0 (i := 1) rfl rfl ?_
  refine x_iconst (pc := 1) (v := 1) dX10_setLetterPrice_1 (by decide) ?_
  refine x_bipush (pc := 2) (v := 9) dX10_setLetterPrice_2 (by decide) ?_
  refine x_callSi (pc := 4) (As := [.int p0, .int (1 : Int32), .int (9 : Int32)]) (rest := []) (vx := fun a => a) (μf := fun _ => μ) (mX10_isBetween S μ cx cy p0 (1 : Int32) (9 : Int32)) (fun _ => rfl) rfl dX10_setLetterPrice_4 q210 kX10_isBetween rfl ⟨by decide, by decide⟩ rfl (Nat.le_of_ble_eq_true rfl) (fun v1 => ?_)
  refine x_if_ne (pc := 7) (tgt := 20) dX10_setLetterPrice_7 (by decide) ?_ ?_
  · exact x_throw rfl ⟨81, 145, 85, "price out of range", dX10_setLetterPrice_10, dX10_setLetterPrice_13, Or.inl ⟨dX10_setLetterPrice_14, dX10_setLetterPrice_16, dX10_setLetterPrice_19⟩, rfl, q147, q148, Or.inl ⟨rfl, rfl⟩, by decide, by decide, by decide⟩ (Nat.le_of_ble_eq_true rfl)
  · refine x_aload_n (pc := 20) dX10_setLetterPrice_20 (i := 0) rfl rfl ?_
    refine x_gR (pc := 21) (k := 3) fcX10 dX10_setLetterPrice_21 q19 (by decide) rfl (fun v2 => ?_)
    refine x_aload_n (pc := 24) dX10_setLetterPrice_24 (i := 0) rfl rfl ?_
    refine x_gR (pc := 25) (k := 0) fcX10 dX10_setLetterPrice_25 q13 (by decide) rfl (fun v3 => ?_)
    refine x_callVv (pc := 28) (As := [.ref v3]) (rest := []) (μf := fun a => a) fcX1 (mX1_push S μ cx cy v2 v3) (fun _ => rfl) rfl (fun _ h => ifok h) dX10_setLetterPrice_28 q155 kX1_push rfl ⟨by decide, by decide⟩ rfl (Nat.le_of_ble_eq_true rfl) (fun m4 => ?_)
    refine x_aload_n (pc := 31) dX10_setLetterPrice_31 (i := 0) rfl rfl ?_
    refine x_gR (pc := 32) (k := 0) fcX10 dX10_setLetterPrice_32 q13 (by decide) rfl (fun v5 => ?_)
    refine x_gR (pc := 35) (k := 2) fcX7 dX10_setLetterPrice_35 q28 (by decide) rfl (fun v6 => ?_)
    refine x_gI (pc := 38) (k := 3) fcX6 dX10_setLetterPrice_38 q227 (by decide) rfl (fun v7 => ?_)
    refine x_istore_n (pc := 41) dX10_setLetterPrice_41 (i := 2) rfl (by decide) (l' := [some (.ref o), some (.int p0), some (.int v7)]) rfl ?_
    refine x_aload_n (pc := 42) dX10_setLetterPrice_42 (i := 0) rfl rfl ?_
    refine x_gR (pc := 43) (k := 0) fcX10 dX10_setLetterPrice_43 q13 (by decide) rfl (fun v8 => ?_)
    refine x_gR (pc := 46) (k := 2) fcX7 dX10_setLetterPrice_46 q28 (by decide) rfl (fun v9 => ?_)
    refine x_iload_n (pc := 49) dX10_setLetterPrice_49 (i := 1) rfl rfl ?_
    refine x_pI (pc := 50) (k := 3) fcX6 dX10_setLetterPrice_50 q227 (by decide) rfl rfl rfl rfl (fun m10 => ?_)
    refine x_iload_n (pc := 53) dX10_setLetterPrice_53 (i := 2) rfl rfl ?_
    exact x_iret rfl dX10_setLetterPrice_54 rfl rfl
theorem mX10_setLetterPrice (S : mSh) (μ : mMm) (cx cy : Nat) (o : Nat) (p0 : Int32) : mMet MX10_setLetterPrice [.ref o, .int p0] (S, μ, cx, cy) (iTI S cx cy) (fX10_setLetterPrice S μ o p0) := mMet.of rfl (by decide) rfl (fun h => by cases h) (Nat.le_of_ble_eq_true rfl) (mX.ck (fun _ => xbX10_setLetterPrice o p0))
/-! SlideMills.setRepeatPrice(I)I -/
def bX10_setRepeatPrice (S : mSh) (μ : mMm) (o : Nat) (p0 : Int32) : Option ((Int32 ⊕ Nat) × mMm) := (fX10_isBetween p0 (1 : Int32) (20 : Int32)).bind fun v1 => if v1 = 0 then (some (.inr 0, μ)) else ((gR S o 10 3).bind fun v2 => (gR S o 10 0).bind fun v3 => (fX1_push S μ v2 v3).bind fun m4 => (gR S o 10 0).bind fun v5 => (gR S v5 7 2).bind fun v6 => (gI S m4 v6 6 4).bind fun v7 => (gR S o 10 0).bind fun v8 => (gR S v8 7 2).bind fun v9 => (pI S m4 v9 6 4 p0).bind fun m10 => some (.inl v7, m10))
def fX10_setRepeatPrice (S : mSh) (μ : mMm) (o : Nat) (p0 : Int32) : Option ((Int32 ⊕ Nat) × mMm) := if mok S o 10 = true then bX10_setRepeatPrice S μ o p0 else none
abbrev MX10_setRepeatPrice : mM := ((yX10_setRepeatPrice, cX10_setRepeatPrice, 3, (some .int)), (6, 90), (false, false), RX10, eT)
theorem kX10_setRepeatPrice : mCalV MX10_setRepeatPrice RX10 1 := ⟨q229, q230, q2, q231, by decide +kernel⟩
set_option maxHeartbeats 4000000 in
theorem xbX10_setRepeatPrice {n0 c0 s0 cx cy : Nat} {S : mSh} {μ : mMm} (o : Nat) (p0 : Int32) : mX MX10_setRepeatPrice n0 c0 s0 0 [some (.ref o), some (.int p0), none] [] (S, μ, cx, cy) (iTI S cx cy) (bX10_setRepeatPrice S μ o p0) := by
  unfold bX10_setRepeatPrice
  refine x_iload_n (pc := 0) dX10_setRepeatPrice_0 (i := 1) rfl rfl ?_
  refine x_iconst (pc := 1) (v := 1) dX10_setRepeatPrice_1 (by decide) ?_
  refine x_bipush (pc := 2) (v := 20) dX10_setRepeatPrice_2 (by decide) ?_
  refine x_callSi (pc := 4) (As := [.int p0, .int (1 : Int32), .int (20 : Int32)]) (rest := []) (vx := fun a => a) (μf := fun _ => μ) (mX10_isBetween S μ cx cy p0 (1 : Int32) (20 : Int32)) (fun _ => rfl) rfl dX10_setRepeatPrice_4 q210 kX10_isBetween rfl ⟨by decide, by decide⟩ rfl (Nat.le_of_ble_eq_true rfl) (fun v1 => ?_)
  refine x_if_ne (pc := 7) (tgt := 20) dX10_setRepeatPrice_7 (by decide) ?_ ?_
  · exact x_throw rfl ⟨81, 145, 85, "price out of range", dX10_setRepeatPrice_10, dX10_setRepeatPrice_13, Or.inl ⟨dX10_setRepeatPrice_14, dX10_setRepeatPrice_16, dX10_setRepeatPrice_19⟩, rfl, q147, q148, Or.inl ⟨rfl, rfl⟩, by decide, by decide, by decide⟩ (Nat.le_of_ble_eq_true rfl)
  · refine x_aload_n (pc := 20) dX10_setRepeatPrice_20 (i := 0) rfl rfl ?_
    refine x_gR (pc := 21) (k := 3) fcX10 dX10_setRepeatPrice_21 q19 (by decide) rfl (fun v2 => ?_)
    refine x_aload_n (pc := 24) dX10_setRepeatPrice_24 (i := 0) rfl rfl ?_
    refine x_gR (pc := 25) (k := 0) fcX10 dX10_setRepeatPrice_25 q13 (by decide) rfl (fun v3 => ?_)
    refine x_callVv (pc := 28) (As := [.ref v3]) (rest := []) (μf := fun a => a) fcX1 (mX1_push S μ cx cy v2 v3) (fun _ => rfl) rfl (fun _ h => ifok h) dX10_setRepeatPrice_28 q155 kX1_push rfl ⟨by decide, by decide⟩ rfl (Nat.le_of_ble_eq_true rfl) (fun m4 => ?_)
    refine x_aload_n (pc := 31) dX10_setRepeatPrice_31 (i := 0) rfl rfl ?_
    refine x_gR (pc := 32) (k := 0) fcX10 dX10_setRepeatPrice_32 q13 (by decide) rfl (fun v5 => ?_)
    refine x_gR (pc := 35) (k := 2) fcX7 dX10_setRepeatPrice_35 q28 (by decide) rfl (fun v6 => ?_)
    refine x_gI (pc := 38) (k := 4) fcX6 dX10_setRepeatPrice_38 q232 (by decide) rfl (fun v7 => ?_)
    refine x_istore_n (pc := 41) dX10_setRepeatPrice_41 (i := 2) rfl (by decide) (l' := [some (.ref o), some (.int p0), some (.int v7)]) rfl ?_
    refine x_aload_n (pc := 42) dX10_setRepeatPrice_42 (i := 0) rfl rfl ?_
    refine x_gR (pc := 43) (k := 0) fcX10 dX10_setRepeatPrice_43 q13 (by decide) rfl (fun v8 => ?_)
    refine x_gR (pc := 46) (k := 2) fcX7 dX10_setRepeatPrice_46 q28 (by decide) rfl (fun v9 => ?_)
    refine x_iload_n (pc := 49) dX10_setRepeatPrice_49 (i := 1) rfl rfl ?_
    refine x_pI (pc := 50) (k := 4) fcX6 dX10_setRepeatPrice_50 q232 (by decide) rfl rfl rfl rfl (fun m10 => ?_)
    refine x_iload_n (pc := 53) dX10_setRepeatPrice_53 (i := 2) rfl rfl ?_
    exact x_iret rfl dX10_setRepeatPrice_54 rfl rfl
theorem mX10_setRepeatPrice (S : mSh) (μ : mMm) (cx cy : Nat) (o : Nat) (p0 : Int32) : mMet MX10_setRepeatPrice [.ref o, .int p0] (S, μ, cx, cy) (iTI S cx cy) (fX10_setRepeatPrice S μ o p0) := mMet.of rfl (by decide) rfl (fun h => by cases h) (Nat.le_of_ble_eq_true rfl) (mX.ck (fun _ => xbX10_setRepeatPrice o p0))
/-! SlideMills.isWay(I)Z -/
def fX10_isWay (p0 : Int32) : Option (Int32) := if p0 < 0 then (some (0 : Int32)) else (if (2 : Int32) < p0 then (some (0 : Int32)) else (some (1 : Int32)))
abbrev MX10_isWay : mM := ((yX10_isWay, cX10_isWay, 1, (some .boolean)), (0, 0), (false, false), RX10, eT)
theorem kX10_isWay : mCalS MX10_isWay 1 := ⟨q258, q2, q259, by decide +kernel⟩
set_option maxHeartbeats 4000000 in
theorem xbX10_isWay {n0 c0 s0 cx cy : Nat} {S : mSh} {μ : mMm} (p0 : Int32) : mX MX10_isWay n0 c0 s0 0 [some (.int p0)] [] (S, μ, cx, cy) (iPI S μ cx cy) (fX10_isWay p0) := by
  unfold fX10_isWay
  refine x_iload_n (pc := 0) dX10_isWay_0 (i := 0) rfl rfl ?_
  refine x_if_lt (pc := 1) (tgt := 13) dX10_isWay_1 (by decide) ?_ ?_
  · refine x_iconst (pc := 13) (v := 0) dX10_isWay_13 (by decide) ?_
    exact x_iret rfl dX10_isWay_14 rfl rfl
  · refine x_iload_n (pc := 4) dX10_isWay_4 (i := 0) rfl rfl ?_
    refine x_iconst (pc := 5) (v := 2) dX10_isWay_5 (by decide) ?_
    refine x_icmp_gt (pc := 6) (tgt := 13) dX10_isWay_6 (by decide) ?_ ?_
    · refine x_iconst (pc := 13) (v := 0) dX10_isWay_13 (by decide) ?_
      exact x_iret rfl dX10_isWay_14 rfl rfl
    · refine x_iconst (pc := 9) (v := 1) dX10_isWay_9 (by decide) ?_
      refine x_goto (pc := 10) (tgt := 14) dX10_isWay_10 (by decide) ?_
      exact x_iret rfl dX10_isWay_14 rfl rfl
theorem mX10_isWay (S : mSh) (μ : mMm) (cx cy : Nat) (p0 : Int32) : mMet MX10_isWay [.int p0] (S, μ, cx, cy) (iPI S μ cx cy) (fX10_isWay p0) := mMet.of rfl (by decide) rfl (fun h => by cases h) (Nat.le_of_ble_eq_true rfl) (xbX10_isWay p0)
/-! SlideMills.pack(I)I -/
def bX10_pack (S : mSh) (μ : mMm) (o : Nat) (p0 : Int32) : Option ((Int32 ⊕ Nat) × mMm) := (fX10_isWay p0).bind fun v1 => if v1 = 0 then (some (.inr 0, μ)) else ((gR S o 10 3).bind fun v2 => (gR S o 10 0).bind fun v3 => (fX1_push S μ v2 v3).bind fun m4 => (gR S o 10 6).bind fun v5 => (gR S o 10 0).bind fun v6 => (gR S v6 7 1).bind fun v7 => (fX4_packBy S m4 v5 p0 v7).bind fun m8 => (gR S o 10 0).bind fun v9 => (gR S v9 7 1).bind fun v10 => (gI S m8 v10 5 2).bind fun v11 => some (.inl v11, m8))
def fX10_pack (S : mSh) (μ : mMm) (o : Nat) (p0 : Int32) : Option ((Int32 ⊕ Nat) × mMm) := if mok S o 10 = true then bX10_pack S μ o p0 else none
abbrev MX10_pack : mM := ((yX10_pack, cX10_pack, 2, (some .int)), (6, 141), (false, false), RX10, eT)
theorem kX10_pack : mCalV MX10_pack RX10 1 := ⟨q252, q253, q2, q254, by decide +kernel⟩
set_option maxHeartbeats 4000000 in
theorem xbX10_pack {n0 c0 s0 cx cy : Nat} {S : mSh} {μ : mMm} (o : Nat) (p0 : Int32) : mX MX10_pack n0 c0 s0 0 [some (.ref o), some (.int p0)] [] (S, μ, cx, cy) (iTI S cx cy) (bX10_pack S μ o p0) := by
  unfold bX10_pack
  refine x_iload_n (pc := 0) dX10_pack_0 (i := 1) rfl rfl ?_
  refine x_callSi (pc := 1) (As := [.int p0]) (rest := []) (vx := fun a => a) (μf := fun _ => μ) (mX10_isWay S μ cx cy p0) (fun _ => rfl) rfl dX10_pack_1 q257 kX10_isWay rfl ⟨by decide, by decide⟩ rfl (Nat.le_of_ble_eq_true rfl) (fun v1 => ?_)
  refine x_if_ne (pc := 4) (tgt := 17) dX10_pack_4 (by decide) ?_ ?_
  · exact x_throw rfl ⟨81, 156, 85, "way out of range", dX10_pack_7, dX10_pack_10, Or.inl ⟨dX10_pack_11, dX10_pack_13, dX10_pack_16⟩, rfl, q147, q148, Or.inl ⟨rfl, rfl⟩, by decide, by decide, by decide⟩ (Nat.le_of_ble_eq_true rfl)
  · refine x_aload_n (pc := 17) dX10_pack_17 (i := 0) rfl rfl ?_
    refine x_gR (pc := 18) (k := 3) fcX10 dX10_pack_18 q19 (by decide) rfl (fun v2 => ?_)
    refine x_aload_n (pc := 21) dX10_pack_21 (i := 0) rfl rfl ?_
    refine x_gR (pc := 22) (k := 0) fcX10 dX10_pack_22 q13 (by decide) rfl (fun v3 => ?_)
    refine x_callVv (pc := 25) (As := [.ref v3]) (rest := []) (μf := fun a => a) fcX1 (mX1_push S μ cx cy v2 v3) (fun _ => rfl) rfl (fun _ h => ifok h) dX10_pack_25 q155 kX1_push rfl ⟨by decide, by decide⟩ rfl (Nat.le_of_ble_eq_true rfl) (fun m4 => ?_)
    refine x_aload_n (pc := 28) dX10_pack_28 (i := 0) rfl rfl ?_
    refine x_gR (pc := 29) (k := 6) fcX10 dX10_pack_29 q33 (by decide) rfl (fun v5 => ?_)
    refine x_iload_n (pc := 32) dX10_pack_32 (i := 1) rfl rfl ?_
    refine x_aload_n (pc := 33) dX10_pack_33 (i := 0) rfl rfl ?_
    refine x_gR (pc := 34) (k := 0) fcX10 dX10_pack_34 q13 (by decide) rfl (fun v6 => ?_)
    refine x_gR (pc := 37) (k := 1) fcX7 dX10_pack_37 q255 (by decide) rfl (fun v7 => ?_)
    refine x_callVv (pc := 40) (As := [.int p0, .ref v7]) (rest := []) (μf := fun a => a) fcX4 (mX4_packBy S m4 cx cy v5 p0 v7) (fun _ => rfl) rfl (fun _ h => ifok h) dX10_pack_40 q260 kX4_packBy rfl ⟨by decide, by decide⟩ rfl (Nat.le_of_ble_eq_true rfl) (fun m8 => ?_)
    refine x_aload_n (pc := 43) dX10_pack_43 (i := 0) rfl rfl ?_
    refine x_gR (pc := 44) (k := 0) fcX10 dX10_pack_44 q13 (by decide) rfl (fun v9 => ?_)
    refine x_gR (pc := 47) (k := 1) fcX7 dX10_pack_47 q255 (by decide) rfl (fun v10 => ?_)
    refine x_gI (pc := 50) (k := 2) fcX5 dX10_pack_50 q256 (by decide) rfl (fun v11 => ?_)
    exact x_iret rfl dX10_pack_53 rfl rfl
theorem mX10_pack (S : mSh) (μ : mMm) (cx cy : Nat) (o : Nat) (p0 : Int32) : mMet MX10_pack [.ref o, .int p0] (S, μ, cx, cy) (iTI S cx cy) (fX10_pack S μ o p0) := mMet.of rfl (by decide) rfl (fun h => by cases h) (Nat.le_of_ble_eq_true rfl) (mX.ck (fun _ => xbX10_pack o p0))
/-! SlideMills.unpack()I -/
def bX10_unpack (S : mSh) (μ : mMm) (o : Nat) : Option ((Int32 ⊕ Nat) × mMm) := (gR S o 10 8).bind fun v1 => (gR S o 10 0).bind fun v2 => (gR S v2 7 1).bind fun v3 => (fX8_run S μ v1 v3).bind fun m4 => (gR S o 10 8).bind fun v5 => (gI S m4 v5 8 2).bind fun v6 => if v6 = 0 then ((gR S o 10 3).bind fun v7 => (gR S o 10 0).bind fun v8 => (fX1_push S m4 v7 v8).bind fun m9 => (gR S o 10 0).bind fun v10 => (gR S v10 7 0).bind fun v11 => (gR S o 10 8).bind fun v12 => (gR S v12 8 0).bind fun v13 => (fX2_copyFrom S m9 v11 v13).bind fun m14 => (gR S o 10 0).bind fun v15 => (gR S v15 7 0).bind fun v16 => (gI S m14 v16 2 1).bind fun v17 => some (.inl v17, m14)) else (some (.inr 1, m4))
def fX10_unpack (S : mSh) (μ : mMm) (o : Nat) : Option ((Int32 ⊕ Nat) × mMm) := if mok S o 10 = true then bX10_unpack S μ o else none
abbrev MX10_unpack : mM := ((yX10_unpack, cX10_unpack, 1, (some .int)), (6, 90), (false, false), RX10, eT)
theorem kX10_unpack : mCalV MX10_unpack RX10 0 := ⟨q337, q338, q2, q339, by decide +kernel⟩
set_option maxHeartbeats 4000000 in
theorem xbX10_unpack {n0 c0 s0 cx cy : Nat} {S : mSh} {μ : mMm} (o : Nat) : mX MX10_unpack n0 c0 s0 0 [some (.ref o)] [] (S, μ, cx, cy) (iTI S cx cy) (bX10_unpack S μ o) := by
  unfold bX10_unpack
  refine x_aload_n (pc := 0) dX10_unpack_0 (i := 0) rfl rfl ?_
  refine x_gR (pc := 1) (k := 8) fcX10 dX10_unpack_1 q41 (by decide) rfl (fun v1 => ?_)
  refine x_aload_n (pc := 4) dX10_unpack_4 (i := 0) rfl rfl ?_
  refine x_gR (pc := 5) (k := 0) fcX10 dX10_unpack_5 q13 (by decide) rfl (fun v2 => ?_)
  refine x_gR (pc := 8) (k := 1) fcX7 dX10_unpack_8 q255 (by decide) rfl (fun v3 => ?_)
  refine x_callVv (pc := 11) (As := [.ref v3]) (rest := []) (μf := fun a => a) fcX8 (mX8_run S μ cx cy v1 v3) (fun _ => rfl) rfl (fun _ h => ifok h) dX10_unpack_11 q342 kX8_run rfl ⟨by decide, by decide⟩ rfl (Nat.le_of_ble_eq_true rfl) (fun m4 => ?_)
  refine x_aload_n (pc := 14) dX10_unpack_14 (i := 0) rfl rfl ?_
  refine x_gR (pc := 15) (k := 8) fcX10 dX10_unpack_15 q41 (by decide) rfl (fun v5 => ?_)
  refine x_gI (pc := 18) (k := 2) fcX8 dX10_unpack_18 q340 (by decide) rfl (fun v6 => ?_)
  refine x_if_eq (pc := 21) (tgt := 34) dX10_unpack_21 (by decide) ?_ ?_
  · refine x_aload_n (pc := 34) dX10_unpack_34 (i := 0) rfl rfl ?_
    refine x_gR (pc := 35) (k := 3) fcX10 dX10_unpack_35 q19 (by decide) rfl (fun v7 => ?_)
    refine x_aload_n (pc := 38) dX10_unpack_38 (i := 0) rfl rfl ?_
    refine x_gR (pc := 39) (k := 0) fcX10 dX10_unpack_39 q13 (by decide) rfl (fun v8 => ?_)
    refine x_callVv (pc := 42) (As := [.ref v8]) (rest := []) (μf := fun a => a) fcX1 (mX1_push S m4 cx cy v7 v8) (fun _ => rfl) rfl (fun _ h => ifok h) dX10_unpack_42 q155 kX1_push rfl ⟨by decide, by decide⟩ rfl (Nat.le_of_ble_eq_true rfl) (fun m9 => ?_)
    refine x_aload_n (pc := 45) dX10_unpack_45 (i := 0) rfl rfl ?_
    refine x_gR (pc := 46) (k := 0) fcX10 dX10_unpack_46 q13 (by decide) rfl (fun v10 => ?_)
    refine x_gR (pc := 49) (k := 0) fcX7 dX10_unpack_49 q27 (by decide) rfl (fun v11 => ?_)
    refine x_aload_n (pc := 52) dX10_unpack_52 (i := 0) rfl rfl ?_
    refine x_gR (pc := 53) (k := 8) fcX10 dX10_unpack_53 q41 (by decide) rfl (fun v12 => ?_)
    refine x_gR (pc := 56) (k := 0) fcX8 dX10_unpack_56 q341 (by decide) rfl (fun v13 => ?_)
    refine x_callVv (pc := 59) (As := [.ref v13]) (rest := []) (μf := fun a => a) fcX2 (mX2_copyFrom S m9 cx cy v11 v13) (fun _ => rfl) rfl (fun _ h => ifok h) dX10_unpack_59 q368 kX2_copyFrom rfl ⟨by decide, by decide⟩ rfl (Nat.le_of_ble_eq_true rfl) (fun m14 => ?_)
    refine x_aload_n (pc := 62) dX10_unpack_62 (i := 0) rfl rfl ?_
    refine x_gR (pc := 63) (k := 0) fcX10 dX10_unpack_63 q13 (by decide) rfl (fun v15 => ?_)
    refine x_gR (pc := 66) (k := 0) fcX7 dX10_unpack_66 q27 (by decide) rfl (fun v16 => ?_)
    refine x_gI (pc := 69) (k := 1) fcX2 dX10_unpack_69 q151 (by decide) rfl (fun v17 => ?_)
    exact x_iret rfl dX10_unpack_72 rfl rfl
  · exact x_throw rfl ⟨94, 173, 98, "a token is wrong", dX10_unpack_24, dX10_unpack_27, Or.inl ⟨dX10_unpack_28, dX10_unpack_30, dX10_unpack_33⟩, rfl, q149, q150, Or.inr (Or.inl ⟨rfl, rfl⟩), by decide, by decide, by decide⟩ (Nat.le_of_ble_eq_true rfl)
theorem mX10_unpack (S : mSh) (μ : mMm) (cx cy : Nat) (o : Nat) : mMet MX10_unpack [.ref o] (S, μ, cx, cy) (iTI S cx cy) (fX10_unpack S μ o) := mMet.of rfl (by decide) rfl (fun h => by cases h) (Nat.le_of_ble_eq_true rfl) (mX.ck (fun _ => xbX10_unpack o))
/-! SlideMills.addToken(I)I -/
def bX10_addToken (S : mSh) (μ : mMm) (o : Nat) (p0 : Int32) : Option ((Int32 ⊕ Nat) × mMm) := (fX10_isLetter p0).bind fun v1 => if v1 = 0 then (some (.inr 0, μ)) else ((gR S o 10 0).bind fun v2 => (gR S v2 7 1).bind fun v3 => (fX5_isFull S μ v3).bind fun v4 => if v4 = 0 then ((gR S o 10 3).bind fun v5 => (gR S o 10 0).bind fun v6 => (fX1_push S μ v5 v6).bind fun m7 => (gR S o 10 0).bind fun v8 => (gR S v8 7 1).bind fun v9 => (fX5_put S m7 v9 (0 : Int32) p0).bind fun m10 => (gR S o 10 0).bind fun v11 => (gR S v11 7 1).bind fun v12 => (gI S m10 v12 5 2).bind fun v13 => some (.inl v13, m10)) else (some (.inr 1, μ)))
def fX10_addToken (S : mSh) (μ : mMm) (o : Nat) (p0 : Int32) : Option ((Int32 ⊕ Nat) × mMm) := if mok S o 10 = true then bX10_addToken S μ o p0 else none
abbrev MX10_addToken : mM := ((yX10_addToken, cX10_addToken, 2, (some .int)), (6, 90), (false, false), RX10, eT)
theorem kX10_addToken : mCalV MX10_addToken RX10 1 := ⟨q373, q374, q2, q375, by decide +kernel⟩
set_option maxHeartbeats 4000000 in
theorem xbX10_addToken {n0 c0 s0 cx cy : Nat} {S : mSh} {μ : mMm} (o : Nat) (p0 : Int32) : mX MX10_addToken n0 c0 s0 0 [some (.ref o), some (.int p0)] [] (S, μ, cx, cy) (iTI S cx cy) (bX10_addToken S μ o p0) := by
  unfold bX10_addToken
  refine x_iload_n (pc := 0) dX10_addToken_0 (i := 1) rfl rfl ?_
  refine x_callSi (pc := 1) (As := [.int p0]) (rest := []) (vx := fun a => a) (μf := fun _ => μ) (mX10_isLetter S μ cx cy p0) (fun _ => rfl) rfl dX10_addToken_1 q152 kX10_isLetter rfl ⟨by decide, by decide⟩ rfl (Nat.le_of_ble_eq_true rfl) (fun v1 => ?_)
  refine x_if_ne (pc := 4) (tgt := 17) dX10_addToken_4 (by decide) ?_ ?_
  · exact x_throw rfl ⟨81, 83, 85, "letter out of range", dX10_addToken_7, dX10_addToken_10, Or.inl ⟨dX10_addToken_11, dX10_addToken_13, dX10_addToken_16⟩, rfl, q147, q148, Or.inl ⟨rfl, rfl⟩, by decide, by decide, by decide⟩ (Nat.le_of_ble_eq_true rfl)
  · refine x_aload_n (pc := 17) dX10_addToken_17 (i := 0) rfl rfl ?_
    refine x_gR (pc := 18) (k := 0) fcX10 dX10_addToken_18 q13 (by decide) rfl (fun v2 => ?_)
    refine x_gR (pc := 21) (k := 1) fcX7 dX10_addToken_21 q255 (by decide) rfl (fun v3 => ?_)
    refine x_callVi (pc := 24) (As := []) (rest := []) (vx := fun a => a) (μf := fun _ => μ) fcX5 (mX5_isFull S μ cx cy v3) (fun _ => rfl) rfl (fun _ h => ifok h) dX10_addToken_24 q376 kX5_isFull rfl ⟨by decide, by decide⟩ rfl (Nat.le_of_ble_eq_true rfl) (fun v4 => ?_)
    refine x_if_eq (pc := 27) (tgt := 40) dX10_addToken_27 (by decide) ?_ ?_
    · refine x_aload_n (pc := 40) dX10_addToken_40 (i := 0) rfl rfl ?_
      refine x_gR (pc := 41) (k := 3) fcX10 dX10_addToken_41 q19 (by decide) rfl (fun v5 => ?_)
      refine x_aload_n (pc := 44) dX10_addToken_44 (i := 0) rfl rfl ?_
      refine x_gR (pc := 45) (k := 0) fcX10 dX10_addToken_45 q13 (by decide) rfl (fun v6 => ?_)
      refine x_callVv (pc := 48) (As := [.ref v6]) (rest := []) (μf := fun a => a) fcX1 (mX1_push S μ cx cy v5 v6) (fun _ => rfl) rfl (fun _ h => ifok h) dX10_addToken_48 q155 kX1_push rfl ⟨by decide, by decide⟩ rfl (Nat.le_of_ble_eq_true rfl) (fun m7 => ?_)
      refine x_aload_n (pc := 51) dX10_addToken_51 (i := 0) rfl rfl ?_
      refine x_gR (pc := 52) (k := 0) fcX10 dX10_addToken_52 q13 (by decide) rfl (fun v8 => ?_)
      refine x_gR (pc := 55) (k := 1) fcX7 dX10_addToken_55 q255 (by decide) rfl (fun v9 => ?_)
      refine x_iconst (pc := 58) (v := 0) dX10_addToken_58 (by decide) ?_
      refine x_iload_n (pc := 59) dX10_addToken_59 (i := 1) rfl rfl ?_
      refine x_callVv (pc := 60) (As := [.int (0 : Int32), .int p0]) (rest := []) (μf := fun a => a) fcX5 (mX5_put S m7 cx cy v9 (0 : Int32) p0) (fun _ => rfl) rfl (fun _ h => ifok h) dX10_addToken_60 q380 kX5_put rfl ⟨by decide, by decide⟩ rfl (Nat.le_of_ble_eq_true rfl) (fun m10 => ?_)
      refine x_aload_n (pc := 63) dX10_addToken_63 (i := 0) rfl rfl ?_
      refine x_gR (pc := 64) (k := 0) fcX10 dX10_addToken_64 q13 (by decide) rfl (fun v11 => ?_)
      refine x_gR (pc := 67) (k := 1) fcX7 dX10_addToken_67 q255 (by decide) rfl (fun v12 => ?_)
      refine x_gI (pc := 70) (k := 2) fcX5 dX10_addToken_70 q256 (by decide) rfl (fun v13 => ?_)
      exact x_iret rfl dX10_addToken_73 rfl rfl
    · exact x_throw rfl ⟨94, 186, 98, "the sack is full", dX10_addToken_30, dX10_addToken_33, Or.inl ⟨dX10_addToken_34, dX10_addToken_36, dX10_addToken_39⟩, rfl, q149, q150, Or.inr (Or.inl ⟨rfl, rfl⟩), by decide, by decide, by decide⟩ (Nat.le_of_ble_eq_true rfl)
theorem mX10_addToken (S : mSh) (μ : mMm) (cx cy : Nat) (o : Nat) (p0 : Int32) : mMet MX10_addToken [.ref o, .int p0] (S, μ, cx, cy) (iTI S cx cy) (fX10_addToken S μ o p0) := mMet.of rfl (by decide) rfl (fun h => by cases h) (Nat.le_of_ble_eq_true rfl) (mX.ck (fun _ => xbX10_addToken o p0))
/-! SlideMills.addRepeat(II)I -/
def lX10_addRepeat_20 (S : mSh) (μ : mMm) : Option ((Int32 ⊕ Nat) × mMm) := some (.inr 0, μ)
def bX10_addRepeat (S : mSh) (μ : mMm) (o : Nat) (p0 : Int32) (p1 : Int32) : Option ((Int32 ⊕ Nat) × mMm) := (fX10_isBetween p0 (1 : Int32) (39 : Int32)).bind fun v1 => if v1 = 0 then (lX10_addRepeat_20 S μ) else ((fX10_isBetween p1 (1 : Int32) (40 : Int32)).bind fun v2 => if v2 = 0 then (lX10_addRepeat_20 S μ) else ((gR S o 10 0).bind fun v3 => (gR S v3 7 1).bind fun v4 => (fX5_isFull S μ v4).bind fun v5 => if v5 = 0 then ((gR S o 10 3).bind fun v6 => (gR S o 10 0).bind fun v7 => (fX1_push S μ v6 v7).bind fun m8 => (gR S o 10 0).bind fun v9 => (gR S v9 7 1).bind fun v10 => (fX5_put S m8 v10 p0 p1).bind fun m11 => (gR S o 10 0).bind fun v12 => (gR S v12 7 1).bind fun v13 => (gI S m11 v13 5 2).bind fun v14 => some (.inl v14, m11)) else (some (.inr 1, μ))))
def fX10_addRepeat (S : mSh) (μ : mMm) (o : Nat) (p0 : Int32) (p1 : Int32) : Option ((Int32 ⊕ Nat) × mMm) := if mok S o 10 = true then bX10_addRepeat S μ o p0 p1 else none
abbrev MX10_addRepeat : mM := ((yX10_addRepeat, cX10_addRepeat, 3, (some .int)), (6, 90), (false, false), RX10, eT)
theorem kX10_addRepeat : mCalV MX10_addRepeat RX10 2 := ⟨q382, q383, q2, q384, by decide +kernel⟩
set_option maxHeartbeats 4000000 in
theorem xX10_addRepeat_20 {n0 c0 s0 cx cy : Nat} {S : mSh} (μ : mMm)  (d0 : Option Value) (d1 : Option Value) (d2 : Option Value) : mX MX10_addRepeat n0 c0 s0 20 [d0, d1, d2] [] (S, μ, cx, cy) (iTI S cx cy) (lX10_addRepeat_20 S μ) := by
  unfold lX10_addRepeat_20
  exact x_throw rfl ⟨81, 190, 85, "distance or length out of range", dX10_addRepeat_20, dX10_addRepeat_23, Or.inl ⟨dX10_addRepeat_24, dX10_addRepeat_26, dX10_addRepeat_29⟩, rfl, q147, q148, Or.inl ⟨rfl, rfl⟩, by decide, by decide, by decide⟩ (Nat.le_of_ble_eq_true rfl)
set_option maxHeartbeats 4000000 in
theorem xbX10_addRepeat {n0 c0 s0 cx cy : Nat} {S : mSh} {μ : mMm} (o : Nat) (p0 : Int32) (p1 : Int32) : mX MX10_addRepeat n0 c0 s0 0 [some (.ref o), some (.int p0), some (.int p1)] [] (S, μ, cx, cy) (iTI S cx cy) (bX10_addRepeat S μ o p0 p1) := by
  unfold bX10_addRepeat
  refine x_iload_n (pc := 0) dX10_addRepeat_0 (i := 1) rfl rfl ?_
  refine x_iconst (pc := 1) (v := 1) dX10_addRepeat_1 (by decide) ?_
  refine x_bipush (pc := 2) (v := 39) dX10_addRepeat_2 (by decide) ?_
  refine x_callSi (pc := 4) (As := [.int p0, .int (1 : Int32), .int (39 : Int32)]) (rest := []) (vx := fun a => a) (μf := fun _ => μ) (mX10_isBetween S μ cx cy p0 (1 : Int32) (39 : Int32)) (fun _ => rfl) rfl dX10_addRepeat_4 q210 kX10_isBetween rfl ⟨by decide, by decide⟩ rfl (Nat.le_of_ble_eq_true rfl) (fun v1 => ?_)
  refine x_if_eq (pc := 7) (tgt := 20) dX10_addRepeat_7 (by decide) ?_ ?_
  · exact xX10_addRepeat_20 μ _ _ _
  · refine x_iload_n (pc := 10) dX10_addRepeat_10 (i := 2) rfl rfl ?_
    refine x_iconst (pc := 11) (v := 1) dX10_addRepeat_11 (by decide) ?_
    refine x_bipush (pc := 12) (v := 40) dX10_addRepeat_12 (by decide) ?_
    refine x_callSi (pc := 14) (As := [.int p1, .int (1 : Int32), .int (40 : Int32)]) (rest := []) (vx := fun a => a) (μf := fun _ => μ) (mX10_isBetween S μ cx cy p1 (1 : Int32) (40 : Int32)) (fun _ => rfl) rfl dX10_addRepeat_14 q210 kX10_isBetween rfl ⟨by decide, by decide⟩ rfl (Nat.le_of_ble_eq_true rfl) (fun v2 => ?_)
    refine x_if_ne (pc := 17) (tgt := 30) dX10_addRepeat_17 (by decide) ?_ ?_
    · exact xX10_addRepeat_20 μ _ _ _
    · refine x_aload_n (pc := 30) dX10_addRepeat_30 (i := 0) rfl rfl ?_
      refine x_gR (pc := 31) (k := 0) fcX10 dX10_addRepeat_31 q13 (by decide) rfl (fun v3 => ?_)
      refine x_gR (pc := 34) (k := 1) fcX7 dX10_addRepeat_34 q255 (by decide) rfl (fun v4 => ?_)
      refine x_callVi (pc := 37) (As := []) (rest := []) (vx := fun a => a) (μf := fun _ => μ) fcX5 (mX5_isFull S μ cx cy v4) (fun _ => rfl) rfl (fun _ h => ifok h) dX10_addRepeat_37 q376 kX5_isFull rfl ⟨by decide, by decide⟩ rfl (Nat.le_of_ble_eq_true rfl) (fun v5 => ?_)
      refine x_if_eq (pc := 40) (tgt := 53) dX10_addRepeat_40 (by decide) ?_ ?_
      · refine x_aload_n (pc := 53) dX10_addRepeat_53 (i := 0) rfl rfl ?_
        refine x_gR (pc := 54) (k := 3) fcX10 dX10_addRepeat_54 q19 (by decide) rfl (fun v6 => ?_)
        refine x_aload_n (pc := 57) dX10_addRepeat_57 (i := 0) rfl rfl ?_
        refine x_gR (pc := 58) (k := 0) fcX10 dX10_addRepeat_58 q13 (by decide) rfl (fun v7 => ?_)
        refine x_callVv (pc := 61) (As := [.ref v7]) (rest := []) (μf := fun a => a) fcX1 (mX1_push S μ cx cy v6 v7) (fun _ => rfl) rfl (fun _ h => ifok h) dX10_addRepeat_61 q155 kX1_push rfl ⟨by decide, by decide⟩ rfl (Nat.le_of_ble_eq_true rfl) (fun m8 => ?_)
        refine x_aload_n (pc := 64) dX10_addRepeat_64 (i := 0) rfl rfl ?_
        refine x_gR (pc := 65) (k := 0) fcX10 dX10_addRepeat_65 q13 (by decide) rfl (fun v9 => ?_)
        refine x_gR (pc := 68) (k := 1) fcX7 dX10_addRepeat_68 q255 (by decide) rfl (fun v10 => ?_)
        refine x_iload_n (pc := 71) dX10_addRepeat_71 (i := 1) rfl rfl ?_
        refine x_iload_n (pc := 72) dX10_addRepeat_72 (i := 2) rfl rfl ?_
        refine x_callVv (pc := 73) (As := [.int p0, .int p1]) (rest := []) (μf := fun a => a) fcX5 (mX5_put S m8 cx cy v10 p0 p1) (fun _ => rfl) rfl (fun _ h => ifok h) dX10_addRepeat_73 q380 kX5_put rfl ⟨by decide, by decide⟩ rfl (Nat.le_of_ble_eq_true rfl) (fun m11 => ?_)
        refine x_aload_n (pc := 76) dX10_addRepeat_76 (i := 0) rfl rfl ?_
        refine x_gR (pc := 77) (k := 0) fcX10 dX10_addRepeat_77 q13 (by decide) rfl (fun v12 => ?_)
        refine x_gR (pc := 80) (k := 1) fcX7 dX10_addRepeat_80 q255 (by decide) rfl (fun v13 => ?_)
        refine x_gI (pc := 83) (k := 2) fcX5 dX10_addRepeat_83 q256 (by decide) rfl (fun v14 => ?_)
        exact x_iret rfl dX10_addRepeat_86 rfl rfl
      · exact x_throw rfl ⟨94, 186, 98, "the sack is full", dX10_addRepeat_43, dX10_addRepeat_46, Or.inl ⟨dX10_addRepeat_47, dX10_addRepeat_49, dX10_addRepeat_52⟩, rfl, q149, q150, Or.inr (Or.inl ⟨rfl, rfl⟩), by decide, by decide, by decide⟩ (Nat.le_of_ble_eq_true rfl)
theorem mX10_addRepeat (S : mSh) (μ : mMm) (cx cy : Nat) (o : Nat) (p0 : Int32) (p1 : Int32) : mMet MX10_addRepeat [.ref o, .int p0, .int p1] (S, μ, cx, cy) (iTI S cx cy) (fX10_addRepeat S μ o p0 p1) := mMet.of rfl (by decide) rfl (fun h => by cases h) (Nat.le_of_ble_eq_true rfl) (mX.ck (fun _ => xbX10_addRepeat o p0 p1))
/-! SlideMills.takeLast()I -/
def bX10_takeLast (S : mSh) (μ : mMm) (o : Nat) : Option ((Int32 ⊕ Nat) × mMm) := (gR S o 10 0).bind fun v1 => (gR S v1 7 1).bind fun v2 => (gI S μ v2 5 2).bind fun v3 => if 0 < v3 then ((gR S o 10 3).bind fun v4 => (gR S o 10 0).bind fun v5 => (fX1_push S μ v4 v5).bind fun m6 => (gR S o 10 0).bind fun v7 => (gR S v7 7 1).bind fun v8 => (gI S m6 v8 5 2).bind fun v9 => (pI S m6 v8 5 2 (v9 - (1 : Int32))).bind fun m10 => (gR S o 10 0).bind fun v11 => (gR S v11 7 1).bind fun v12 => (gI S m10 v12 5 2).bind fun v13 => some (.inl v13, m10)) else (some (.inr 1, μ))
def fX10_takeLast (S : mSh) (μ : mMm) (o : Nat) : Option ((Int32 ⊕ Nat) × mMm) := if mok S o 10 = true then bX10_takeLast S μ o else none
abbrev MX10_takeLast : mM := ((yX10_takeLast, cX10_takeLast, 1, (some .int)), (6, 90), (false, false), RX10, eT)
theorem kX10_takeLast : mCalV MX10_takeLast RX10 0 := ⟨q389, q390, q2, q391, by decide +kernel⟩
set_option maxHeartbeats 4000000 in
theorem xbX10_takeLast {n0 c0 s0 cx cy : Nat} {S : mSh} {μ : mMm} (o : Nat) : mX MX10_takeLast n0 c0 s0 0 [some (.ref o)] [] (S, μ, cx, cy) (iTI S cx cy) (bX10_takeLast S μ o) := by
  unfold bX10_takeLast
  refine x_aload_n (pc := 0) dX10_takeLast_0 (i := 0) rfl rfl ?_
  refine x_gR (pc := 1) (k := 0) fcX10 dX10_takeLast_1 q13 (by decide) rfl (fun v1 => ?_)
  refine x_gR (pc := 4) (k := 1) fcX7 dX10_takeLast_4 q255 (by decide) rfl (fun v2 => ?_)
  refine x_gI (pc := 7) (k := 2) fcX5 dX10_takeLast_7 q256 (by decide) rfl (fun v3 => ?_)
  refine x_if_gt (pc := 10) (tgt := 23) dX10_takeLast_10 (by decide) ?_ ?_
  · refine x_aload_n (pc := 23) dX10_takeLast_23 (i := 0) rfl rfl ?_
    refine x_gR (pc := 24) (k := 3) fcX10 dX10_takeLast_24 q19 (by decide) rfl (fun v4 => ?_)
    refine x_aload_n (pc := 27) dX10_takeLast_27 (i := 0) rfl rfl ?_
    refine x_gR (pc := 28) (k := 0) fcX10 dX10_takeLast_28 q13 (by decide) rfl (fun v5 => ?_)
    refine x_callVv (pc := 31) (As := [.ref v5]) (rest := []) (μf := fun a => a) fcX1 (mX1_push S μ cx cy v4 v5) (fun _ => rfl) rfl (fun _ h => ifok h) dX10_takeLast_31 q155 kX1_push rfl ⟨by decide, by decide⟩ rfl (Nat.le_of_ble_eq_true rfl) (fun m6 => ?_)
    refine x_aload_n (pc := 34) dX10_takeLast_34 (i := 0) rfl rfl ?_
    refine x_gR (pc := 35) (k := 0) fcX10 dX10_takeLast_35 q13 (by decide) rfl (fun v7 => ?_)
    refine x_gR (pc := 38) (k := 1) fcX7 dX10_takeLast_38 q255 (by decide) rfl (fun v8 => ?_)
    refine x_dup (pc := 41) dX10_takeLast_41 rfl ?_
    refine x_gI (pc := 42) (k := 2) fcX5 dX10_takeLast_42 q256 (by decide) rfl (fun v9 => ?_)
    refine x_iconst (pc := 45) (v := 1) dX10_takeLast_45 (by decide) ?_
    refine x_isub (pc := 46) dX10_takeLast_46 ?_
    refine x_pI (pc := 47) (k := 2) fcX5 dX10_takeLast_47 q256 (by decide) rfl rfl rfl rfl (fun m10 => ?_)
    refine x_aload_n (pc := 50) dX10_takeLast_50 (i := 0) rfl rfl ?_
    refine x_gR (pc := 51) (k := 0) fcX10 dX10_takeLast_51 q13 (by decide) rfl (fun v11 => ?_)
    refine x_gR (pc := 54) (k := 1) fcX7 dX10_takeLast_54 q255 (by decide) rfl (fun v12 => ?_)
    refine x_gI (pc := 57) (k := 2) fcX5 dX10_takeLast_57 q256 (by decide) rfl (fun v13 => ?_)
    exact x_iret rfl dX10_takeLast_60 rfl rfl
  · exact x_throw rfl ⟨94, 192, 98, "the sack is empty", dX10_takeLast_13, dX10_takeLast_16, Or.inl ⟨dX10_takeLast_17, dX10_takeLast_19, dX10_takeLast_22⟩, rfl, q149, q150, Or.inr (Or.inl ⟨rfl, rfl⟩), by decide, by decide, by decide⟩ (Nat.le_of_ble_eq_true rfl)
theorem mX10_takeLast (S : mSh) (μ : mMm) (cx cy : Nat) (o : Nat) : mMet MX10_takeLast [.ref o] (S, μ, cx, cy) (iTI S cx cy) (fX10_takeLast S μ o) := mMet.of rfl (by decide) rfl (fun h => by cases h) (Nat.le_of_ble_eq_true rfl) (mX.ck (fun _ => xbX10_takeLast o))
/-! SlideMills.emptySack()I -/
def bX10_emptySack (S : mSh) (μ : mMm) (o : Nat) : Option (Int32 × mMm) := (gR S o 10 3).bind fun v1 => (gR S o 10 0).bind fun v2 => (fX1_push S μ v1 v2).bind fun m3 => (gR S o 10 0).bind fun v4 => (gR S v4 7 1).bind fun v5 => (gI S m3 v5 5 2).bind fun v6 => (gR S o 10 0).bind fun v7 => (gR S v7 7 1).bind fun v8 => (fX5_clear S m3 v8).bind fun m9 => some (v6, m9)
def fX10_emptySack (S : mSh) (μ : mMm) (o : Nat) : Option (Int32 × mMm) := if mok S o 10 = true then bX10_emptySack S μ o else none
abbrev MX10_emptySack : mM := ((yX10_emptySack, cX10_emptySack, 2, (some .int)), (4, 85), (false, false), RX10, eT)
theorem kX10_emptySack : mCalV MX10_emptySack RX10 0 := ⟨q393, q394, q2, q395, by decide +kernel⟩
set_option maxHeartbeats 4000000 in
theorem xbX10_emptySack {n0 c0 s0 cx cy : Nat} {S : mSh} {μ : mMm} (o : Nat) : mX MX10_emptySack n0 c0 s0 0 [some (.ref o), none] [] (S, μ, cx, cy) (iMI S cx cy) (bX10_emptySack S μ o) := by
  unfold bX10_emptySack
  refine x_aload_n (pc := 0) dX10_emptySack_0 (i := 0) rfl rfl ?_
  refine x_gR (pc := 1) (k := 3) fcX10 dX10_emptySack_1 q19 (by decide) rfl (fun v1 => ?_)
  refine x_aload_n (pc := 4) dX10_emptySack_4 (i := 0) rfl rfl ?_
  refine x_gR (pc := 5) (k := 0) fcX10 dX10_emptySack_5 q13 (by decide) rfl (fun v2 => ?_)
  refine x_callVv (pc := 8) (As := [.ref v2]) (rest := []) (μf := fun a => a) fcX1 (mX1_push S μ cx cy v1 v2) (fun _ => rfl) rfl (fun _ h => ifok h) dX10_emptySack_8 q155 kX1_push rfl ⟨by decide, by decide⟩ rfl (Nat.le_of_ble_eq_true rfl) (fun m3 => ?_)
  refine x_aload_n (pc := 11) dX10_emptySack_11 (i := 0) rfl rfl ?_
  refine x_gR (pc := 12) (k := 0) fcX10 dX10_emptySack_12 q13 (by decide) rfl (fun v4 => ?_)
  refine x_gR (pc := 15) (k := 1) fcX7 dX10_emptySack_15 q255 (by decide) rfl (fun v5 => ?_)
  refine x_gI (pc := 18) (k := 2) fcX5 dX10_emptySack_18 q256 (by decide) rfl (fun v6 => ?_)
  refine x_istore_n (pc := 21) dX10_emptySack_21 (i := 1) rfl (by decide) (l' := [some (.ref o), some (.int v6)]) rfl ?_
  refine x_aload_n (pc := 22) dX10_emptySack_22 (i := 0) rfl rfl ?_
  refine x_gR (pc := 23) (k := 0) fcX10 dX10_emptySack_23 q13 (by decide) rfl (fun v7 => ?_)
  refine x_gR (pc := 26) (k := 1) fcX7 dX10_emptySack_26 q255 (by decide) rfl (fun v8 => ?_)
  refine x_callVv (pc := 29) (As := []) (rest := []) (μf := fun a => a) fcX5 (mX5_clear S m3 cx cy v8) (fun _ => rfl) rfl (fun _ h => ifok h) dX10_emptySack_29 q396 kX5_clear rfl ⟨by decide, by decide⟩ rfl (Nat.le_of_ble_eq_true rfl) (fun m9 => ?_)
  refine x_iload_n (pc := 32) dX10_emptySack_32 (i := 1) rfl rfl ?_
  exact x_iret rfl dX10_emptySack_33 rfl rfl
theorem mX10_emptySack (S : mSh) (μ : mMm) (cx cy : Nat) (o : Nat) : mMet MX10_emptySack [.ref o] (S, μ, cx, cy) (iMI S cx cy) (fX10_emptySack S μ o) := mMet.of rfl (by decide) rfl (fun h => by cases h) (Nat.le_of_ble_eq_true rfl) (mX.ck (fun _ => xbX10_emptySack o))
/-! SlideMills.textLength()I -/
def bX10_textLength (S : mSh) (μ : mMm) (o : Nat) : Option (Int32) := (gR S o 10 0).bind fun v1 => (gR S v1 7 0).bind fun v2 => (gI S μ v2 2 1).bind fun v3 => some v3
def fX10_textLength (S : mSh) (μ : mMm) (o : Nat) : Option (Int32) := if mok S o 10 = true then bX10_textLength S μ o else none
abbrev MX10_textLength : mM := ((yX10_textLength, cX10_textLength, 1, (some .int)), (0, 0), (false, false), RX10, eT)
theorem kX10_textLength : mCalV MX10_textLength RX10 0 := ⟨q533, q534, q2, q535, by decide +kernel⟩
set_option maxHeartbeats 4000000 in
theorem xbX10_textLength {n0 c0 s0 cx cy : Nat} {S : mSh} {μ : mMm} (o : Nat) : mX MX10_textLength n0 c0 s0 0 [some (.ref o)] [] (S, μ, cx, cy) (iPI S μ cx cy) (bX10_textLength S μ o) := by
  unfold bX10_textLength
  refine x_aload_n (pc := 0) dX10_textLength_0 (i := 0) rfl rfl ?_
  refine x_gR (pc := 1) (k := 0) fcX10 dX10_textLength_1 q13 (by decide) rfl (fun v1 => ?_)
  refine x_gR (pc := 4) (k := 0) fcX7 dX10_textLength_4 q27 (by decide) rfl (fun v2 => ?_)
  refine x_gI (pc := 7) (k := 1) fcX2 dX10_textLength_7 q151 (by decide) rfl (fun v3 => ?_)
  exact x_iret rfl dX10_textLength_10 rfl rfl
theorem mX10_textLength (S : mSh) (μ : mMm) (cx cy : Nat) (o : Nat) : mMet MX10_textLength [.ref o] (S, μ, cx, cy) (iPI S μ cx cy) (fX10_textLength S μ o) := mMet.of rfl (by decide) rfl (fun h => by cases h) (Nat.le_of_ble_eq_true rfl) (mX.ck (fun _ => xbX10_textLength o))
/-! SlideMills.letterAt(I)I -/
def bX10_letterAt (S : mSh) (μ : mMm) (o : Nat) (p0 : Int32) : Option (Int32 ⊕ Nat) := (gR S o 10 0).bind fun v1 => (gR S v1 7 0).bind fun v2 => (fX2_has S μ v2 p0).bind fun v3 => if v3 = 0 then (some (.inr 2)) else ((gR S o 10 0).bind fun v4 => (gR S v4 7 0).bind fun v5 => (fX2_get S μ v5 p0).bind fun v6 => some (.inl v6))
def fX10_letterAt (S : mSh) (μ : mMm) (o : Nat) (p0 : Int32) : Option (Int32 ⊕ Nat) := if mok S o 10 = true then bX10_letterAt S μ o p0 else none
abbrev MX10_letterAt : mM := ((yX10_letterAt, cX10_letterAt, 2, (some .int)), (6, 90), (false, false), RX10, eT)
theorem kX10_letterAt : mCalV MX10_letterAt RX10 1 := ⟨q477, q478, q2, q479, by decide +kernel⟩
set_option maxHeartbeats 4000000 in
theorem xbX10_letterAt {n0 c0 s0 cx cy : Nat} {S : mSh} {μ : mMm} (o : Nat) (p0 : Int32) : mX MX10_letterAt n0 c0 s0 0 [some (.ref o), some (.int p0)] [] (S, μ, cx, cy) (iQI S μ cx cy) (bX10_letterAt S μ o p0) := by
  unfold bX10_letterAt
  refine x_aload_n (pc := 0) dX10_letterAt_0 (i := 0) rfl rfl ?_
  refine x_gR (pc := 1) (k := 0) fcX10 dX10_letterAt_1 q13 (by decide) rfl (fun v1 => ?_)
  refine x_gR (pc := 4) (k := 0) fcX7 dX10_letterAt_4 q27 (by decide) rfl (fun v2 => ?_)
  refine x_iload_n (pc := 7) dX10_letterAt_7 (i := 1) rfl rfl ?_
  refine x_callVi (pc := 8) (As := [.int p0]) (rest := []) (vx := fun a => a) (μf := fun _ => μ) fcX2 (mX2_has S μ cx cy v2 p0) (fun _ => rfl) rfl (fun _ h => ifok h) dX10_letterAt_8 q193 kX2_has rfl ⟨by decide, by decide⟩ rfl (Nat.le_of_ble_eq_true rfl) (fun v3 => ?_)
  refine x_if_ne (pc := 11) (tgt := 24) dX10_letterAt_11 (by decide) ?_ ?_
  · exact x_throw rfl ⟨110, 112, 114, "no such place", dX10_letterAt_14, dX10_letterAt_17, Or.inl ⟨dX10_letterAt_18, dX10_letterAt_20, dX10_letterAt_23⟩, rfl, q191, q192, Or.inr (Or.inr ⟨rfl, rfl⟩), by decide, by decide, by decide⟩ (Nat.le_of_ble_eq_true rfl)
  · refine x_aload_n (pc := 24) dX10_letterAt_24 (i := 0) rfl rfl ?_
    refine x_gR (pc := 25) (k := 0) fcX10 dX10_letterAt_25 q13 (by decide) rfl (fun v4 => ?_)
    refine x_gR (pc := 28) (k := 0) fcX7 dX10_letterAt_28 q27 (by decide) rfl (fun v5 => ?_)
    refine x_iload_n (pc := 31) dX10_letterAt_31 (i := 1) rfl rfl ?_
    refine x_callVi (pc := 32) (As := [.int p0]) (rest := []) (vx := fun a => a) (μf := fun _ => μ) fcX2 (mX2_get S μ cx cy v5 p0) (fun _ => rfl) rfl (fun _ h => ifok h) dX10_letterAt_32 q197 kX2_get rfl ⟨by decide, by decide⟩ rfl (Nat.le_of_ble_eq_true rfl) (fun v6 => ?_)
    exact x_iret rfl dX10_letterAt_35 rfl rfl
theorem mX10_letterAt (S : mSh) (μ : mMm) (cx cy : Nat) (o : Nat) (p0 : Int32) : mMet MX10_letterAt [.ref o, .int p0] (S, μ, cx, cy) (iQI S μ cx cy) (fX10_letterAt S μ o p0) := mMet.of rfl (by decide) rfl (fun h => by cases h) (Nat.le_of_ble_eq_true rfl) (mX.ck (fun _ => xbX10_letterAt o p0))
/-! SlideMills.window()I -/
def bX10_window (S : mSh) (μ : mMm) (o : Nat) : Option (Int32) := (gR S o 10 0).bind fun v1 => (gR S v1 7 2).bind fun v2 => (gI S μ v2 6 0).bind fun v3 => some v3
def fX10_window (S : mSh) (μ : mMm) (o : Nat) : Option (Int32) := if mok S o 10 = true then bX10_window S μ o else none
abbrev MX10_window : mM := ((yX10_window, cX10_window, 1, (some .int)), (0, 0), (false, false), RX10, eT)
theorem kX10_window : mCalV MX10_window RX10 0 := ⟨q537, q538, q2, q539, by decide +kernel⟩
set_option maxHeartbeats 4000000 in
theorem xbX10_window {n0 c0 s0 cx cy : Nat} {S : mSh} {μ : mMm} (o : Nat) : mX MX10_window n0 c0 s0 0 [some (.ref o)] [] (S, μ, cx, cy) (iPI S μ cx cy) (bX10_window S μ o) := by
  unfold bX10_window
  refine x_aload_n (pc := 0) dX10_window_0 (i := 0) rfl rfl ?_
  refine x_gR (pc := 1) (k := 0) fcX10 dX10_window_1 q13 (by decide) rfl (fun v1 => ?_)
  refine x_gR (pc := 4) (k := 2) fcX7 dX10_window_4 q28 (by decide) rfl (fun v2 => ?_)
  refine x_gI (pc := 7) (k := 0) fcX6 dX10_window_7 q209 (by decide) rfl (fun v3 => ?_)
  exact x_iret rfl dX10_window_10 rfl rfl
theorem mX10_window (S : mSh) (μ : mMm) (cx cy : Nat) (o : Nat) : mMet MX10_window [.ref o] (S, μ, cx, cy) (iPI S μ cx cy) (fX10_window S μ o) := mMet.of rfl (by decide) rfl (fun h => by cases h) (Nat.le_of_ble_eq_true rfl) (mX.ck (fun _ => xbX10_window o))
/-! SlideMills.shortest()I -/
def bX10_shortest (S : mSh) (μ : mMm) (o : Nat) : Option (Int32) := (gR S o 10 0).bind fun v1 => (gR S v1 7 2).bind fun v2 => (gI S μ v2 6 1).bind fun v3 => some v3
def fX10_shortest (S : mSh) (μ : mMm) (o : Nat) : Option (Int32) := if mok S o 10 = true then bX10_shortest S μ o else none
abbrev MX10_shortest : mM := ((yX10_shortest, cX10_shortest, 1, (some .int)), (0, 0), (false, false), RX10, eT)
theorem kX10_shortest : mCalV MX10_shortest RX10 0 := ⟨q541, q542, q2, q543, by decide +kernel⟩
set_option maxHeartbeats 4000000 in
theorem xbX10_shortest {n0 c0 s0 cx cy : Nat} {S : mSh} {μ : mMm} (o : Nat) : mX MX10_shortest n0 c0 s0 0 [some (.ref o)] [] (S, μ, cx, cy) (iPI S μ cx cy) (bX10_shortest S μ o) := by
  unfold bX10_shortest
  refine x_aload_n (pc := 0) dX10_shortest_0 (i := 0) rfl rfl ?_
  refine x_gR (pc := 1) (k := 0) fcX10 dX10_shortest_1 q13 (by decide) rfl (fun v1 => ?_)
  refine x_gR (pc := 4) (k := 2) fcX7 dX10_shortest_4 q28 (by decide) rfl (fun v2 => ?_)
  refine x_gI (pc := 7) (k := 1) fcX6 dX10_shortest_7 q217 (by decide) rfl (fun v3 => ?_)
  exact x_iret rfl dX10_shortest_10 rfl rfl
theorem mX10_shortest (S : mSh) (μ : mMm) (cx cy : Nat) (o : Nat) : mMet MX10_shortest [.ref o] (S, μ, cx, cy) (iPI S μ cx cy) (fX10_shortest S μ o) := mMet.of rfl (by decide) rfl (fun h => by cases h) (Nat.le_of_ble_eq_true rfl) (mX.ck (fun _ => xbX10_shortest o))
/-! SlideMills.longest()I -/
def bX10_longest (S : mSh) (μ : mMm) (o : Nat) : Option (Int32) := (gR S o 10 0).bind fun v1 => (gR S v1 7 2).bind fun v2 => (gI S μ v2 6 2).bind fun v3 => some v3
def fX10_longest (S : mSh) (μ : mMm) (o : Nat) : Option (Int32) := if mok S o 10 = true then bX10_longest S μ o else none
abbrev MX10_longest : mM := ((yX10_longest, cX10_longest, 1, (some .int)), (0, 0), (false, false), RX10, eT)
theorem kX10_longest : mCalV MX10_longest RX10 0 := ⟨q545, q546, q2, q547, by decide +kernel⟩
set_option maxHeartbeats 4000000 in
theorem xbX10_longest {n0 c0 s0 cx cy : Nat} {S : mSh} {μ : mMm} (o : Nat) : mX MX10_longest n0 c0 s0 0 [some (.ref o)] [] (S, μ, cx, cy) (iPI S μ cx cy) (bX10_longest S μ o) := by
  unfold bX10_longest
  refine x_aload_n (pc := 0) dX10_longest_0 (i := 0) rfl rfl ?_
  refine x_gR (pc := 1) (k := 0) fcX10 dX10_longest_1 q13 (by decide) rfl (fun v1 => ?_)
  refine x_gR (pc := 4) (k := 2) fcX7 dX10_longest_4 q28 (by decide) rfl (fun v2 => ?_)
  refine x_gI (pc := 7) (k := 2) fcX6 dX10_longest_7 q222 (by decide) rfl (fun v3 => ?_)
  exact x_iret rfl dX10_longest_10 rfl rfl
theorem mX10_longest (S : mSh) (μ : mMm) (cx cy : Nat) (o : Nat) : mMet MX10_longest [.ref o] (S, μ, cx, cy) (iPI S μ cx cy) (fX10_longest S μ o) := mMet.of rfl (by decide) rfl (fun h => by cases h) (Nat.le_of_ble_eq_true rfl) (mX.ck (fun _ => xbX10_longest o))
/-! SlideMills.tokens()I -/
def bX10_tokens (S : mSh) (μ : mMm) (o : Nat) : Option (Int32) := (gR S o 10 0).bind fun v1 => (gR S v1 7 1).bind fun v2 => (gI S μ v2 5 2).bind fun v3 => some v3
def fX10_tokens (S : mSh) (μ : mMm) (o : Nat) : Option (Int32) := if mok S o 10 = true then bX10_tokens S μ o else none
abbrev MX10_tokens : mM := ((yX10_tokens, cX10_tokens, 1, (some .int)), (0, 0), (false, false), RX10, eT)
theorem kX10_tokens : mCalV MX10_tokens RX10 0 := ⟨q429, q430, q2, q431, by decide +kernel⟩
set_option maxHeartbeats 4000000 in
theorem xbX10_tokens {n0 c0 s0 cx cy : Nat} {S : mSh} {μ : mMm} (o : Nat) : mX MX10_tokens n0 c0 s0 0 [some (.ref o)] [] (S, μ, cx, cy) (iPI S μ cx cy) (bX10_tokens S μ o) := by
  unfold bX10_tokens
  refine x_aload_n (pc := 0) dX10_tokens_0 (i := 0) rfl rfl ?_
  refine x_gR (pc := 1) (k := 0) fcX10 dX10_tokens_1 q13 (by decide) rfl (fun v1 => ?_)
  refine x_gR (pc := 4) (k := 1) fcX7 dX10_tokens_4 q255 (by decide) rfl (fun v2 => ?_)
  refine x_gI (pc := 7) (k := 2) fcX5 dX10_tokens_7 q256 (by decide) rfl (fun v3 => ?_)
  exact x_iret rfl dX10_tokens_10 rfl rfl
theorem mX10_tokens (S : mSh) (μ : mMm) (cx cy : Nat) (o : Nat) : mMet MX10_tokens [.ref o] (S, μ, cx, cy) (iPI S μ cx cy) (fX10_tokens S μ o) := mMet.of rfl (by decide) rfl (fun h => by cases h) (Nat.le_of_ble_eq_true rfl) (mX.ck (fun _ => xbX10_tokens o))
/-! SlideMills.isRepeat(I)Z -/
def bX10_isRepeat (S : mSh) (μ : mMm) (o : Nat) (p0 : Int32) : Option (Int32 ⊕ Nat) := (gR S o 10 0).bind fun v1 => (gR S v1 7 1).bind fun v2 => (fX5_has S μ v2 p0).bind fun v3 => if v3 = 0 then (some (.inr 2)) else ((gR S o 10 0).bind fun v4 => (gR S v4 7 1).bind fun v5 => (fX5_distance S μ v5 p0).bind fun v6 => if v6 = 0 then (some (.inl (0 : Int32))) else (some (.inl (1 : Int32))))
def fX10_isRepeat (S : mSh) (μ : mMm) (o : Nat) (p0 : Int32) : Option (Int32 ⊕ Nat) := if mok S o 10 = true then bX10_isRepeat S μ o p0 else none
abbrev MX10_isRepeat : mM := ((yX10_isRepeat, cX10_isRepeat, 2, (some .boolean)), (6, 90), (false, false), RX10, eT)
theorem kX10_isRepeat : mCalV MX10_isRepeat RX10 1 := ⟨q406, q407, q2, q408, by decide +kernel⟩
set_option maxHeartbeats 4000000 in
theorem xbX10_isRepeat {n0 c0 s0 cx cy : Nat} {S : mSh} {μ : mMm} (o : Nat) (p0 : Int32) : mX MX10_isRepeat n0 c0 s0 0 [some (.ref o), some (.int p0)] [] (S, μ, cx, cy) (iQI S μ cx cy) (bX10_isRepeat S μ o p0) := by
  unfold bX10_isRepeat
  refine x_aload_n (pc := 0) dX10_isRepeat_0 (i := 0) rfl rfl ?_
  refine x_gR (pc := 1) (k := 0) fcX10 dX10_isRepeat_1 q13 (by decide) rfl (fun v1 => ?_)
  refine x_gR (pc := 4) (k := 1) fcX7 dX10_isRepeat_4 q255 (by decide) rfl (fun v2 => ?_)
  refine x_iload_n (pc := 7) dX10_isRepeat_7 (i := 1) rfl rfl ?_
  refine x_callVi (pc := 8) (As := [.int p0]) (rest := []) (vx := fun a => a) (μf := fun _ => μ) fcX5 (mX5_has S μ cx cy v2 p0) (fun _ => rfl) rfl (fun _ h => ifok h) dX10_isRepeat_8 q409 kX5_has rfl ⟨by decide, by decide⟩ rfl (Nat.le_of_ble_eq_true rfl) (fun v3 => ?_)
  refine x_if_ne (pc := 11) (tgt := 24) dX10_isRepeat_11 (by decide) ?_ ?_
  · exact x_throw rfl ⟨110, 236, 114, "no such token", dX10_isRepeat_14, dX10_isRepeat_17, Or.inl ⟨dX10_isRepeat_18, dX10_isRepeat_20, dX10_isRepeat_23⟩, rfl, q191, q192, Or.inr (Or.inr ⟨rfl, rfl⟩), by decide, by decide, by decide⟩ (Nat.le_of_ble_eq_true rfl)
  · refine x_aload_n (pc := 24) dX10_isRepeat_24 (i := 0) rfl rfl ?_
    refine x_gR (pc := 25) (k := 0) fcX10 dX10_isRepeat_25 q13 (by decide) rfl (fun v4 => ?_)
    refine x_gR (pc := 28) (k := 1) fcX7 dX10_isRepeat_28 q255 (by decide) rfl (fun v5 => ?_)
    refine x_iload_n (pc := 31) dX10_isRepeat_31 (i := 1) rfl rfl ?_
    refine x_callVi (pc := 32) (As := [.int p0]) (rest := []) (vx := fun a => a) (μf := fun _ => μ) fcX5 (mX5_distance S μ cx cy v5 p0) (fun _ => rfl) rfl (fun _ h => ifok h) dX10_isRepeat_32 q413 kX5_distance rfl ⟨by decide, by decide⟩ rfl (Nat.le_of_ble_eq_true rfl) (fun v6 => ?_)
    refine x_if_eq (pc := 35) (tgt := 42) dX10_isRepeat_35 (by decide) ?_ ?_
    · refine x_iconst (pc := 42) (v := 0) dX10_isRepeat_42 (by decide) ?_
      exact x_iret rfl dX10_isRepeat_43 rfl rfl
    · refine x_iconst (pc := 38) (v := 1) dX10_isRepeat_38 (by decide) ?_
      refine x_goto (pc := 39) (tgt := 43) dX10_isRepeat_39 (by decide) ?_
      exact x_iret rfl dX10_isRepeat_43 rfl rfl
theorem mX10_isRepeat (S : mSh) (μ : mMm) (cx cy : Nat) (o : Nat) (p0 : Int32) : mMet MX10_isRepeat [.ref o, .int p0] (S, μ, cx, cy) (iQI S μ cx cy) (fX10_isRepeat S μ o p0) := mMet.of rfl (by decide) rfl (fun h => by cases h) (Nat.le_of_ble_eq_true rfl) (mX.ck (fun _ => xbX10_isRepeat o p0))
/-! SlideMills.letterOf(I)I -/
def bX10_letterOf (S : mSh) (μ : mMm) (o : Nat) (p0 : Int32) : Option (Int32 ⊕ Nat) := (gR S o 10 0).bind fun v1 => (gR S v1 7 1).bind fun v2 => (fX5_has S μ v2 p0).bind fun v3 => if v3 = 0 then (some (.inr 2)) else ((gR S o 10 0).bind fun v4 => (gR S v4 7 1).bind fun v5 => (fX5_distance S μ v5 p0).bind fun v6 => if v6 = 0 then ((gR S o 10 0).bind fun v7 => (gR S v7 7 1).bind fun v8 => (fX5_value S μ v8 p0).bind fun v9 => some (.inl v9)) else (some (.inr 1)))
def fX10_letterOf (S : mSh) (μ : mMm) (o : Nat) (p0 : Int32) : Option (Int32 ⊕ Nat) := if mok S o 10 = true then bX10_letterOf S μ o p0 else none
abbrev MX10_letterOf : mM := ((yX10_letterOf, cX10_letterOf, 2, (some .int)), (6, 90), (false, false), RX10, eT)
theorem kX10_letterOf : mCalV MX10_letterOf RX10 1 := ⟨q420, q421, q2, q422, by decide +kernel⟩
set_option maxHeartbeats 4000000 in
theorem xbX10_letterOf {n0 c0 s0 cx cy : Nat} {S : mSh} {μ : mMm} (o : Nat) (p0 : Int32) : mX MX10_letterOf n0 c0 s0 0 [some (.ref o), some (.int p0)] [] (S, μ, cx, cy) (iQI S μ cx cy) (bX10_letterOf S μ o p0) := by
  unfold bX10_letterOf
  refine x_aload_n (pc := 0) dX10_letterOf_0 (i := 0) rfl rfl ?_
  refine x_gR (pc := 1) (k := 0) fcX10 dX10_letterOf_1 q13 (by decide) rfl (fun v1 => ?_)
  refine x_gR (pc := 4) (k := 1) fcX7 dX10_letterOf_4 q255 (by decide) rfl (fun v2 => ?_)
  refine x_iload_n (pc := 7) dX10_letterOf_7 (i := 1) rfl rfl ?_
  refine x_callVi (pc := 8) (As := [.int p0]) (rest := []) (vx := fun a => a) (μf := fun _ => μ) fcX5 (mX5_has S μ cx cy v2 p0) (fun _ => rfl) rfl (fun _ h => ifok h) dX10_letterOf_8 q409 kX5_has rfl ⟨by decide, by decide⟩ rfl (Nat.le_of_ble_eq_true rfl) (fun v3 => ?_)
  refine x_if_ne (pc := 11) (tgt := 24) dX10_letterOf_11 (by decide) ?_ ?_
  · exact x_throw rfl ⟨110, 236, 114, "no such token", dX10_letterOf_14, dX10_letterOf_17, Or.inl ⟨dX10_letterOf_18, dX10_letterOf_20, dX10_letterOf_23⟩, rfl, q191, q192, Or.inr (Or.inr ⟨rfl, rfl⟩), by decide, by decide, by decide⟩ (Nat.le_of_ble_eq_true rfl)
  · refine x_aload_n (pc := 24) dX10_letterOf_24 (i := 0) rfl rfl ?_
    refine x_gR (pc := 25) (k := 0) fcX10 dX10_letterOf_25 q13 (by decide) rfl (fun v4 => ?_)
    refine x_gR (pc := 28) (k := 1) fcX7 dX10_letterOf_28 q255 (by decide) rfl (fun v5 => ?_)
    refine x_iload_n (pc := 31) dX10_letterOf_31 (i := 1) rfl rfl ?_
    refine x_callVi (pc := 32) (As := [.int p0]) (rest := []) (vx := fun a => a) (μf := fun _ => μ) fcX5 (mX5_distance S μ cx cy v5 p0) (fun _ => rfl) rfl (fun _ h => ifok h) dX10_letterOf_32 q413 kX5_distance rfl ⟨by decide, by decide⟩ rfl (Nat.le_of_ble_eq_true rfl) (fun v6 => ?_)
    refine x_if_eq (pc := 35) (tgt := 48) dX10_letterOf_35 (by decide) ?_ ?_
    · refine x_aload_n (pc := 48) dX10_letterOf_48 (i := 0) rfl rfl ?_
      refine x_gR (pc := 49) (k := 0) fcX10 dX10_letterOf_49 q13 (by decide) rfl (fun v7 => ?_)
      refine x_gR (pc := 52) (k := 1) fcX7 dX10_letterOf_52 q255 (by decide) rfl (fun v8 => ?_)
      refine x_iload_n (pc := 55) dX10_letterOf_55 (i := 1) rfl rfl ?_
      refine x_callVi (pc := 56) (As := [.int p0]) (rest := []) (vx := fun a => a) (μf := fun _ => μ) fcX5 (mX5_value S μ cx cy v8 p0) (fun _ => rfl) rfl (fun _ h => ifok h) dX10_letterOf_56 q423 kX5_value rfl ⟨by decide, by decide⟩ rfl (Nat.le_of_ble_eq_true rfl) (fun v9 => ?_)
      exact x_iret rfl dX10_letterOf_59 rfl rfl
    · exact x_throw rfl ⟨94, 241, 98, "it is a repeat", dX10_letterOf_38, dX10_letterOf_41, Or.inl ⟨dX10_letterOf_42, dX10_letterOf_44, dX10_letterOf_47⟩, rfl, q149, q150, Or.inr (Or.inl ⟨rfl, rfl⟩), by decide, by decide, by decide⟩ (Nat.le_of_ble_eq_true rfl)
theorem mX10_letterOf (S : mSh) (μ : mMm) (cx cy : Nat) (o : Nat) (p0 : Int32) : mMet MX10_letterOf [.ref o, .int p0] (S, μ, cx, cy) (iQI S μ cx cy) (fX10_letterOf S μ o p0) := mMet.of rfl (by decide) rfl (fun h => by cases h) (Nat.le_of_ble_eq_true rfl) (mX.ck (fun _ => xbX10_letterOf o p0))
/-! SlideMills.distanceOf(I)I -/
def bX10_distanceOf (S : mSh) (μ : mMm) (o : Nat) (p0 : Int32) : Option (Int32 ⊕ Nat) := (gR S o 10 0).bind fun v1 => (gR S v1 7 1).bind fun v2 => (fX5_has S μ v2 p0).bind fun v3 => if v3 = 0 then (some (.inr 2)) else ((gR S o 10 0).bind fun v4 => (gR S v4 7 1).bind fun v5 => (fX5_distance S μ v5 p0).bind fun v6 => if v6 = 0 then (some (.inr 1)) else ((gR S o 10 0).bind fun v7 => (gR S v7 7 1).bind fun v8 => (fX5_distance S μ v8 p0).bind fun v9 => some (.inl v9)))
def fX10_distanceOf (S : mSh) (μ : mMm) (o : Nat) (p0 : Int32) : Option (Int32 ⊕ Nat) := if mok S o 10 = true then bX10_distanceOf S μ o p0 else none
abbrev MX10_distanceOf : mM := ((yX10_distanceOf, cX10_distanceOf, 2, (some .int)), (6, 90), (false, false), RX10, eT)
theorem kX10_distanceOf : mCalV MX10_distanceOf RX10 1 := ⟨q425, q426, q2, q427, by decide +kernel⟩
set_option maxHeartbeats 4000000 in
theorem xbX10_distanceOf {n0 c0 s0 cx cy : Nat} {S : mSh} {μ : mMm} (o : Nat) (p0 : Int32) : mX MX10_distanceOf n0 c0 s0 0 [some (.ref o), some (.int p0)] [] (S, μ, cx, cy) (iQI S μ cx cy) (bX10_distanceOf S μ o p0) := by
  unfold bX10_distanceOf
  refine x_aload_n (pc := 0) dX10_distanceOf_0 (i := 0) rfl rfl ?_
  refine x_gR (pc := 1) (k := 0) fcX10 dX10_distanceOf_1 q13 (by decide) rfl (fun v1 => ?_)
  refine x_gR (pc := 4) (k := 1) fcX7 dX10_distanceOf_4 q255 (by decide) rfl (fun v2 => ?_)
  refine x_iload_n (pc := 7) dX10_distanceOf_7 (i := 1) rfl rfl ?_
  refine x_callVi (pc := 8) (As := [.int p0]) (rest := []) (vx := fun a => a) (μf := fun _ => μ) fcX5 (mX5_has S μ cx cy v2 p0) (fun _ => rfl) rfl (fun _ h => ifok h) dX10_distanceOf_8 q409 kX5_has rfl ⟨by decide, by decide⟩ rfl (Nat.le_of_ble_eq_true rfl) (fun v3 => ?_)
  refine x_if_ne (pc := 11) (tgt := 24) dX10_distanceOf_11 (by decide) ?_ ?_
  · exact x_throw rfl ⟨110, 236, 114, "no such token", dX10_distanceOf_14, dX10_distanceOf_17, Or.inl ⟨dX10_distanceOf_18, dX10_distanceOf_20, dX10_distanceOf_23⟩, rfl, q191, q192, Or.inr (Or.inr ⟨rfl, rfl⟩), by decide, by decide, by decide⟩ (Nat.le_of_ble_eq_true rfl)
  · refine x_aload_n (pc := 24) dX10_distanceOf_24 (i := 0) rfl rfl ?_
    refine x_gR (pc := 25) (k := 0) fcX10 dX10_distanceOf_25 q13 (by decide) rfl (fun v4 => ?_)
    refine x_gR (pc := 28) (k := 1) fcX7 dX10_distanceOf_28 q255 (by decide) rfl (fun v5 => ?_)
    refine x_iload_n (pc := 31) dX10_distanceOf_31 (i := 1) rfl rfl ?_
    refine x_callVi (pc := 32) (As := [.int p0]) (rest := []) (vx := fun a => a) (μf := fun _ => μ) fcX5 (mX5_distance S μ cx cy v5 p0) (fun _ => rfl) rfl (fun _ h => ifok h) dX10_distanceOf_32 q413 kX5_distance rfl ⟨by decide, by decide⟩ rfl (Nat.le_of_ble_eq_true rfl) (fun v6 => ?_)
    refine x_if_ne (pc := 35) (tgt := 48) dX10_distanceOf_35 (by decide) ?_ ?_
    · exact x_throw rfl ⟨94, 246, 98, "it is a letter", dX10_distanceOf_38, dX10_distanceOf_41, Or.inl ⟨dX10_distanceOf_42, dX10_distanceOf_44, dX10_distanceOf_47⟩, rfl, q149, q150, Or.inr (Or.inl ⟨rfl, rfl⟩), by decide, by decide, by decide⟩ (Nat.le_of_ble_eq_true rfl)
    · refine x_aload_n (pc := 48) dX10_distanceOf_48 (i := 0) rfl rfl ?_
      refine x_gR (pc := 49) (k := 0) fcX10 dX10_distanceOf_49 q13 (by decide) rfl (fun v7 => ?_)
      refine x_gR (pc := 52) (k := 1) fcX7 dX10_distanceOf_52 q255 (by decide) rfl (fun v8 => ?_)
      refine x_iload_n (pc := 55) dX10_distanceOf_55 (i := 1) rfl rfl ?_
      refine x_callVi (pc := 56) (As := [.int p0]) (rest := []) (vx := fun a => a) (μf := fun _ => μ) fcX5 (mX5_distance S μ cx cy v8 p0) (fun _ => rfl) rfl (fun _ h => ifok h) dX10_distanceOf_56 q413 kX5_distance rfl ⟨by decide, by decide⟩ rfl (Nat.le_of_ble_eq_true rfl) (fun v9 => ?_)
      exact x_iret rfl dX10_distanceOf_59 rfl rfl
theorem mX10_distanceOf (S : mSh) (μ : mMm) (cx cy : Nat) (o : Nat) (p0 : Int32) : mMet MX10_distanceOf [.ref o, .int p0] (S, μ, cx, cy) (iQI S μ cx cy) (fX10_distanceOf S μ o p0) := mMet.of rfl (by decide) rfl (fun h => by cases h) (Nat.le_of_ble_eq_true rfl) (mX.ck (fun _ => xbX10_distanceOf o p0))
/-! SlideMills.lengthOf(I)I -/
def bX10_lengthOf (S : mSh) (μ : mMm) (o : Nat) (p0 : Int32) : Option (Int32 ⊕ Nat) := (gR S o 10 0).bind fun v1 => (gR S v1 7 1).bind fun v2 => (fX5_has S μ v2 p0).bind fun v3 => if v3 = 0 then (some (.inr 2)) else ((gR S o 10 0).bind fun v4 => (gR S v4 7 1).bind fun v5 => (fX5_length S μ v5 p0).bind fun v6 => some (.inl v6))
def fX10_lengthOf (S : mSh) (μ : mMm) (o : Nat) (p0 : Int32) : Option (Int32 ⊕ Nat) := if mok S o 10 = true then bX10_lengthOf S μ o p0 else none
abbrev MX10_lengthOf : mM := ((yX10_lengthOf, cX10_lengthOf, 2, (some .int)), (6, 90), (false, false), RX10, eT)
theorem kX10_lengthOf : mCalV MX10_lengthOf RX10 1 := ⟨q415, q416, q2, q417, by decide +kernel⟩
set_option maxHeartbeats 4000000 in
theorem xbX10_lengthOf {n0 c0 s0 cx cy : Nat} {S : mSh} {μ : mMm} (o : Nat) (p0 : Int32) : mX MX10_lengthOf n0 c0 s0 0 [some (.ref o), some (.int p0)] [] (S, μ, cx, cy) (iQI S μ cx cy) (bX10_lengthOf S μ o p0) := by
  unfold bX10_lengthOf
  refine x_aload_n (pc := 0) dX10_lengthOf_0 (i := 0) rfl rfl ?_
  refine x_gR (pc := 1) (k := 0) fcX10 dX10_lengthOf_1 q13 (by decide) rfl (fun v1 => ?_)
  refine x_gR (pc := 4) (k := 1) fcX7 dX10_lengthOf_4 q255 (by decide) rfl (fun v2 => ?_)
  refine x_iload_n (pc := 7) dX10_lengthOf_7 (i := 1) rfl rfl ?_
  refine x_callVi (pc := 8) (As := [.int p0]) (rest := []) (vx := fun a => a) (μf := fun _ => μ) fcX5 (mX5_has S μ cx cy v2 p0) (fun _ => rfl) rfl (fun _ h => ifok h) dX10_lengthOf_8 q409 kX5_has rfl ⟨by decide, by decide⟩ rfl (Nat.le_of_ble_eq_true rfl) (fun v3 => ?_)
  refine x_if_ne (pc := 11) (tgt := 24) dX10_lengthOf_11 (by decide) ?_ ?_
  · exact x_throw rfl ⟨110, 236, 114, "no such token", dX10_lengthOf_14, dX10_lengthOf_17, Or.inl ⟨dX10_lengthOf_18, dX10_lengthOf_20, dX10_lengthOf_23⟩, rfl, q191, q192, Or.inr (Or.inr ⟨rfl, rfl⟩), by decide, by decide, by decide⟩ (Nat.le_of_ble_eq_true rfl)
  · refine x_aload_n (pc := 24) dX10_lengthOf_24 (i := 0) rfl rfl ?_
    refine x_gR (pc := 25) (k := 0) fcX10 dX10_lengthOf_25 q13 (by decide) rfl (fun v4 => ?_)
    refine x_gR (pc := 28) (k := 1) fcX7 dX10_lengthOf_28 q255 (by decide) rfl (fun v5 => ?_)
    refine x_iload_n (pc := 31) dX10_lengthOf_31 (i := 1) rfl rfl ?_
    refine x_callVi (pc := 32) (As := [.int p0]) (rest := []) (vx := fun a => a) (μf := fun _ => μ) fcX5 (mX5_length S μ cx cy v5 p0) (fun _ => rfl) rfl (fun _ h => ifok h) dX10_lengthOf_32 q418 kX5_length rfl ⟨by decide, by decide⟩ rfl (Nat.le_of_ble_eq_true rfl) (fun v6 => ?_)
    exact x_iret rfl dX10_lengthOf_35 rfl rfl
theorem mX10_lengthOf (S : mSh) (μ : mMm) (cx cy : Nat) (o : Nat) (p0 : Int32) : mMet MX10_lengthOf [.ref o, .int p0] (S, μ, cx, cy) (iQI S μ cx cy) (fX10_lengthOf S μ o p0) := mMet.of rfl (by decide) rfl (fun h => by cases h) (Nat.le_of_ble_eq_true rfl) (mX.ck (fun _ => xbX10_lengthOf o p0))
/-! SlideMills.sackCost()I -/
def bX10_sackCost (S : mSh) (μ : mMm) (o : Nat) : Option (Int32) := (gR S o 10 0).bind fun v1 => (gR S v1 7 1).bind fun v2 => (gR S o 10 0).bind fun v3 => (gR S v3 7 2).bind fun v4 => (fX5_cost S μ v2 v4).bind fun v5 => some v5
def fX10_sackCost (S : mSh) (μ : mMm) (o : Nat) : Option (Int32) := if mok S o 10 = true then bX10_sackCost S μ o else none
abbrev MX10_sackCost : mM := ((yX10_sackCost, cX10_sackCost, 1, (some .int)), (2, 44), (false, false), RX10, eT)
theorem kX10_sackCost : mCalV MX10_sackCost RX10 0 := ⟨q433, q434, q2, q435, by decide +kernel⟩
set_option maxHeartbeats 4000000 in
theorem xbX10_sackCost {n0 c0 s0 cx cy : Nat} {S : mSh} {μ : mMm} (o : Nat) : mX MX10_sackCost n0 c0 s0 0 [some (.ref o)] [] (S, μ, cx, cy) (iPI S μ cx cy) (bX10_sackCost S μ o) := by
  unfold bX10_sackCost
  refine x_aload_n (pc := 0) dX10_sackCost_0 (i := 0) rfl rfl ?_
  refine x_gR (pc := 1) (k := 0) fcX10 dX10_sackCost_1 q13 (by decide) rfl (fun v1 => ?_)
  refine x_gR (pc := 4) (k := 1) fcX7 dX10_sackCost_4 q255 (by decide) rfl (fun v2 => ?_)
  refine x_aload_n (pc := 7) dX10_sackCost_7 (i := 0) rfl rfl ?_
  refine x_gR (pc := 8) (k := 0) fcX10 dX10_sackCost_8 q13 (by decide) rfl (fun v3 => ?_)
  refine x_gR (pc := 11) (k := 2) fcX7 dX10_sackCost_11 q28 (by decide) rfl (fun v4 => ?_)
  refine x_callVi (pc := 14) (As := [.ref v4]) (rest := []) (vx := fun a => a) (μf := fun _ => μ) fcX5 (mX5_cost S μ cx cy v2 v4) (fun _ => rfl) rfl (fun _ h => ifok h) dX10_sackCost_14 q436 kX5_cost rfl ⟨by decide, by decide⟩ rfl (Nat.le_of_ble_eq_true rfl) (fun v5 => ?_)
  exact x_iret rfl dX10_sackCost_17 rfl rfl
theorem mX10_sackCost (S : mSh) (μ : mMm) (cx cy : Nat) (o : Nat) : mMet MX10_sackCost [.ref o] (S, μ, cx, cy) (iPI S μ cx cy) (fX10_sackCost S μ o) := mMet.of rfl (by decide) rfl (fun h => by cases h) (Nat.le_of_ble_eq_true rfl) (mX.ck (fun _ => xbX10_sackCost o))
/-! SlideMills.sackLetters()I -/
def bX10_sackLetters (S : mSh) (μ : mMm) (o : Nat) : Option (Int32) := (gR S o 10 0).bind fun v1 => (gR S v1 7 1).bind fun v2 => (fX5_letters S μ v2).bind fun v3 => some v3
def fX10_sackLetters (S : mSh) (μ : mMm) (o : Nat) : Option (Int32) := if mok S o 10 = true then bX10_sackLetters S μ o else none
abbrev MX10_sackLetters : mM := ((yX10_sackLetters, cX10_sackLetters, 1, (some .int)), (3, 64), (false, false), RX10, eT)
theorem kX10_sackLetters : mCalV MX10_sackLetters RX10 0 := ⟨q443, q444, q2, q445, by decide +kernel⟩
set_option maxHeartbeats 4000000 in
theorem xbX10_sackLetters {n0 c0 s0 cx cy : Nat} {S : mSh} {μ : mMm} (o : Nat) : mX MX10_sackLetters n0 c0 s0 0 [some (.ref o)] [] (S, μ, cx, cy) (iPI S μ cx cy) (bX10_sackLetters S μ o) := by
  unfold bX10_sackLetters
  refine x_aload_n (pc := 0) dX10_sackLetters_0 (i := 0) rfl rfl ?_
  refine x_gR (pc := 1) (k := 0) fcX10 dX10_sackLetters_1 q13 (by decide) rfl (fun v1 => ?_)
  refine x_gR (pc := 4) (k := 1) fcX7 dX10_sackLetters_4 q255 (by decide) rfl (fun v2 => ?_)
  refine x_callVi (pc := 7) (As := []) (rest := []) (vx := fun a => a) (μf := fun _ => μ) fcX5 (mX5_letters S μ cx cy v2) (fun _ => rfl) rfl (fun _ h => ifok h) dX10_sackLetters_7 q446 kX5_letters rfl ⟨by decide, by decide⟩ rfl (Nat.le_of_ble_eq_true rfl) (fun v3 => ?_)
  exact x_iret rfl dX10_sackLetters_10 rfl rfl
theorem mX10_sackLetters (S : mSh) (μ : mMm) (cx cy : Nat) (o : Nat) : mMet MX10_sackLetters [.ref o] (S, μ, cx, cy) (iPI S μ cx cy) (fX10_sackLetters S μ o) := mMet.of rfl (by decide) rfl (fun h => by cases h) (Nat.le_of_ble_eq_true rfl) (mX.ck (fun _ => xbX10_sackLetters o))
/-! SlideMills.wrongToken()I -/
def bX10_wrongToken (S : mSh) (μ : mMm) (o : Nat) : Option (Int32 × mMm) := (gR S o 10 8).bind fun v1 => (gR S o 10 0).bind fun v2 => (gR S v2 7 1).bind fun v3 => (fX8_run S μ v1 v3).bind fun m4 => (gR S o 10 8).bind fun v5 => (gI S m4 v5 8 1).bind fun v6 => some (v6, m4)
def fX10_wrongToken (S : mSh) (μ : mMm) (o : Nat) : Option (Int32 × mMm) := if mok S o 10 = true then bX10_wrongToken S μ o else none
abbrev MX10_wrongToken : mM := ((yX10_wrongToken, cX10_wrongToken, 1, (some .int)), (4, 89), (false, false), RX10, eT)
theorem kX10_wrongToken : mCalV MX10_wrongToken RX10 0 := ⟨q461, q462, q2, q463, by decide +kernel⟩
set_option maxHeartbeats 4000000 in
theorem xbX10_wrongToken {n0 c0 s0 cx cy : Nat} {S : mSh} {μ : mMm} (o : Nat) : mX MX10_wrongToken n0 c0 s0 0 [some (.ref o)] [] (S, μ, cx, cy) (iMI S cx cy) (bX10_wrongToken S μ o) := by
  unfold bX10_wrongToken
  refine x_aload_n (pc := 0) dX10_wrongToken_0 (i := 0) rfl rfl ?_
  refine x_gR (pc := 1) (k := 8) fcX10 dX10_wrongToken_1 q41 (by decide) rfl (fun v1 => ?_)
  refine x_aload_n (pc := 4) dX10_wrongToken_4 (i := 0) rfl rfl ?_
  refine x_gR (pc := 5) (k := 0) fcX10 dX10_wrongToken_5 q13 (by decide) rfl (fun v2 => ?_)
  refine x_gR (pc := 8) (k := 1) fcX7 dX10_wrongToken_8 q255 (by decide) rfl (fun v3 => ?_)
  refine x_callVv (pc := 11) (As := [.ref v3]) (rest := []) (μf := fun a => a) fcX8 (mX8_run S μ cx cy v1 v3) (fun _ => rfl) rfl (fun _ h => ifok h) dX10_wrongToken_11 q342 kX8_run rfl ⟨by decide, by decide⟩ rfl (Nat.le_of_ble_eq_true rfl) (fun m4 => ?_)
  refine x_aload_n (pc := 14) dX10_wrongToken_14 (i := 0) rfl rfl ?_
  refine x_gR (pc := 15) (k := 8) fcX10 dX10_wrongToken_15 q41 (by decide) rfl (fun v5 => ?_)
  refine x_gI (pc := 18) (k := 1) fcX8 dX10_wrongToken_18 q464 (by decide) rfl (fun v6 => ?_)
  exact x_iret rfl dX10_wrongToken_21 rfl rfl
theorem mX10_wrongToken (S : mSh) (μ : mMm) (cx cy : Nat) (o : Nat) : mMet MX10_wrongToken [.ref o] (S, μ, cx, cy) (iMI S cx cy) (fX10_wrongToken S μ o) := mMet.of rfl (by decide) rfl (fun h => by cases h) (Nat.le_of_ble_eq_true rfl) (mX.ck (fun _ => xbX10_wrongToken o))
/-! SlideMills.wrongReason()I -/
def bX10_wrongReason (S : mSh) (μ : mMm) (o : Nat) : Option (Int32 × mMm) := (gR S o 10 8).bind fun v1 => (gR S o 10 0).bind fun v2 => (gR S v2 7 1).bind fun v3 => (fX8_run S μ v1 v3).bind fun m4 => (gR S o 10 8).bind fun v5 => (gI S m4 v5 8 2).bind fun v6 => some (v6, m4)
def fX10_wrongReason (S : mSh) (μ : mMm) (o : Nat) : Option (Int32 × mMm) := if mok S o 10 = true then bX10_wrongReason S μ o else none
abbrev MX10_wrongReason : mM := ((yX10_wrongReason, cX10_wrongReason, 1, (some .int)), (4, 89), (false, false), RX10, eT)
theorem kX10_wrongReason : mCalV MX10_wrongReason RX10 0 := ⟨q466, q467, q2, q468, by decide +kernel⟩
set_option maxHeartbeats 4000000 in
theorem xbX10_wrongReason {n0 c0 s0 cx cy : Nat} {S : mSh} {μ : mMm} (o : Nat) : mX MX10_wrongReason n0 c0 s0 0 [some (.ref o)] [] (S, μ, cx, cy) (iMI S cx cy) (bX10_wrongReason S μ o) := by
  unfold bX10_wrongReason
  refine x_aload_n (pc := 0) dX10_wrongReason_0 (i := 0) rfl rfl ?_
  refine x_gR (pc := 1) (k := 8) fcX10 dX10_wrongReason_1 q41 (by decide) rfl (fun v1 => ?_)
  refine x_aload_n (pc := 4) dX10_wrongReason_4 (i := 0) rfl rfl ?_
  refine x_gR (pc := 5) (k := 0) fcX10 dX10_wrongReason_5 q13 (by decide) rfl (fun v2 => ?_)
  refine x_gR (pc := 8) (k := 1) fcX7 dX10_wrongReason_8 q255 (by decide) rfl (fun v3 => ?_)
  refine x_callVv (pc := 11) (As := [.ref v3]) (rest := []) (μf := fun a => a) fcX8 (mX8_run S μ cx cy v1 v3) (fun _ => rfl) rfl (fun _ h => ifok h) dX10_wrongReason_11 q342 kX8_run rfl ⟨by decide, by decide⟩ rfl (Nat.le_of_ble_eq_true rfl) (fun m4 => ?_)
  refine x_aload_n (pc := 14) dX10_wrongReason_14 (i := 0) rfl rfl ?_
  refine x_gR (pc := 15) (k := 8) fcX10 dX10_wrongReason_15 q41 (by decide) rfl (fun v5 => ?_)
  refine x_gI (pc := 18) (k := 2) fcX8 dX10_wrongReason_18 q340 (by decide) rfl (fun v6 => ?_)
  exact x_iret rfl dX10_wrongReason_21 rfl rfl
theorem mX10_wrongReason (S : mSh) (μ : mMm) (cx cy : Nat) (o : Nat) : mMet MX10_wrongReason [.ref o] (S, μ, cx, cy) (iMI S cx cy) (fX10_wrongReason S μ o) := mMet.of rfl (by decide) rfl (fun h => by cases h) (Nat.le_of_ble_eq_true rfl) (mX.ck (fun _ => xbX10_wrongReason o))
/-! SlideMills.isForText()Z -/
def bX10_isForText (S : mSh) (μ : mMm) (o : Nat) : Option (Int32 × mMm) := (gR S o 10 8).bind fun v1 => (gR S o 10 0).bind fun v2 => (gR S v2 7 1).bind fun v3 => (fX8_run S μ v1 v3).bind fun m4 => (gR S o 10 8).bind fun v5 => (gI S m4 v5 8 2).bind fun v6 => if v6 = 0 then ((gR S o 10 8).bind fun v7 => (gR S v7 8 0).bind fun v8 => (gR S o 10 0).bind fun v9 => (gR S v9 7 0).bind fun v10 => (fX2_isLike S m4 v8 v10).bind fun v11 => if v11 = 0 then (some ((0 : Int32), m4)) else (some ((1 : Int32), m4))) else (some ((0 : Int32), m4))
def fX10_isForText (S : mSh) (μ : mMm) (o : Nat) : Option (Int32 × mMm) := if mok S o 10 = true then bX10_isForText S μ o else none
abbrev MX10_isForText : mM := ((yX10_isForText, cX10_isForText, 1, (some .boolean)), (4, 89), (false, false), RX10, eT)
theorem kX10_isForText : mCalV MX10_isForText RX10 0 := ⟨q452, q453, q2, q454, by decide +kernel⟩
set_option maxHeartbeats 4000000 in
theorem xbX10_isForText {n0 c0 s0 cx cy : Nat} {S : mSh} {μ : mMm} (o : Nat) : mX MX10_isForText n0 c0 s0 0 [some (.ref o)] [] (S, μ, cx, cy) (iMI S cx cy) (bX10_isForText S μ o) := by
  unfold bX10_isForText
  refine x_aload_n (pc := 0) dX10_isForText_0 (i := 0) rfl rfl ?_
  refine x_gR (pc := 1) (k := 8) fcX10 dX10_isForText_1 q41 (by decide) rfl (fun v1 => ?_)
  refine x_aload_n (pc := 4) dX10_isForText_4 (i := 0) rfl rfl ?_
  refine x_gR (pc := 5) (k := 0) fcX10 dX10_isForText_5 q13 (by decide) rfl (fun v2 => ?_)
  refine x_gR (pc := 8) (k := 1) fcX7 dX10_isForText_8 q255 (by decide) rfl (fun v3 => ?_)
  refine x_callVv (pc := 11) (As := [.ref v3]) (rest := []) (μf := fun a => a) fcX8 (mX8_run S μ cx cy v1 v3) (fun _ => rfl) rfl (fun _ h => ifok h) dX10_isForText_11 q342 kX8_run rfl ⟨by decide, by decide⟩ rfl (Nat.le_of_ble_eq_true rfl) (fun m4 => ?_)
  refine x_aload_n (pc := 14) dX10_isForText_14 (i := 0) rfl rfl ?_
  refine x_gR (pc := 15) (k := 8) fcX10 dX10_isForText_15 q41 (by decide) rfl (fun v5 => ?_)
  refine x_gI (pc := 18) (k := 2) fcX8 dX10_isForText_18 q340 (by decide) rfl (fun v6 => ?_)
  refine x_if_ne (pc := 21) (tgt := 48) dX10_isForText_21 (by decide) ?_ ?_
  · refine x_aload_n (pc := 24) dX10_isForText_24 (i := 0) rfl rfl ?_
    refine x_gR (pc := 25) (k := 8) fcX10 dX10_isForText_25 q41 (by decide) rfl (fun v7 => ?_)
    refine x_gR (pc := 28) (k := 0) fcX8 dX10_isForText_28 q341 (by decide) rfl (fun v8 => ?_)
    refine x_aload_n (pc := 31) dX10_isForText_31 (i := 0) rfl rfl ?_
    refine x_gR (pc := 32) (k := 0) fcX10 dX10_isForText_32 q13 (by decide) rfl (fun v9 => ?_)
    refine x_gR (pc := 35) (k := 0) fcX7 dX10_isForText_35 q27 (by decide) rfl (fun v10 => ?_)
    refine x_callVi (pc := 38) (As := [.ref v10]) (rest := []) (vx := fun a => a) (μf := fun _ => m4) fcX2 (mX2_isLike S m4 cx cy v8 v10) (fun _ => rfl) rfl (fun _ h => ifok h) dX10_isForText_38 q455 kX2_isLike rfl ⟨by decide, by decide⟩ rfl (Nat.le_of_ble_eq_true rfl) (fun v11 => ?_)
    refine x_if_eq (pc := 41) (tgt := 48) dX10_isForText_41 (by decide) ?_ ?_
    · refine x_iconst (pc := 48) (v := 0) dX10_isForText_48 (by decide) ?_
      exact x_iret rfl dX10_isForText_49 rfl rfl
    · refine x_iconst (pc := 44) (v := 1) dX10_isForText_44 (by decide) ?_
      refine x_goto (pc := 45) (tgt := 49) dX10_isForText_45 (by decide) ?_
      exact x_iret rfl dX10_isForText_49 rfl rfl
  · refine x_iconst (pc := 48) (v := 0) dX10_isForText_48 (by decide) ?_
    exact x_iret rfl dX10_isForText_49 rfl rfl
theorem mX10_isForText (S : mSh) (μ : mMm) (cx cy : Nat) (o : Nat) : mMet MX10_isForText [.ref o] (S, μ, cx, cy) (iMI S cx cy) (fX10_isForText S μ o) := mMet.of rfl (by decide) rfl (fun h => by cases h) (Nat.le_of_ble_eq_true rfl) (mX.ck (fun _ => xbX10_isForText o))
/-! SlideMills.repeatLength(I)I -/
def bX10_repeatLength (S : mSh) (μ : mMm) (o : Nat) (p0 : Int32) : Option (Int32 ⊕ Nat) := (gR S o 10 0).bind fun v1 => (gR S v1 7 0).bind fun v2 => (fX2_has S μ v2 p0).bind fun v3 => if v3 = 0 then (some (.inr 2)) else ((gR S o 10 5).bind fun v4 => (gR S o 10 0).bind fun v5 => (gR S v5 7 2).bind fun v6 => (gI S μ v6 6 0).bind fun v7 => (fX3_longestAt S μ v4 p0 v7).bind fun v8 => some (.inl v8))
def fX10_repeatLength (S : mSh) (μ : mMm) (o : Nat) (p0 : Int32) : Option (Int32 ⊕ Nat) := if mok S o 10 = true then bX10_repeatLength S μ o p0 else none
abbrev MX10_repeatLength : mM := ((yX10_repeatLength, cX10_repeatLength, 2, (some .int)), (6, 90), (false, false), RX10, eT)
theorem kX10_repeatLength : mCalV MX10_repeatLength RX10 1 := ⟨q481, q482, q2, q483, by decide +kernel⟩
set_option maxHeartbeats 4000000 in
theorem xbX10_repeatLength {n0 c0 s0 cx cy : Nat} {S : mSh} {μ : mMm} (o : Nat) (p0 : Int32) : mX MX10_repeatLength n0 c0 s0 0 [some (.ref o), some (.int p0)] [] (S, μ, cx, cy) (iQI S μ cx cy) (bX10_repeatLength S μ o p0) := by
  unfold bX10_repeatLength
  refine x_aload_n (pc := 0) dX10_repeatLength_0 (i := 0) rfl rfl ?_
  refine x_gR (pc := 1) (k := 0) fcX10 dX10_repeatLength_1 q13 (by decide) rfl (fun v1 => ?_)
  refine x_gR (pc := 4) (k := 0) fcX7 dX10_repeatLength_4 q27 (by decide) rfl (fun v2 => ?_)
  refine x_iload_n (pc := 7) dX10_repeatLength_7 (i := 1) rfl rfl ?_
  refine x_callVi (pc := 8) (As := [.int p0]) (rest := []) (vx := fun a => a) (μf := fun _ => μ) fcX2 (mX2_has S μ cx cy v2 p0) (fun _ => rfl) rfl (fun _ h => ifok h) dX10_repeatLength_8 q193 kX2_has rfl ⟨by decide, by decide⟩ rfl (Nat.le_of_ble_eq_true rfl) (fun v3 => ?_)
  refine x_if_ne (pc := 11) (tgt := 24) dX10_repeatLength_11 (by decide) ?_ ?_
  · exact x_throw rfl ⟨110, 112, 114, "no such place", dX10_repeatLength_14, dX10_repeatLength_17, Or.inl ⟨dX10_repeatLength_18, dX10_repeatLength_20, dX10_repeatLength_23⟩, rfl, q191, q192, Or.inr (Or.inr ⟨rfl, rfl⟩), by decide, by decide, by decide⟩ (Nat.le_of_ble_eq_true rfl)
  · refine x_aload_n (pc := 24) dX10_repeatLength_24 (i := 0) rfl rfl ?_
    refine x_gR (pc := 25) (k := 5) fcX10 dX10_repeatLength_25 q29 (by decide) rfl (fun v4 => ?_)
    refine x_iload_n (pc := 28) dX10_repeatLength_28 (i := 1) rfl rfl ?_
    refine x_aload_n (pc := 29) dX10_repeatLength_29 (i := 0) rfl rfl ?_
    refine x_gR (pc := 30) (k := 0) fcX10 dX10_repeatLength_30 q13 (by decide) rfl (fun v5 => ?_)
    refine x_gR (pc := 33) (k := 2) fcX7 dX10_repeatLength_33 q28 (by decide) rfl (fun v6 => ?_)
    refine x_gI (pc := 36) (k := 0) fcX6 dX10_repeatLength_36 q209 (by decide) rfl (fun v7 => ?_)
    refine x_callVi (pc := 39) (As := [.int p0, .int v7]) (rest := []) (vx := fun a => a) (μf := fun _ => μ) fcX3 (mX3_longestAt S μ cx cy v4 p0 v7) (fun _ => rfl) rfl (fun _ h => ifok h) dX10_repeatLength_39 q484 kX3_longestAt rfl ⟨by decide, by decide⟩ rfl (Nat.le_of_ble_eq_true rfl) (fun v8 => ?_)
    exact x_iret rfl dX10_repeatLength_42 rfl rfl
theorem mX10_repeatLength (S : mSh) (μ : mMm) (cx cy : Nat) (o : Nat) (p0 : Int32) : mMet MX10_repeatLength [.ref o, .int p0] (S, μ, cx, cy) (iQI S μ cx cy) (fX10_repeatLength S μ o p0) := mMet.of rfl (by decide) rfl (fun h => by cases h) (Nat.le_of_ble_eq_true rfl) (mX.ck (fun _ => xbX10_repeatLength o p0))
/-! SlideMills.repeatLengthByPairs(I)I -/
def bX10_repeatLengthByPairs (S : mSh) (μ : mMm) (o : Nat) (p0 : Int32) : Option ((Int32 ⊕ Nat) × mMm) := (gR S o 10 0).bind fun v1 => (gR S v1 7 0).bind fun v2 => (fX2_has S μ v2 p0).bind fun v3 => if v3 = 0 then (some (.inr 2, μ)) else ((gR S o 10 5).bind fun v4 => (gR S v4 3 2).bind fun v5 => (gR S o 10 0).bind fun v6 => (gR S v6 7 0).bind fun v7 => (fX0_read S μ v5 v7).bind fun m8 => (gR S o 10 5).bind fun v9 => (fX3_longestByPairs S m8 v9 p0).bind fun v10 => some (.inl v10, m8))
def fX10_repeatLengthByPairs (S : mSh) (μ : mMm) (o : Nat) (p0 : Int32) : Option ((Int32 ⊕ Nat) × mMm) := if mok S o 10 = true then bX10_repeatLengthByPairs S μ o p0 else none
abbrev MX10_repeatLengthByPairs : mM := ((yX10_repeatLengthByPairs, cX10_repeatLengthByPairs, 2, (some .int)), (6, 90), (false, false), RX10, eT)
theorem kX10_repeatLengthByPairs : mCalV MX10_repeatLengthByPairs RX10 1 := ⟨q486, q487, q2, q488, by decide +kernel⟩
set_option maxHeartbeats 4000000 in
theorem xbX10_repeatLengthByPairs {n0 c0 s0 cx cy : Nat} {S : mSh} {μ : mMm} (o : Nat) (p0 : Int32) : mX MX10_repeatLengthByPairs n0 c0 s0 0 [some (.ref o), some (.int p0)] [] (S, μ, cx, cy) (iTI S cx cy) (bX10_repeatLengthByPairs S μ o p0) := by
  unfold bX10_repeatLengthByPairs
  refine x_aload_n (pc := 0) dX10_repeatLengthByPairs_0 (i := 0) rfl rfl ?_
  refine x_gR (pc := 1) (k := 0) fcX10 dX10_repeatLengthByPairs_1 q13 (by decide) rfl (fun v1 => ?_)
  refine x_gR (pc := 4) (k := 0) fcX7 dX10_repeatLengthByPairs_4 q27 (by decide) rfl (fun v2 => ?_)
  refine x_iload_n (pc := 7) dX10_repeatLengthByPairs_7 (i := 1) rfl rfl ?_
  refine x_callVi (pc := 8) (As := [.int p0]) (rest := []) (vx := fun a => a) (μf := fun _ => μ) fcX2 (mX2_has S μ cx cy v2 p0) (fun _ => rfl) rfl (fun _ h => ifok h) dX10_repeatLengthByPairs_8 q193 kX2_has rfl ⟨by decide, by decide⟩ rfl (Nat.le_of_ble_eq_true rfl) (fun v3 => ?_)
  refine x_if_ne (pc := 11) (tgt := 24) dX10_repeatLengthByPairs_11 (by decide) ?_ ?_
  · exact x_throw rfl ⟨110, 112, 114, "no such place", dX10_repeatLengthByPairs_14, dX10_repeatLengthByPairs_17, Or.inl ⟨dX10_repeatLengthByPairs_18, dX10_repeatLengthByPairs_20, dX10_repeatLengthByPairs_23⟩, rfl, q191, q192, Or.inr (Or.inr ⟨rfl, rfl⟩), by decide, by decide, by decide⟩ (Nat.le_of_ble_eq_true rfl)
  · refine x_aload_n (pc := 24) dX10_repeatLengthByPairs_24 (i := 0) rfl rfl ?_
    refine x_gR (pc := 25) (k := 5) fcX10 dX10_repeatLengthByPairs_25 q29 (by decide) rfl (fun v4 => ?_)
    refine x_gR (pc := 28) (k := 2) fcX3 dX10_repeatLengthByPairs_28 q489 (by decide) rfl (fun v5 => ?_)
    refine x_aload_n (pc := 31) dX10_repeatLengthByPairs_31 (i := 0) rfl rfl ?_
    refine x_gR (pc := 32) (k := 0) fcX10 dX10_repeatLengthByPairs_32 q13 (by decide) rfl (fun v6 => ?_)
    refine x_gR (pc := 35) (k := 0) fcX7 dX10_repeatLengthByPairs_35 q27 (by decide) rfl (fun v7 => ?_)
    refine x_callVv (pc := 38) (As := [.ref v7]) (rest := []) (μf := fun a => a) fcX0 (mX0_read S μ cx cy v5 v7) (fun _ => rfl) rfl (fun _ h => ifok h) dX10_repeatLengthByPairs_38 q490 kX0_read rfl ⟨by decide, by decide⟩ rfl (Nat.le_of_ble_eq_true rfl) (fun m8 => ?_)
    refine x_aload_n (pc := 41) dX10_repeatLengthByPairs_41 (i := 0) rfl rfl ?_
    refine x_gR (pc := 42) (k := 5) fcX10 dX10_repeatLengthByPairs_42 q29 (by decide) rfl (fun v9 => ?_)
    refine x_iload_n (pc := 45) dX10_repeatLengthByPairs_45 (i := 1) rfl rfl ?_
    refine x_callVi (pc := 46) (As := [.int p0]) (rest := []) (vx := fun a => a) (μf := fun _ => m8) fcX3 (mX3_longestByPairs S m8 cx cy v9 p0) (fun _ => rfl) rfl (fun _ h => ifok h) dX10_repeatLengthByPairs_46 q500 kX3_longestByPairs rfl ⟨by decide, by decide⟩ rfl (Nat.le_of_ble_eq_true rfl) (fun v10 => ?_)
    exact x_iret rfl dX10_repeatLengthByPairs_49 rfl rfl
theorem mX10_repeatLengthByPairs (S : mSh) (μ : mMm) (cx cy : Nat) (o : Nat) (p0 : Int32) : mMet MX10_repeatLengthByPairs [.ref o, .int p0] (S, μ, cx, cy) (iTI S cx cy) (fX10_repeatLengthByPairs S μ o p0) := mMet.of rfl (by decide) rfl (fun h => by cases h) (Nat.le_of_ble_eq_true rfl) (mX.ck (fun _ => xbX10_repeatLengthByPairs o p0))
/-! SlideMills.repeatDistance(I)I -/
def bX10_repeatDistance (S : mSh) (μ : mMm) (o : Nat) (p0 : Int32) : Option (Int32 ⊕ Nat) := (gR S o 10 0).bind fun v1 => (gR S v1 7 0).bind fun v2 => (fX2_has S μ v2 p0).bind fun v3 => if v3 = 0 then (some (.inr 2)) else ((gR S o 10 5).bind fun v4 => (gR S o 10 0).bind fun v5 => (gR S v5 7 2).bind fun v6 => (gI S μ v6 6 0).bind fun v7 => (fX3_longestAt S μ v4 p0 v7).bind fun v8 => (gR S o 10 5).bind fun v9 => (fX3_leastDistance S μ v9 p0 v8).bind fun v10 => some (.inl v10))
def fX10_repeatDistance (S : mSh) (μ : mMm) (o : Nat) (p0 : Int32) : Option (Int32 ⊕ Nat) := if mok S o 10 = true then bX10_repeatDistance S μ o p0 else none
abbrev MX10_repeatDistance : mM := ((yX10_repeatDistance, cX10_repeatDistance, 3, (some .int)), (6, 90), (false, false), RX10, eT)
theorem kX10_repeatDistance : mCalV MX10_repeatDistance RX10 1 := ⟨q509, q510, q2, q511, by decide +kernel⟩
set_option maxHeartbeats 4000000 in
theorem xbX10_repeatDistance {n0 c0 s0 cx cy : Nat} {S : mSh} {μ : mMm} (o : Nat) (p0 : Int32) : mX MX10_repeatDistance n0 c0 s0 0 [some (.ref o), some (.int p0), none] [] (S, μ, cx, cy) (iQI S μ cx cy) (bX10_repeatDistance S μ o p0) := by
  unfold bX10_repeatDistance
  refine x_aload_n (pc := 0) dX10_repeatDistance_0 (i := 0) rfl rfl ?_
  refine x_gR (pc := 1) (k := 0) fcX10 dX10_repeatDistance_1 q13 (by decide) rfl (fun v1 => ?_)
  refine x_gR (pc := 4) (k := 0) fcX7 dX10_repeatDistance_4 q27 (by decide) rfl (fun v2 => ?_)
  refine x_iload_n (pc := 7) dX10_repeatDistance_7 (i := 1) rfl rfl ?_
  refine x_callVi (pc := 8) (As := [.int p0]) (rest := []) (vx := fun a => a) (μf := fun _ => μ) fcX2 (mX2_has S μ cx cy v2 p0) (fun _ => rfl) rfl (fun _ h => ifok h) dX10_repeatDistance_8 q193 kX2_has rfl ⟨by decide, by decide⟩ rfl (Nat.le_of_ble_eq_true rfl) (fun v3 => ?_)
  refine x_if_ne (pc := 11) (tgt := 24) dX10_repeatDistance_11 (by decide) ?_ ?_
  · exact x_throw rfl ⟨110, 112, 114, "no such place", dX10_repeatDistance_14, dX10_repeatDistance_17, Or.inl ⟨dX10_repeatDistance_18, dX10_repeatDistance_20, dX10_repeatDistance_23⟩, rfl, q191, q192, Or.inr (Or.inr ⟨rfl, rfl⟩), by decide, by decide, by decide⟩ (Nat.le_of_ble_eq_true rfl)
  · refine x_aload_n (pc := 24) dX10_repeatDistance_24 (i := 0) rfl rfl ?_
    refine x_gR (pc := 25) (k := 5) fcX10 dX10_repeatDistance_25 q29 (by decide) rfl (fun v4 => ?_)
    refine x_iload_n (pc := 28) dX10_repeatDistance_28 (i := 1) rfl rfl ?_
    refine x_aload_n (pc := 29) dX10_repeatDistance_29 (i := 0) rfl rfl ?_
    refine x_gR (pc := 30) (k := 0) fcX10 dX10_repeatDistance_30 q13 (by decide) rfl (fun v5 => ?_)
    refine x_gR (pc := 33) (k := 2) fcX7 dX10_repeatDistance_33 q28 (by decide) rfl (fun v6 => ?_)
    refine x_gI (pc := 36) (k := 0) fcX6 dX10_repeatDistance_36 q209 (by decide) rfl (fun v7 => ?_)
    refine x_callVi (pc := 39) (As := [.int p0, .int v7]) (rest := []) (vx := fun a => a) (μf := fun _ => μ) fcX3 (mX3_longestAt S μ cx cy v4 p0 v7) (fun _ => rfl) rfl (fun _ h => ifok h) dX10_repeatDistance_39 q484 kX3_longestAt rfl ⟨by decide, by decide⟩ rfl (Nat.le_of_ble_eq_true rfl) (fun v8 => ?_)
    refine x_istore_n (pc := 42) dX10_repeatDistance_42 (i := 2) rfl (by decide) (l' := [some (.ref o), some (.int p0), some (.int v8)]) rfl ?_
    refine x_aload_n (pc := 43) dX10_repeatDistance_43 (i := 0) rfl rfl ?_
    refine x_gR (pc := 44) (k := 5) fcX10 dX10_repeatDistance_44 q29 (by decide) rfl (fun v9 => ?_)
    refine x_iload_n (pc := 47) dX10_repeatDistance_47 (i := 1) rfl rfl ?_
    refine x_iload_n (pc := 48) dX10_repeatDistance_48 (i := 2) rfl rfl ?_
    refine x_callVi (pc := 49) (As := [.int p0, .int v8]) (rest := []) (vx := fun a => a) (μf := fun _ => μ) fcX3 (mX3_leastDistance S μ cx cy v9 p0 v8) (fun _ => rfl) rfl (fun _ h => ifok h) dX10_repeatDistance_49 q512 kX3_leastDistance rfl ⟨by decide, by decide⟩ rfl (Nat.le_of_ble_eq_true rfl) (fun v10 => ?_)
    exact x_iret rfl dX10_repeatDistance_52 rfl rfl
theorem mX10_repeatDistance (S : mSh) (μ : mMm) (cx cy : Nat) (o : Nat) (p0 : Int32) : mMet MX10_repeatDistance [.ref o, .int p0] (S, μ, cx, cy) (iQI S μ cx cy) (fX10_repeatDistance S μ o p0) := mMet.of rfl (by decide) rfl (fun h => by cases h) (Nat.le_of_ble_eq_true rfl) (mX.ck (fun _ => xbX10_repeatDistance o p0))
/-! SlideMills.costBy(I)I -/
def bX10_costBy (S : mSh) (μ : mMm) (o : Nat) (p0 : Int32) : Option ((Int32 ⊕ Nat) × mMm) := (fX10_isWay p0).bind fun v1 => if v1 = 0 then (some (.inr 0, μ)) else ((gR S o 10 6).bind fun v2 => (gR S o 10 7).bind fun v3 => (fX4_packBy S μ v2 p0 v3).bind fun m4 => (gR S o 10 7).bind fun v5 => (gR S o 10 0).bind fun v6 => (gR S v6 7 2).bind fun v7 => (fX5_cost S m4 v5 v7).bind fun v8 => some (.inl v8, m4))
def fX10_costBy (S : mSh) (μ : mMm) (o : Nat) (p0 : Int32) : Option ((Int32 ⊕ Nat) × mMm) := if mok S o 10 = true then bX10_costBy S μ o p0 else none
abbrev MX10_costBy : mM := ((yX10_costBy, cX10_costBy, 2, (some .int)), (6, 141), (false, false), RX10, eT)
theorem kX10_costBy : mCalV MX10_costBy RX10 1 := ⟨q586, q587, q2, q588, by decide +kernel⟩
set_option maxHeartbeats 4000000 in
theorem xbX10_costBy {n0 c0 s0 cx cy : Nat} {S : mSh} {μ : mMm} (o : Nat) (p0 : Int32) : mX MX10_costBy n0 c0 s0 0 [some (.ref o), some (.int p0)] [] (S, μ, cx, cy) (iTI S cx cy) (bX10_costBy S μ o p0) := by
  unfold bX10_costBy
  refine x_iload_n (pc := 0) dX10_costBy_0 (i := 1) rfl rfl ?_
  refine x_callSi (pc := 1) (As := [.int p0]) (rest := []) (vx := fun a => a) (μf := fun _ => μ) (mX10_isWay S μ cx cy p0) (fun _ => rfl) rfl dX10_costBy_1 q257 kX10_isWay rfl ⟨by decide, by decide⟩ rfl (Nat.le_of_ble_eq_true rfl) (fun v1 => ?_)
  refine x_if_ne (pc := 4) (tgt := 17) dX10_costBy_4 (by decide) ?_ ?_
  · exact x_throw rfl ⟨81, 156, 85, "way out of range", dX10_costBy_7, dX10_costBy_10, Or.inl ⟨dX10_costBy_11, dX10_costBy_13, dX10_costBy_16⟩, rfl, q147, q148, Or.inl ⟨rfl, rfl⟩, by decide, by decide, by decide⟩ (Nat.le_of_ble_eq_true rfl)
  · refine x_aload_n (pc := 17) dX10_costBy_17 (i := 0) rfl rfl ?_
    refine x_gR (pc := 18) (k := 6) fcX10 dX10_costBy_18 q33 (by decide) rfl (fun v2 => ?_)
    refine x_iload_n (pc := 21) dX10_costBy_21 (i := 1) rfl rfl ?_
    refine x_aload_n (pc := 22) dX10_costBy_22 (i := 0) rfl rfl ?_
    refine x_gR (pc := 23) (k := 7) fcX10 dX10_costBy_23 q37 (by decide) rfl (fun v3 => ?_)
    refine x_callVv (pc := 26) (As := [.int p0, .ref v3]) (rest := []) (μf := fun a => a) fcX4 (mX4_packBy S μ cx cy v2 p0 v3) (fun _ => rfl) rfl (fun _ h => ifok h) dX10_costBy_26 q260 kX4_packBy rfl ⟨by decide, by decide⟩ rfl (Nat.le_of_ble_eq_true rfl) (fun m4 => ?_)
    refine x_aload_n (pc := 29) dX10_costBy_29 (i := 0) rfl rfl ?_
    refine x_gR (pc := 30) (k := 7) fcX10 dX10_costBy_30 q37 (by decide) rfl (fun v5 => ?_)
    refine x_aload_n (pc := 33) dX10_costBy_33 (i := 0) rfl rfl ?_
    refine x_gR (pc := 34) (k := 0) fcX10 dX10_costBy_34 q13 (by decide) rfl (fun v6 => ?_)
    refine x_gR (pc := 37) (k := 2) fcX7 dX10_costBy_37 q28 (by decide) rfl (fun v7 => ?_)
    refine x_callVi (pc := 40) (As := [.ref v7]) (rest := []) (vx := fun a => a) (μf := fun _ => m4) fcX5 (mX5_cost S m4 cx cy v5 v7) (fun _ => rfl) rfl (fun _ h => ifok h) dX10_costBy_40 q436 kX5_cost rfl ⟨by decide, by decide⟩ rfl (Nat.le_of_ble_eq_true rfl) (fun v8 => ?_)
    exact x_iret rfl dX10_costBy_43 rfl rfl
theorem mX10_costBy (S : mSh) (μ : mMm) (cx cy : Nat) (o : Nat) (p0 : Int32) : mMet MX10_costBy [.ref o, .int p0] (S, μ, cx, cy) (iTI S cx cy) (fX10_costBy S μ o p0) := mMet.of rfl (by decide) rfl (fun h => by cases h) (Nat.le_of_ble_eq_true rfl) (mX.ck (fun _ => xbX10_costBy o p0))
/-! SlideMills.tokensBy(I)I -/
def bX10_tokensBy (S : mSh) (μ : mMm) (o : Nat) (p0 : Int32) : Option ((Int32 ⊕ Nat) × mMm) := (fX10_isWay p0).bind fun v1 => if v1 = 0 then (some (.inr 0, μ)) else ((gR S o 10 6).bind fun v2 => (gR S o 10 7).bind fun v3 => (fX4_packBy S μ v2 p0 v3).bind fun m4 => (gR S o 10 7).bind fun v5 => (gI S m4 v5 5 2).bind fun v6 => some (.inl v6, m4))
def fX10_tokensBy (S : mSh) (μ : mMm) (o : Nat) (p0 : Int32) : Option ((Int32 ⊕ Nat) × mMm) := if mok S o 10 = true then bX10_tokensBy S μ o p0 else none
abbrev MX10_tokensBy : mM := ((yX10_tokensBy, cX10_tokensBy, 2, (some .int)), (6, 141), (false, false), RX10, eT)
theorem kX10_tokensBy : mCalV MX10_tokensBy RX10 1 := ⟨q582, q583, q2, q584, by decide +kernel⟩
set_option maxHeartbeats 4000000 in
theorem xbX10_tokensBy {n0 c0 s0 cx cy : Nat} {S : mSh} {μ : mMm} (o : Nat) (p0 : Int32) : mX MX10_tokensBy n0 c0 s0 0 [some (.ref o), some (.int p0)] [] (S, μ, cx, cy) (iTI S cx cy) (bX10_tokensBy S μ o p0) := by
  unfold bX10_tokensBy
  refine x_iload_n (pc := 0) dX10_tokensBy_0 (i := 1) rfl rfl ?_
  refine x_callSi (pc := 1) (As := [.int p0]) (rest := []) (vx := fun a => a) (μf := fun _ => μ) (mX10_isWay S μ cx cy p0) (fun _ => rfl) rfl dX10_tokensBy_1 q257 kX10_isWay rfl ⟨by decide, by decide⟩ rfl (Nat.le_of_ble_eq_true rfl) (fun v1 => ?_)
  refine x_if_ne (pc := 4) (tgt := 17) dX10_tokensBy_4 (by decide) ?_ ?_
  · exact x_throw rfl ⟨81, 156, 85, "way out of range", dX10_tokensBy_7, dX10_tokensBy_10, Or.inl ⟨dX10_tokensBy_11, dX10_tokensBy_13, dX10_tokensBy_16⟩, rfl, q147, q148, Or.inl ⟨rfl, rfl⟩, by decide, by decide, by decide⟩ (Nat.le_of_ble_eq_true rfl)
  · refine x_aload_n (pc := 17) dX10_tokensBy_17 (i := 0) rfl rfl ?_
    refine x_gR (pc := 18) (k := 6) fcX10 dX10_tokensBy_18 q33 (by decide) rfl (fun v2 => ?_)
    refine x_iload_n (pc := 21) dX10_tokensBy_21 (i := 1) rfl rfl ?_
    refine x_aload_n (pc := 22) dX10_tokensBy_22 (i := 0) rfl rfl ?_
    refine x_gR (pc := 23) (k := 7) fcX10 dX10_tokensBy_23 q37 (by decide) rfl (fun v3 => ?_)
    refine x_callVv (pc := 26) (As := [.int p0, .ref v3]) (rest := []) (μf := fun a => a) fcX4 (mX4_packBy S μ cx cy v2 p0 v3) (fun _ => rfl) rfl (fun _ h => ifok h) dX10_tokensBy_26 q260 kX4_packBy rfl ⟨by decide, by decide⟩ rfl (Nat.le_of_ble_eq_true rfl) (fun m4 => ?_)
    refine x_aload_n (pc := 29) dX10_tokensBy_29 (i := 0) rfl rfl ?_
    refine x_gR (pc := 30) (k := 7) fcX10 dX10_tokensBy_30 q37 (by decide) rfl (fun v5 => ?_)
    refine x_gI (pc := 33) (k := 2) fcX5 dX10_tokensBy_33 q256 (by decide) rfl (fun v6 => ?_)
    exact x_iret rfl dX10_tokensBy_36 rfl rfl
theorem mX10_tokensBy (S : mSh) (μ : mMm) (cx cy : Nat) (o : Nat) (p0 : Int32) : mMet MX10_tokensBy [.ref o, .int p0] (S, μ, cx, cy) (iTI S cx cy) (fX10_tokensBy S μ o p0) := mMet.of rfl (by decide) rfl (fun h => by cases h) (Nat.le_of_ble_eq_true rfl) (mX.ck (fun _ => xbX10_tokensBy o p0))
/-! SlideMills.leastCost()I -/
def bX10_leastCost (S : mSh) (μ : mMm) (o : Nat) : Option (Int32 × mMm) := (gR S o 10 6).bind fun v1 => (gR S o 10 0).bind fun v2 => (gR S v2 7 2).bind fun v3 => (gI S μ v3 6 0).bind fun v4 => (fX4_leastFromEnd S μ v1 v4).bind fun r5 => some (r5.1, r5.2)
def fX10_leastCost (S : mSh) (μ : mMm) (o : Nat) : Option (Int32 × mMm) := if mok S o 10 = true then bX10_leastCost S μ o else none
abbrev MX10_leastCost : mM := ((yX10_leastCost, cX10_leastCost, 1, (some .int)), (4, 96), (false, false), RX10, eT)
theorem kX10_leastCost : mCalV MX10_leastCost RX10 0 := ⟨q565, q566, q2, q567, by decide +kernel⟩
set_option maxHeartbeats 4000000 in
theorem xbX10_leastCost {n0 c0 s0 cx cy : Nat} {S : mSh} {μ : mMm} (o : Nat) : mX MX10_leastCost n0 c0 s0 0 [some (.ref o)] [] (S, μ, cx, cy) (iMI S cx cy) (bX10_leastCost S μ o) := by
  unfold bX10_leastCost
  refine x_aload_n (pc := 0) dX10_leastCost_0 (i := 0) rfl rfl ?_
  refine x_gR (pc := 1) (k := 6) fcX10 dX10_leastCost_1 q33 (by decide) rfl (fun v1 => ?_)
  refine x_aload_n (pc := 4) dX10_leastCost_4 (i := 0) rfl rfl ?_
  refine x_gR (pc := 5) (k := 0) fcX10 dX10_leastCost_5 q13 (by decide) rfl (fun v2 => ?_)
  refine x_gR (pc := 8) (k := 2) fcX7 dX10_leastCost_8 q28 (by decide) rfl (fun v3 => ?_)
  refine x_gI (pc := 11) (k := 0) fcX6 dX10_leastCost_11 q209 (by decide) rfl (fun v4 => ?_)
  refine x_callVi (pc := 14) (As := [.int v4]) (rest := []) (vx := fun a => a.1) (μf := fun a => a.2) fcX4 (mX4_leastFromEnd S μ cx cy v1 v4) (fun _ => rfl) rfl (fun _ h => ifok h) dX10_leastCost_14 q563 kX4_leastFromEnd rfl ⟨by decide, by decide⟩ rfl (Nat.le_of_ble_eq_true rfl) (fun r5 => ?_)
  exact x_iret rfl dX10_leastCost_17 rfl rfl
theorem mX10_leastCost (S : mSh) (μ : mMm) (cx cy : Nat) (o : Nat) : mMet MX10_leastCost [.ref o] (S, μ, cx, cy) (iMI S cx cy) (fX10_leastCost S μ o) := mMet.of rfl (by decide) rfl (fun h => by cases h) (Nat.le_of_ble_eq_true rfl) (mX.ck (fun _ => xbX10_leastCost o))
/-! SlideMills.leastCostFromBeginning()I -/
def bX10_leastCostFromBeginning (S : mSh) (μ : mMm) (o : Nat) : Option (Int32 × mMm) := (gR S o 10 6).bind fun v1 => (fX4_leastFromBeginning S μ v1).bind fun r2 => some (r2.1, r2.2)
def fX10_leastCostFromBeginning (S : mSh) (μ : mMm) (o : Nat) : Option (Int32 × mMm) := if mok S o 10 = true then bX10_leastCostFromBeginning S μ o else none
abbrev MX10_leastCostFromBeginning : mM := ((yX10_leastCostFromBeginning, cX10_leastCostFromBeginning, 1, (some .int)), (4, 94), (false, false), RX10, eT)
theorem kX10_leastCostFromBeginning : mCalV MX10_leastCostFromBeginning RX10 0 := ⟨q569, q570, q2, q571, by decide +kernel⟩
set_option maxHeartbeats 4000000 in
theorem xbX10_leastCostFromBeginning {n0 c0 s0 cx cy : Nat} {S : mSh} {μ : mMm} (o : Nat) : mX MX10_leastCostFromBeginning n0 c0 s0 0 [some (.ref o)] [] (S, μ, cx, cy) (iMI S cx cy) (bX10_leastCostFromBeginning S μ o) := by
  unfold bX10_leastCostFromBeginning
  refine x_aload_n (pc := 0) dX10_leastCostFromBeginning_0 (i := 0) rfl rfl ?_
  refine x_gR (pc := 1) (k := 6) fcX10 dX10_leastCostFromBeginning_1 q33 (by decide) rfl (fun v1 => ?_)
  refine x_callVi (pc := 4) (As := []) (rest := []) (vx := fun a => a.1) (μf := fun a => a.2) fcX4 (mX4_leastFromBeginning S μ cx cy v1) (fun _ => rfl) rfl (fun _ h => ifok h) dX10_leastCostFromBeginning_4 q572 kX4_leastFromBeginning rfl ⟨by decide, by decide⟩ rfl (Nat.le_of_ble_eq_true rfl) (fun r2 => ?_)
  exact x_iret rfl dX10_leastCostFromBeginning_7 rfl rfl
theorem mX10_leastCostFromBeginning (S : mSh) (μ : mMm) (cx cy : Nat) (o : Nat) : mMet MX10_leastCostFromBeginning [.ref o] (S, μ, cx, cy) (iMI S cx cy) (fX10_leastCostFromBeginning S μ o) := mMet.of rfl (by decide) rfl (fun h => by cases h) (Nat.le_of_ble_eq_true rfl) (mX.ck (fun _ => xbX10_leastCostFromBeginning o))
/-! SlideMills.leastCostWith(I)I -/
def bX10_leastCostWith (S : mSh) (μ : mMm) (o : Nat) (p0 : Int32) : Option ((Int32 ⊕ Nat) × mMm) := (fX10_isBetween p0 (1 : Int32) (32 : Int32)).bind fun v1 => if v1 = 0 then (some (.inr 0, μ)) else ((gR S o 10 6).bind fun v2 => (fX4_leastFromEnd S μ v2 p0).bind fun r3 => some (.inl r3.1, r3.2))
def fX10_leastCostWith (S : mSh) (μ : mMm) (o : Nat) (p0 : Int32) : Option ((Int32 ⊕ Nat) × mMm) := if mok S o 10 = true then bX10_leastCostWith S μ o p0 else none
abbrev MX10_leastCostWith : mM := ((yX10_leastCostWith, cX10_leastCostWith, 2, (some .int)), (6, 96), (false, false), RX10, eT)
theorem kX10_leastCostWith : mCalV MX10_leastCostWith RX10 1 := ⟨q560, q561, q2, q562, by decide +kernel⟩
set_option maxHeartbeats 4000000 in
theorem xbX10_leastCostWith {n0 c0 s0 cx cy : Nat} {S : mSh} {μ : mMm} (o : Nat) (p0 : Int32) : mX MX10_leastCostWith n0 c0 s0 0 [some (.ref o), some (.int p0)] [] (S, μ, cx, cy) (iTI S cx cy) (bX10_leastCostWith S μ o p0) := by
  unfold bX10_leastCostWith
  refine x_iload_n (pc := 0) dX10_leastCostWith_0 (i := 1) rfl rfl ?_
  refine x_iconst (pc := 1) (v := 1) dX10_leastCostWith_1 (by decide) ?_
  refine x_bipush (pc := 2) (v := 32) dX10_leastCostWith_2 (by decide) ?_
  refine x_callSi (pc := 4) (As := [.int p0, .int (1 : Int32), .int (32 : Int32)]) (rest := []) (vx := fun a => a) (μf := fun _ => μ) (mX10_isBetween S μ cx cy p0 (1 : Int32) (32 : Int32)) (fun _ => rfl) rfl dX10_leastCostWith_4 q210 kX10_isBetween rfl ⟨by decide, by decide⟩ rfl (Nat.le_of_ble_eq_true rfl) (fun v1 => ?_)
  refine x_if_ne (pc := 7) (tgt := 20) dX10_leastCostWith_7 (by decide) ?_ ?_
  · exact x_throw rfl ⟨81, 130, 85, "places out of range", dX10_leastCostWith_10, dX10_leastCostWith_13, Or.inl ⟨dX10_leastCostWith_14, dX10_leastCostWith_16, dX10_leastCostWith_19⟩, rfl, q147, q148, Or.inl ⟨rfl, rfl⟩, by decide, by decide, by decide⟩ (Nat.le_of_ble_eq_true rfl)
  · refine x_aload_n (pc := 20) dX10_leastCostWith_20 (i := 0) rfl rfl ?_
    refine x_gR (pc := 21) (k := 6) fcX10 dX10_leastCostWith_21 q33 (by decide) rfl (fun v2 => ?_)
    refine x_iload_n (pc := 24) dX10_leastCostWith_24 (i := 1) rfl rfl ?_
    refine x_callVi (pc := 25) (As := [.int p0]) (rest := []) (vx := fun a => a.1) (μf := fun a => a.2) fcX4 (mX4_leastFromEnd S μ cx cy v2 p0) (fun _ => rfl) rfl (fun _ h => ifok h) dX10_leastCostWith_25 q563 kX4_leastFromEnd rfl ⟨by decide, by decide⟩ rfl (Nat.le_of_ble_eq_true rfl) (fun r3 => ?_)
    exact x_iret rfl dX10_leastCostWith_28 rfl rfl
theorem mX10_leastCostWith (S : mSh) (μ : mMm) (cx cy : Nat) (o : Nat) (p0 : Int32) : mMet MX10_leastCostWith [.ref o, .int p0] (S, μ, cx, cy) (iTI S cx cy) (fX10_leastCostWith S μ o p0) := mMet.of rfl (by decide) rfl (fun h => by cases h) (Nat.le_of_ble_eq_true rfl) (mX.ck (fun _ => xbX10_leastCostWith o p0))
/-! SlideMills.isPair(I)Z -/
def fX10_isPair (p0 : Int32) : Option (Int32) := if p0 < 0 then (some (0 : Int32)) else (if (16 : Int32) ≤ p0 then (some (0 : Int32)) else (some (1 : Int32)))
abbrev MX10_isPair : mM := ((yX10_isPair, cX10_isPair, 1, (some .boolean)), (0, 0), (false, false), RX10, eT)
theorem kX10_isPair : mCalS MX10_isPair 1 := ⟨q518, q2, q519, by decide +kernel⟩
set_option maxHeartbeats 4000000 in
theorem xbX10_isPair {n0 c0 s0 cx cy : Nat} {S : mSh} {μ : mMm} (p0 : Int32) : mX MX10_isPair n0 c0 s0 0 [some (.int p0)] [] (S, μ, cx, cy) (iPI S μ cx cy) (fX10_isPair p0) := by
  unfold fX10_isPair
  refine x_iload_n (pc := 0) dX10_isPair_0 (i := 0) rfl rfl ?_
  refine x_if_lt (pc := 1) (tgt := 14) dX10_isPair_1 (by decide) ?_ ?_
  · refine x_iconst (pc := 14) (v := 0) dX10_isPair_14 (by decide) ?_
    exact x_iret rfl dX10_isPair_15 rfl rfl
  · refine x_iload_n (pc := 4) dX10_isPair_4 (i := 0) rfl rfl ?_
    refine x_bipush (pc := 5) (v := 16) dX10_isPair_5 (by decide) ?_
    refine x_icmp_ge (pc := 7) (tgt := 14) dX10_isPair_7 (by decide) ?_ ?_
    · refine x_iconst (pc := 14) (v := 0) dX10_isPair_14 (by decide) ?_
      exact x_iret rfl dX10_isPair_15 rfl rfl
    · refine x_iconst (pc := 10) (v := 1) dX10_isPair_10 (by decide) ?_
      refine x_goto (pc := 11) (tgt := 15) dX10_isPair_11 (by decide) ?_
      exact x_iret rfl dX10_isPair_15 rfl rfl
theorem mX10_isPair (S : mSh) (μ : mMm) (cx cy : Nat) (p0 : Int32) : mMet MX10_isPair [.int p0] (S, μ, cx, cy) (iPI S μ cx cy) (fX10_isPair p0) := mMet.of rfl (by decide) rfl (fun h => by cases h) (Nat.le_of_ble_eq_true rfl) (xbX10_isPair p0)
/-! SlideMills.pairs(I)I -/
def bX10_pairs (S : mSh) (μ : mMm) (o : Nat) (p0 : Int32) : Option ((Int32 ⊕ Nat) × mMm) := (fX10_isPair p0).bind fun v1 => if v1 = 0 then (some (.inr 0, μ)) else ((gR S o 10 5).bind fun v2 => (gR S v2 3 2).bind fun v3 => (gR S o 10 0).bind fun v4 => (gR S v4 7 0).bind fun v5 => (fX0_read S μ v3 v5).bind fun m6 => (gR S o 10 5).bind fun v7 => (gR S v7 3 2).bind fun v8 => (fX0_times S m6 v8 p0).bind fun v9 => some (.inl v9, m6))
def fX10_pairs (S : mSh) (μ : mMm) (o : Nat) (p0 : Int32) : Option ((Int32 ⊕ Nat) × mMm) := if mok S o 10 = true then bX10_pairs S μ o p0 else none
abbrev MX10_pairs : mM := ((yX10_pairs, cX10_pairs, 2, (some .int)), (6, 90), (false, false), RX10, eT)
theorem kX10_pairs : mCalV MX10_pairs RX10 1 := ⟨q514, q515, q2, q516, by decide +kernel⟩
set_option maxHeartbeats 4000000 in
theorem xbX10_pairs {n0 c0 s0 cx cy : Nat} {S : mSh} {μ : mMm} (o : Nat) (p0 : Int32) : mX MX10_pairs n0 c0 s0 0 [some (.ref o), some (.int p0)] [] (S, μ, cx, cy) (iTI S cx cy) (bX10_pairs S μ o p0) := by
  unfold bX10_pairs
  refine x_iload_n (pc := 0) dX10_pairs_0 (i := 1) rfl rfl ?_
  refine x_callSi (pc := 1) (As := [.int p0]) (rest := []) (vx := fun a => a) (μf := fun _ => μ) (mX10_isPair S μ cx cy p0) (fun _ => rfl) rfl dX10_pairs_1 q517 kX10_isPair rfl ⟨by decide, by decide⟩ rfl (Nat.le_of_ble_eq_true rfl) (fun v1 => ?_)
  refine x_if_ne (pc := 4) (tgt := 18) dX10_pairs_4 (by decide) ?_ ?_
  · exact x_throw rfl ⟨81, 292, 85, "pair out of range", dX10_pairs_7, dX10_pairs_10, Or.inr ⟨dX10_pairs_11, dX10_pairs_14, dX10_pairs_17⟩, rfl, q147, q148, Or.inl ⟨rfl, rfl⟩, by decide, by decide, by decide⟩ (Nat.le_of_ble_eq_true rfl)
  · refine x_aload_n (pc := 18) dX10_pairs_18 (i := 0) rfl rfl ?_
    refine x_gR (pc := 19) (k := 5) fcX10 dX10_pairs_19 q29 (by decide) rfl (fun v2 => ?_)
    refine x_gR (pc := 22) (k := 2) fcX3 dX10_pairs_22 q489 (by decide) rfl (fun v3 => ?_)
    refine x_aload_n (pc := 25) dX10_pairs_25 (i := 0) rfl rfl ?_
    refine x_gR (pc := 26) (k := 0) fcX10 dX10_pairs_26 q13 (by decide) rfl (fun v4 => ?_)
    refine x_gR (pc := 29) (k := 0) fcX7 dX10_pairs_29 q27 (by decide) rfl (fun v5 => ?_)
    refine x_callVv (pc := 32) (As := [.ref v5]) (rest := []) (μf := fun a => a) fcX0 (mX0_read S μ cx cy v3 v5) (fun _ => rfl) rfl (fun _ h => ifok h) dX10_pairs_32 q490 kX0_read rfl ⟨by decide, by decide⟩ rfl (Nat.le_of_ble_eq_true rfl) (fun m6 => ?_)
    refine x_aload_n (pc := 35) dX10_pairs_35 (i := 0) rfl rfl ?_
    refine x_gR (pc := 36) (k := 5) fcX10 dX10_pairs_36 q29 (by decide) rfl (fun v7 => ?_)
    refine x_gR (pc := 39) (k := 2) fcX3 dX10_pairs_39 q489 (by decide) rfl (fun v8 => ?_)
    refine x_iload_n (pc := 42) dX10_pairs_42 (i := 1) rfl rfl ?_
    refine x_callVi (pc := 43) (As := [.int p0]) (rest := []) (vx := fun a => a) (μf := fun _ => m6) fcX0 (mX0_times S m6 cx cy v8 p0) (fun _ => rfl) rfl (fun _ h => ifok h) dX10_pairs_43 q520 kX0_times rfl ⟨by decide, by decide⟩ rfl (Nat.le_of_ble_eq_true rfl) (fun v9 => ?_)
    exact x_iret rfl dX10_pairs_46 rfl rfl
theorem mX10_pairs (S : mSh) (μ : mMm) (cx cy : Nat) (o : Nat) (p0 : Int32) : mMet MX10_pairs [.ref o, .int p0] (S, μ, cx, cy) (iTI S cx cy) (fX10_pairs S μ o p0) := mMet.of rfl (by decide) rfl (fun h => by cases h) (Nat.le_of_ble_eq_true rfl) (mX.ck (fun _ => xbX10_pairs o p0))
/-! SlideMills.lastPlaceOf(I)I -/
def bX10_lastPlaceOf (S : mSh) (μ : mMm) (o : Nat) (p0 : Int32) : Option ((Int32 ⊕ Nat) × mMm) := (fX10_isPair p0).bind fun v1 => if v1 = 0 then (some (.inr 0, μ)) else ((gR S o 10 5).bind fun v2 => (gR S v2 3 2).bind fun v3 => (gR S o 10 0).bind fun v4 => (gR S v4 7 0).bind fun v5 => (fX0_read S μ v3 v5).bind fun m6 => (gR S o 10 5).bind fun v7 => (gR S v7 3 2).bind fun v8 => (fX0_lastPlace S m6 v8 p0).bind fun v9 => some (.inl v9, m6))
def fX10_lastPlaceOf (S : mSh) (μ : mMm) (o : Nat) (p0 : Int32) : Option ((Int32 ⊕ Nat) × mMm) := if mok S o 10 = true then bX10_lastPlaceOf S μ o p0 else none
abbrev MX10_lastPlaceOf : mM := ((yX10_lastPlaceOf, cX10_lastPlaceOf, 2, (some .int)), (6, 90), (false, false), RX10, eT)
theorem kX10_lastPlaceOf : mCalV MX10_lastPlaceOf RX10 1 := ⟨q525, q526, q2, q527, by decide +kernel⟩
set_option maxHeartbeats 4000000 in
theorem xbX10_lastPlaceOf {n0 c0 s0 cx cy : Nat} {S : mSh} {μ : mMm} (o : Nat) (p0 : Int32) : mX MX10_lastPlaceOf n0 c0 s0 0 [some (.ref o), some (.int p0)] [] (S, μ, cx, cy) (iTI S cx cy) (bX10_lastPlaceOf S μ o p0) := by
  unfold bX10_lastPlaceOf
  refine x_iload_n (pc := 0) dX10_lastPlaceOf_0 (i := 1) rfl rfl ?_
  refine x_callSi (pc := 1) (As := [.int p0]) (rest := []) (vx := fun a => a) (μf := fun _ => μ) (mX10_isPair S μ cx cy p0) (fun _ => rfl) rfl dX10_lastPlaceOf_1 q517 kX10_isPair rfl ⟨by decide, by decide⟩ rfl (Nat.le_of_ble_eq_true rfl) (fun v1 => ?_)
  refine x_if_ne (pc := 4) (tgt := 18) dX10_lastPlaceOf_4 (by decide) ?_ ?_
  · exact x_throw rfl ⟨81, 292, 85, "pair out of range", dX10_lastPlaceOf_7, dX10_lastPlaceOf_10, Or.inr ⟨dX10_lastPlaceOf_11, dX10_lastPlaceOf_14, dX10_lastPlaceOf_17⟩, rfl, q147, q148, Or.inl ⟨rfl, rfl⟩, by decide, by decide, by decide⟩ (Nat.le_of_ble_eq_true rfl)
  · refine x_aload_n (pc := 18) dX10_lastPlaceOf_18 (i := 0) rfl rfl ?_
    refine x_gR (pc := 19) (k := 5) fcX10 dX10_lastPlaceOf_19 q29 (by decide) rfl (fun v2 => ?_)
    refine x_gR (pc := 22) (k := 2) fcX3 dX10_lastPlaceOf_22 q489 (by decide) rfl (fun v3 => ?_)
    refine x_aload_n (pc := 25) dX10_lastPlaceOf_25 (i := 0) rfl rfl ?_
    refine x_gR (pc := 26) (k := 0) fcX10 dX10_lastPlaceOf_26 q13 (by decide) rfl (fun v4 => ?_)
    refine x_gR (pc := 29) (k := 0) fcX7 dX10_lastPlaceOf_29 q27 (by decide) rfl (fun v5 => ?_)
    refine x_callVv (pc := 32) (As := [.ref v5]) (rest := []) (μf := fun a => a) fcX0 (mX0_read S μ cx cy v3 v5) (fun _ => rfl) rfl (fun _ h => ifok h) dX10_lastPlaceOf_32 q490 kX0_read rfl ⟨by decide, by decide⟩ rfl (Nat.le_of_ble_eq_true rfl) (fun m6 => ?_)
    refine x_aload_n (pc := 35) dX10_lastPlaceOf_35 (i := 0) rfl rfl ?_
    refine x_gR (pc := 36) (k := 5) fcX10 dX10_lastPlaceOf_36 q29 (by decide) rfl (fun v7 => ?_)
    refine x_gR (pc := 39) (k := 2) fcX3 dX10_lastPlaceOf_39 q489 (by decide) rfl (fun v8 => ?_)
    refine x_iload_n (pc := 42) dX10_lastPlaceOf_42 (i := 1) rfl rfl ?_
    refine x_callVi (pc := 43) (As := [.int p0]) (rest := []) (vx := fun a => a) (μf := fun _ => m6) fcX0 (mX0_lastPlace S m6 cx cy v8 p0) (fun _ => rfl) rfl (fun _ h => ifok h) dX10_lastPlaceOf_43 q528 kX0_lastPlace rfl ⟨by decide, by decide⟩ rfl (Nat.le_of_ble_eq_true rfl) (fun v9 => ?_)
    exact x_iret rfl dX10_lastPlaceOf_46 rfl rfl
theorem mX10_lastPlaceOf (S : mSh) (μ : mMm) (cx cy : Nat) (o : Nat) (p0 : Int32) : mMet MX10_lastPlaceOf [.ref o, .int p0] (S, μ, cx, cy) (iTI S cx cy) (fX10_lastPlaceOf S μ o p0) := mMet.of rfl (by decide) rfl (fun h => by cases h) (Nat.le_of_ble_eq_true rfl) (mX.ck (fun _ => xbX10_lastPlaceOf o p0))
/-! SlideMills.mostFrequent()I -/
def bX10_mostFrequent (S : mSh) (μ : mMm) (o : Nat) : Option ((Int32 ⊕ Nat) × mMm) := (gR S o 10 0).bind fun v1 => (gR S v1 7 0).bind fun v2 => (gI S μ v2 2 1).bind fun v3 => if (2 : Int32) ≤ v3 then ((gR S o 10 5).bind fun v4 => (gR S v4 3 2).bind fun v5 => (gR S o 10 0).bind fun v6 => (gR S v6 7 0).bind fun v7 => (fX0_read S μ v5 v7).bind fun m8 => (gR S o 10 5).bind fun v9 => (gR S v9 3 2).bind fun v10 => (fX0_commonest S m8 v10).bind fun v11 => some (.inl v11, m8)) else (some (.inr 1, μ))
def fX10_mostFrequent (S : mSh) (μ : mMm) (o : Nat) : Option ((Int32 ⊕ Nat) × mMm) := if mok S o 10 = true then bX10_mostFrequent S μ o else none
abbrev MX10_mostFrequent : mM := ((yX10_mostFrequent, cX10_mostFrequent, 1, (some .int)), (6, 90), (false, false), RX10, eT)
theorem kX10_mostFrequent : mCalV MX10_mostFrequent RX10 0 := ⟨q549, q550, q2, q551, by decide +kernel⟩
set_option maxHeartbeats 4000000 in
theorem xbX10_mostFrequent {n0 c0 s0 cx cy : Nat} {S : mSh} {μ : mMm} (o : Nat) : mX MX10_mostFrequent n0 c0 s0 0 [some (.ref o)] [] (S, μ, cx, cy) (iTI S cx cy) (bX10_mostFrequent S μ o) := by
  unfold bX10_mostFrequent
  refine x_aload_n (pc := 0) dX10_mostFrequent_0 (i := 0) rfl rfl ?_
  refine x_gR (pc := 1) (k := 0) fcX10 dX10_mostFrequent_1 q13 (by decide) rfl (fun v1 => ?_)
  refine x_gR (pc := 4) (k := 0) fcX7 dX10_mostFrequent_4 q27 (by decide) rfl (fun v2 => ?_)
  refine x_gI (pc := 7) (k := 1) fcX2 dX10_mostFrequent_7 q151 (by decide) rfl (fun v3 => ?_)
  refine x_iconst (pc := 10) (v := 2) dX10_mostFrequent_10 (by decide) ?_
  refine x_icmp_ge (pc := 11) (tgt := 25) dX10_mostFrequent_11 (by decide) ?_ ?_
  · refine x_aload_n (pc := 25) dX10_mostFrequent_25 (i := 0) rfl rfl ?_
    refine x_gR (pc := 26) (k := 5) fcX10 dX10_mostFrequent_26 q29 (by decide) rfl (fun v4 => ?_)
    refine x_gR (pc := 29) (k := 2) fcX3 dX10_mostFrequent_29 q489 (by decide) rfl (fun v5 => ?_)
    refine x_aload_n (pc := 32) dX10_mostFrequent_32 (i := 0) rfl rfl ?_
    refine x_gR (pc := 33) (k := 0) fcX10 dX10_mostFrequent_33 q13 (by decide) rfl (fun v6 => ?_)
    refine x_gR (pc := 36) (k := 0) fcX7 dX10_mostFrequent_36 q27 (by decide) rfl (fun v7 => ?_)
    refine x_callVv (pc := 39) (As := [.ref v7]) (rest := []) (μf := fun a => a) fcX0 (mX0_read S μ cx cy v5 v7) (fun _ => rfl) rfl (fun _ h => ifok h) dX10_mostFrequent_39 q490 kX0_read rfl ⟨by decide, by decide⟩ rfl (Nat.le_of_ble_eq_true rfl) (fun m8 => ?_)
    refine x_aload_n (pc := 42) dX10_mostFrequent_42 (i := 0) rfl rfl ?_
    refine x_gR (pc := 43) (k := 5) fcX10 dX10_mostFrequent_43 q29 (by decide) rfl (fun v9 => ?_)
    refine x_gR (pc := 46) (k := 2) fcX3 dX10_mostFrequent_46 q489 (by decide) rfl (fun v10 => ?_)
    refine x_callVi (pc := 49) (As := []) (rest := []) (vx := fun a => a) (μf := fun _ => m8) fcX0 (mX0_commonest S m8 cx cy v10) (fun _ => rfl) rfl (fun _ h => ifok h) dX10_mostFrequent_49 q552 kX0_commonest rfl ⟨by decide, by decide⟩ rfl (Nat.le_of_ble_eq_true rfl) (fun v11 => ?_)
    exact x_iret rfl dX10_mostFrequent_52 rfl rfl
  · exact x_throw rfl ⟨94, 300, 98, "the text has no pair", dX10_mostFrequent_14, dX10_mostFrequent_17, Or.inr ⟨dX10_mostFrequent_18, dX10_mostFrequent_21, dX10_mostFrequent_24⟩, rfl, q149, q150, Or.inr (Or.inl ⟨rfl, rfl⟩), by decide, by decide, by decide⟩ (Nat.le_of_ble_eq_true rfl)
theorem mX10_mostFrequent (S : mSh) (μ : mMm) (cx cy : Nat) (o : Nat) : mMet MX10_mostFrequent [.ref o] (S, μ, cx, cy) (iTI S cx cy) (fX10_mostFrequent S μ o) := mMet.of rfl (by decide) rfl (fun h => by cases h) (Nat.le_of_ble_eq_true rfl) (mX.ck (fun _ => xbX10_mostFrequent o))
/-! SlideMills.packedShare()D -/
def bX10_packedShare (S : mSh) (μ : mMm) (o : Nat) : Option (UInt64) := (gR S o 10 0).bind fun v1 => (gR S v1 7 2).bind fun v2 => (gI S μ v2 6 3).bind fun v3 => (gR S o 10 0).bind fun v4 => (gR S v4 7 1).bind fun v5 => (fX5_letters S μ v5).bind fun v6 => (gR S o 10 0).bind fun v7 => (gR S v7 7 1).bind fun v8 => (gI S μ v8 5 2).bind fun v9 => if v9 ≤ 0 then (some FP.dconst1) else (if 0 < (v3 * v6) then ((gR S o 10 0).bind fun v10 => (gR S v10 7 1).bind fun v11 => (gR S o 10 0).bind fun v12 => (gR S v12 7 2).bind fun v13 => (fX5_cost S μ v11 v13).bind fun v14 => (if vfn (FP.ddiv (FP.i2d v14) (FP.i2d (v3 * v6))) = true then (some (FP.ddiv (FP.i2d v14) (FP.i2d (v3 * v6)))) else none)) else (some FP.dconst1))
def fX10_packedShare (S : mSh) (μ : mMm) (o : Nat) : Option (UInt64) := if mok S o 10 = true then bX10_packedShare S μ o else none
abbrev MX10_packedShare : mM := ((yX10_packedShare, cX10_packedShare, 2, (some .double)), (3, 64), (false, false), RX10, eT)
theorem kX10_packedShare : mCalV MX10_packedShare RX10 0 := ⟨q470, q471, q2, q472, by decide +kernel⟩
set_option maxHeartbeats 4000000 in
theorem xbX10_packedShare {n0 c0 s0 cx cy : Nat} {S : mSh} {μ : mMm} (o : Nat) : mX MX10_packedShare n0 c0 s0 0 [some (.ref o), none] [] (S, μ, cx, cy) (iPD S μ cx cy) (bX10_packedShare S μ o) := by
  unfold bX10_packedShare
  refine x_aload_n (pc := 0) dX10_packedShare_0 (i := 0) rfl rfl ?_
  refine x_gR (pc := 1) (k := 0) fcX10 dX10_packedShare_1 q13 (by decide) rfl (fun v1 => ?_)
  refine x_gR (pc := 4) (k := 2) fcX7 dX10_packedShare_4 q28 (by decide) rfl (fun v2 => ?_)
  refine x_gI (pc := 7) (k := 3) fcX6 dX10_packedShare_7 q227 (by decide) rfl (fun v3 => ?_)
  refine x_aload_n (pc := 10) dX10_packedShare_10 (i := 0) rfl rfl ?_
  refine x_gR (pc := 11) (k := 0) fcX10 dX10_packedShare_11 q13 (by decide) rfl (fun v4 => ?_)
  refine x_gR (pc := 14) (k := 1) fcX7 dX10_packedShare_14 q255 (by decide) rfl (fun v5 => ?_)
  refine x_callVi (pc := 17) (As := []) (rest := [.int v3]) (vx := fun a => a) (μf := fun _ => μ) fcX5 (mX5_letters S μ cx cy v5) (fun _ => rfl) rfl (fun _ h => ifok h) dX10_packedShare_17 q446 kX5_letters rfl ⟨by decide, by decide⟩ rfl (Nat.le_of_ble_eq_true rfl) (fun v6 => ?_)
  refine x_imul (pc := 20) dX10_packedShare_20 ?_
  refine x_istore_n (pc := 21) dX10_packedShare_21 (i := 1) rfl (by decide) (l' := [some (.ref o), some (.int (v3 * v6))]) rfl ?_
  refine x_aload_n (pc := 22) dX10_packedShare_22 (i := 0) rfl rfl ?_
  refine x_gR (pc := 23) (k := 0) fcX10 dX10_packedShare_23 q13 (by decide) rfl (fun v7 => ?_)
  refine x_gR (pc := 26) (k := 1) fcX7 dX10_packedShare_26 q255 (by decide) rfl (fun v8 => ?_)
  refine x_gI (pc := 29) (k := 2) fcX5 dX10_packedShare_29 q256 (by decide) rfl (fun v9 => ?_)
  refine x_if_le (pc := 32) (tgt := 39) dX10_packedShare_32 (by decide) ?_ ?_
  · refine x_dconst1 (pc := 39) dX10_packedShare_39 ?_
    exact x_dret rfl dX10_packedShare_40 rfl
  · refine x_iload_n (pc := 35) dX10_packedShare_35 (i := 1) rfl rfl ?_
    refine x_if_gt (pc := 36) (tgt := 41) dX10_packedShare_36 (by decide) ?_ ?_
    · refine x_aload_n (pc := 41) dX10_packedShare_41 (i := 0) rfl rfl ?_
      refine x_gR (pc := 42) (k := 0) fcX10 dX10_packedShare_42 q13 (by decide) rfl (fun v10 => ?_)
      refine x_gR (pc := 45) (k := 1) fcX7 dX10_packedShare_45 q255 (by decide) rfl (fun v11 => ?_)
      refine x_aload_n (pc := 48) dX10_packedShare_48 (i := 0) rfl rfl ?_
      refine x_gR (pc := 49) (k := 0) fcX10 dX10_packedShare_49 q13 (by decide) rfl (fun v12 => ?_)
      refine x_gR (pc := 52) (k := 2) fcX7 dX10_packedShare_52 q28 (by decide) rfl (fun v13 => ?_)
      refine x_callVi (pc := 55) (As := [.ref v13]) (rest := []) (vx := fun a => a) (μf := fun _ => μ) fcX5 (mX5_cost S μ cx cy v11 v13) (fun _ => rfl) rfl (fun _ h => ifok h) dX10_packedShare_55 q436 kX5_cost rfl ⟨by decide, by decide⟩ rfl (Nat.le_of_ble_eq_true rfl) (fun v14 => ?_)
      refine x_i2d (pc := 58) dX10_packedShare_58 ?_
      refine x_iload_n (pc := 59) dX10_packedShare_59 (i := 1) rfl rfl ?_
      refine x_i2d (pc := 60) dX10_packedShare_60 ?_
      refine x_ddiv (pc := 61) dX10_packedShare_61 ?_
      exact x_dret rfl dX10_packedShare_62 rfl
    · refine x_dconst1 (pc := 39) dX10_packedShare_39 ?_
      exact x_dret rfl dX10_packedShare_40 rfl
theorem mX10_packedShare (S : mSh) (μ : mMm) (cx cy : Nat) (o : Nat) : mMet MX10_packedShare [.ref o] (S, μ, cx, cy) (iPD S μ cx cy) (fX10_packedShare S μ o) := mMet.of rfl (by decide) rfl (fun h => by cases h) (Nat.le_of_ble_eq_true rfl) (mX.ck (fun _ => xbX10_packedShare o))
