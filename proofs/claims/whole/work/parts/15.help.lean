/-! printed by gen.py: each method as a function of numbers, and that the machine does what it says -/
/-! SlideMillsLaw.addLetter(LSlideMills;I[J)I -/
def fL_addLetter (S : mSh) (μ : mMm) (p0 : Nat) (p1 : Int32) (p2 : Nat) : Option (Int32 × mMm × Nat) := (fX10_addLetter S μ p0 p1).bind fun r => hTry r (fun v1 m1 => (stL S m1 p2 (0 : Int32) v1.toInt64).bind fun m1 => some ((0 : Int32), m1, 0)) (fun E m1 => (if E = 0 then (some ((1 : Int32), m1, 1)) else if E = 1 then (some ((2 : Int32), m1, 1)) else none))
abbrev ML_addLetter : mM := ((yL_addLetter, cL_addLetter, 4, (some .int)), (7, 111), (false, false), RL, eH [(0, 9, 12, 13), (0, 9, 15, 15)])
theorem kL_addLetter : mCalH ML_addLetter [(0, 9, 12, 13), (0, 9, 15, 15)] 3 := ⟨q146, q147, q148, by decide +kernel⟩
set_option maxHeartbeats 4000000 in
theorem xbL_addLetter {n0 c0 s0 cx cy : Nat} {S : mSh} {μ : mMm} (p0 : Nat) (p1 : Int32) (p2 : Nat) : mX ML_addLetter n0 c0 s0 0 [some (.ref p0), some (.int p1), some (.ref p2), none] [] (S, μ, cx, cy) (iHI S cx cy) (fL_addLetter S μ p0 p1 p2) := by
  unfold fL_addLetter
  refine x_aload_n (pc := 0) dL_addLetter_0 (i := 2) rfl rfl ?_
  refine x_iconst (pc := 1) (v := 0) dL_addLetter_1 (by decide) ?_
  refine x_aload_n (pc := 2) dL_addLetter_2 (i := 0) rfl rfl ?_
  refine x_iload_n (pc := 3) dL_addLetter_3 (i := 1) rfl rfl ?_
  refine x_tryT (pc := 4) (As := [.int p1]) (rest := [.int (0 : Int32), .ref p2]) (hh := [(0, 9, 12, 13), (0, 9, 15, 15)]) fcX10 (mX10_addLetter S μ cx cy p0 p1) rfl rfl (fun _ h => ifok h) dL_addLetter_4 q151 kX10_addLetter rfl ⟨by decide, by decide⟩ rfl (Nat.le_of_ble_eq_true rfl) (fun v1 m1 => ?_) (fun E m1 => ?_)
  · refine x_i2l (pc := 7) dL_addLetter_7 ?_
    refine x_stL (pc := 8) dL_addLetter_8 (fun m1 => ?_)
    refine x_goto (pc := 9) (tgt := 18) dL_addLetter_9 (by decide) ?_
    refine x_iconst (pc := 18) (v := 0) dL_addLetter_18 (by decide) ?_
    exact x_iret rfl dL_addLetter_19 rfl rfl
  · refine mHd.ite (e := 0) (mHd.of (i := 3) (tgt := 12) (nx := 13) ⟨by decide, [], _, _, rfl, (fun _ h => nomatch h), by decide, by decide, q149, rfl⟩ (by decide) (Or.inl ⟨3, rfl, dL_addLetter_12, rfl⟩) ?_) ?_
    · refine x_iconst (pc := 13) (v := 1) dL_addLetter_13 (by decide) ?_
      exact x_iret rfl dL_addLetter_14 rfl rfl
    refine mHd.ite (e := 1) (mHd.of (i := 3) (tgt := 15) (nx := 16) ⟨by decide, [_], _, _, rfl, (fun z hz => by cases List.mem_singleton.mp hz; exact ⟨by decide, 0, by decide, by decide, q149⟩), by decide, by decide, q150, rfl⟩ (by decide) (Or.inl ⟨3, rfl, dL_addLetter_15, rfl⟩) ?_) ?_
    · refine x_iconst (pc := 16) (v := 2) dL_addLetter_16 (by decide) ?_
      exact x_iret rfl dL_addLetter_17 rfl rfl
    exact mHd.no
theorem mL_addLetter (S : mSh) (μ : mMm) (cx cy : Nat) (p0 : Nat) (p1 : Int32) (p2 : Nat) : mMetH ML_addLetter [(0, 9, 12, 13), (0, 9, 15, 15)] [.ref p0, .int p1, .ref p2] (S, μ, cx, cy) (iHI S cx cy) (fL_addLetter S μ p0 p1 p2) := mMetH.of rfl (fun _ => rfl) (by decide) rfl (fun h => by cases h) (Nat.le_of_ble_eq_true rfl) (xbL_addLetter p0 p1 p2)
/-! SlideMillsLaw.setLetter(LSlideMills;II[J)I -/
def fL_setLetter (S : mSh) (μ : mMm) (p0 : Nat) (p1 : Int32) (p2 : Int32) (p3 : Nat) : Option (Int32 × mMm × Nat) := (fX10_setLetter S μ p0 p1 p2).bind fun r => hTry r (fun v1 m1 => (stL S m1 p3 (0 : Int32) v1.toInt64).bind fun m1 => some ((0 : Int32), m1, 0)) (fun E m1 => (if E = 2 then (some ((1 : Int32), m1, 1)) else if E = 0 then (some ((2 : Int32), m1, 1)) else none))
abbrev ML_setLetter : mM := ((yL_setLetter, cL_setLetter, 5, (some .int)), (7, 113), (false, false), RL, eH [(0, 10, 13, 21), (0, 10, 17, 13)])
theorem kL_setLetter : mCalH ML_setLetter [(0, 10, 13, 21), (0, 10, 17, 13)] 4 := ⟨q221, q147, q222, by decide +kernel⟩
set_option maxHeartbeats 4000000 in
theorem xbL_setLetter {n0 c0 s0 cx cy : Nat} {S : mSh} {μ : mMm} (p0 : Nat) (p1 : Int32) (p2 : Int32) (p3 : Nat) : mX ML_setLetter n0 c0 s0 0 [some (.ref p0), some (.int p1), some (.int p2), some (.ref p3), none] [] (S, μ, cx, cy) (iHI S cx cy) (fL_setLetter S μ p0 p1 p2 p3) := by
  unfold fL_setLetter
  refine x_aload_n (pc := 0) dL_setLetter_0 (i := 3) rfl rfl ?_
  refine x_iconst (pc := 1) (v := 0) dL_setLetter_1 (by decide) ?_
  refine x_aload_n (pc := 2) dL_setLetter_2 (i := 0) rfl rfl ?_
  refine x_iload_n (pc := 3) dL_setLetter_3 (i := 1) rfl rfl ?_
  refine x_iload_n (pc := 4) dL_setLetter_4 (i := 2) rfl rfl ?_
  refine x_tryT (pc := 5) (As := [.int p1, .int p2]) (rest := [.int (0 : Int32), .ref p3]) (hh := [(0, 10, 13, 21), (0, 10, 17, 13)]) fcX10 (mX10_setLetter S μ cx cy p0 p1 p2) rfl rfl (fun _ h => ifok h) dL_setLetter_5 q224 kX10_setLetter rfl ⟨by decide, by decide⟩ rfl (Nat.le_of_ble_eq_true rfl) (fun v1 m1 => ?_) (fun E m1 => ?_)
  · refine x_i2l (pc := 8) dL_setLetter_8 ?_
    refine x_stL (pc := 9) dL_setLetter_9 (fun m1 => ?_)
    refine x_goto (pc := 10) (tgt := 21) dL_setLetter_10 (by decide) ?_
    refine x_iconst (pc := 21) (v := 0) dL_setLetter_21 (by decide) ?_
    exact x_iret rfl dL_setLetter_22 rfl rfl
  · refine mHd.ite (e := 2) (mHd.of (i := 4) (tgt := 13) (nx := 15) ⟨by decide, [], _, _, rfl, (fun _ h => nomatch h), by decide, by decide, q223, rfl⟩ (by decide) (Or.inr ⟨dL_setLetter_13, rfl⟩) ?_) ?_
    · refine x_iconst (pc := 15) (v := 1) dL_setLetter_15 (by decide) ?_
      exact x_iret rfl dL_setLetter_16 rfl rfl
    refine mHd.ite (e := 0) (mHd.of (i := 4) (tgt := 17) (nx := 19) ⟨by decide, [_], _, _, rfl, (fun z hz => by cases List.mem_singleton.mp hz; exact ⟨by decide, 2, by decide, by decide, q223⟩), by decide, by decide, q149, rfl⟩ (by decide) (Or.inr ⟨dL_setLetter_17, rfl⟩) ?_) ?_
    · refine x_iconst (pc := 19) (v := 2) dL_setLetter_19 (by decide) ?_
      exact x_iret rfl dL_setLetter_20 rfl rfl
    exact mHd.no
theorem mL_setLetter (S : mSh) (μ : mMm) (cx cy : Nat) (p0 : Nat) (p1 : Int32) (p2 : Int32) (p3 : Nat) : mMetH ML_setLetter [(0, 10, 13, 21), (0, 10, 17, 13)] [.ref p0, .int p1, .int p2, .ref p3] (S, μ, cx, cy) (iHI S cx cy) (fL_setLetter S μ p0 p1 p2 p3) := mMetH.of rfl (fun _ => rfl) (by decide) rfl (fun h => by cases h) (Nat.le_of_ble_eq_true rfl) (xbL_setLetter p0 p1 p2 p3)
/-! SlideMillsLaw.setWindow(LSlideMills;I[J)I -/
def fL_setWindow (S : mSh) (μ : mMm) (p0 : Nat) (p1 : Int32) (p2 : Nat) : Option (Int32 × mMm × Nat) := (fX10_setWindow S μ p0 p1).bind fun r => hTry r (fun v1 m1 => (stL S m1 p2 (0 : Int32) v1.toInt64).bind fun m1 => some ((0 : Int32), m1, 0)) (fun E m1 => (if E = 0 then (some ((1 : Int32), m1, 1)) else none))
abbrev ML_setWindow : mM := ((yL_setWindow, cL_setWindow, 4, (some .int)), (7, 112), (false, false), RL, eH [(0, 9, 12, 13)])
theorem kL_setWindow : mCalH ML_setWindow [(0, 9, 12, 13)] 3 := ⟨q271, q147, q272, by decide +kernel⟩
set_option maxHeartbeats 4000000 in
theorem xbL_setWindow {n0 c0 s0 cx cy : Nat} {S : mSh} {μ : mMm} (p0 : Nat) (p1 : Int32) (p2 : Nat) : mX ML_setWindow n0 c0 s0 0 [some (.ref p0), some (.int p1), some (.ref p2), none] [] (S, μ, cx, cy) (iHI S cx cy) (fL_setWindow S μ p0 p1 p2) := by
  unfold fL_setWindow
  refine x_aload_n (pc := 0) dL_setWindow_0 (i := 2) rfl rfl ?_
  refine x_iconst (pc := 1) (v := 0) dL_setWindow_1 (by decide) ?_
  refine x_aload_n (pc := 2) dL_setWindow_2 (i := 0) rfl rfl ?_
  refine x_iload_n (pc := 3) dL_setWindow_3 (i := 1) rfl rfl ?_
  refine x_tryT (pc := 4) (As := [.int p1]) (rest := [.int (0 : Int32), .ref p2]) (hh := [(0, 9, 12, 13)]) fcX10 (mX10_setWindow S μ cx cy p0 p1) rfl rfl (fun _ h => ifok h) dL_setWindow_4 q273 kX10_setWindow rfl ⟨by decide, by decide⟩ rfl (Nat.le_of_ble_eq_true rfl) (fun v1 m1 => ?_) (fun E m1 => ?_)
  · refine x_i2l (pc := 7) dL_setWindow_7 ?_
    refine x_stL (pc := 8) dL_setWindow_8 (fun m1 => ?_)
    refine x_goto (pc := 9) (tgt := 15) dL_setWindow_9 (by decide) ?_
    refine x_iconst (pc := 15) (v := 0) dL_setWindow_15 (by decide) ?_
    exact x_iret rfl dL_setWindow_16 rfl rfl
  · refine mHd.ite (e := 0) (mHd.of (i := 3) (tgt := 12) (nx := 13) ⟨by decide, [], _, _, rfl, (fun _ h => nomatch h), by decide, by decide, q149, rfl⟩ (by decide) (Or.inl ⟨3, rfl, dL_setWindow_12, rfl⟩) ?_) ?_
    · refine x_iconst (pc := 13) (v := 1) dL_setWindow_13 (by decide) ?_
      exact x_iret rfl dL_setWindow_14 rfl rfl
    exact mHd.no
theorem mL_setWindow (S : mSh) (μ : mMm) (cx cy : Nat) (p0 : Nat) (p1 : Int32) (p2 : Nat) : mMetH ML_setWindow [(0, 9, 12, 13)] [.ref p0, .int p1, .ref p2] (S, μ, cx, cy) (iHI S cx cy) (fL_setWindow S μ p0 p1 p2) := mMetH.of rfl (fun _ => rfl) (by decide) rfl (fun h => by cases h) (Nat.le_of_ble_eq_true rfl) (xbL_setWindow p0 p1 p2)
/-! SlideMillsLaw.setShortest(LSlideMills;I[J)I -/
def fL_setShortest (S : mSh) (μ : mMm) (p0 : Nat) (p1 : Int32) (p2 : Nat) : Option (Int32 × mMm × Nat) := (fX10_setShortest S μ p0 p1).bind fun r => hTry r (fun v1 m1 => (stL S m1 p2 (0 : Int32) v1.toInt64).bind fun m1 => some ((0 : Int32), m1, 0)) (fun E m1 => (if E = 0 then (some ((1 : Int32), m1, 1)) else none))
abbrev ML_setShortest : mM := ((yL_setShortest, cL_setShortest, 4, (some .int)), (7, 112), (false, false), RL, eH [(0, 9, 12, 13)])
theorem kL_setShortest : mCalH ML_setShortest [(0, 9, 12, 13)] 3 := ⟨q290, q147, q291, by decide +kernel⟩
set_option maxHeartbeats 4000000 in
theorem xbL_setShortest {n0 c0 s0 cx cy : Nat} {S : mSh} {μ : mMm} (p0 : Nat) (p1 : Int32) (p2 : Nat) : mX ML_setShortest n0 c0 s0 0 [some (.ref p0), some (.int p1), some (.ref p2), none] [] (S, μ, cx, cy) (iHI S cx cy) (fL_setShortest S μ p0 p1 p2) := by
  unfold fL_setShortest
  refine x_aload_n (pc := 0) dL_setShortest_0 (i := 2) rfl rfl ?_
  refine x_iconst (pc := 1) (v := 0) dL_setShortest_1 (by decide) ?_
  refine x_aload_n (pc := 2) dL_setShortest_2 (i := 0) rfl rfl ?_
  refine x_iload_n (pc := 3) dL_setShortest_3 (i := 1) rfl rfl ?_
  refine x_tryT (pc := 4) (As := [.int p1]) (rest := [.int (0 : Int32), .ref p2]) (hh := [(0, 9, 12, 13)]) fcX10 (mX10_setShortest S μ cx cy p0 p1) rfl rfl (fun _ h => ifok h) dL_setShortest_4 q292 kX10_setShortest rfl ⟨by decide, by decide⟩ rfl (Nat.le_of_ble_eq_true rfl) (fun v1 m1 => ?_) (fun E m1 => ?_)
  · refine x_i2l (pc := 7) dL_setShortest_7 ?_
    refine x_stL (pc := 8) dL_setShortest_8 (fun m1 => ?_)
    refine x_goto (pc := 9) (tgt := 15) dL_setShortest_9 (by decide) ?_
    refine x_iconst (pc := 15) (v := 0) dL_setShortest_15 (by decide) ?_
    exact x_iret rfl dL_setShortest_16 rfl rfl
  · refine mHd.ite (e := 0) (mHd.of (i := 3) (tgt := 12) (nx := 13) ⟨by decide, [], _, _, rfl, (fun _ h => nomatch h), by decide, by decide, q149, rfl⟩ (by decide) (Or.inl ⟨3, rfl, dL_setShortest_12, rfl⟩) ?_) ?_
    · refine x_iconst (pc := 13) (v := 1) dL_setShortest_13 (by decide) ?_
      exact x_iret rfl dL_setShortest_14 rfl rfl
    exact mHd.no
theorem mL_setShortest (S : mSh) (μ : mMm) (cx cy : Nat) (p0 : Nat) (p1 : Int32) (p2 : Nat) : mMetH ML_setShortest [(0, 9, 12, 13)] [.ref p0, .int p1, .ref p2] (S, μ, cx, cy) (iHI S cx cy) (fL_setShortest S μ p0 p1 p2) := mMetH.of rfl (fun _ => rfl) (by decide) rfl (fun h => by cases h) (Nat.le_of_ble_eq_true rfl) (xbL_setShortest p0 p1 p2)
/-! SlideMillsLaw.setLongest(LSlideMills;I[J)I -/
def fL_setLongest (S : mSh) (μ : mMm) (p0 : Nat) (p1 : Int32) (p2 : Nat) : Option (Int32 × mMm × Nat) := (fX10_setLongest S μ p0 p1).bind fun r => hTry r (fun v1 m1 => (stL S m1 p2 (0 : Int32) v1.toInt64).bind fun m1 => some ((0 : Int32), m1, 0)) (fun E m1 => (if E = 0 then (some ((1 : Int32), m1, 1)) else none))
abbrev ML_setLongest : mM := ((yL_setLongest, cL_setLongest, 4, (some .int)), (7, 112), (false, false), RL, eH [(0, 9, 12, 13)])
theorem kL_setLongest : mCalH ML_setLongest [(0, 9, 12, 13)] 3 := ⟨q302, q147, q303, by decide +kernel⟩
set_option maxHeartbeats 4000000 in
theorem xbL_setLongest {n0 c0 s0 cx cy : Nat} {S : mSh} {μ : mMm} (p0 : Nat) (p1 : Int32) (p2 : Nat) : mX ML_setLongest n0 c0 s0 0 [some (.ref p0), some (.int p1), some (.ref p2), none] [] (S, μ, cx, cy) (iHI S cx cy) (fL_setLongest S μ p0 p1 p2) := by
  unfold fL_setLongest
  refine x_aload_n (pc := 0) dL_setLongest_0 (i := 2) rfl rfl ?_
  refine x_iconst (pc := 1) (v := 0) dL_setLongest_1 (by decide) ?_
  refine x_aload_n (pc := 2) dL_setLongest_2 (i := 0) rfl rfl ?_
  refine x_iload_n (pc := 3) dL_setLongest_3 (i := 1) rfl rfl ?_
  refine x_tryT (pc := 4) (As := [.int p1]) (rest := [.int (0 : Int32), .ref p2]) (hh := [(0, 9, 12, 13)]) fcX10 (mX10_setLongest S μ cx cy p0 p1) rfl rfl (fun _ h => ifok h) dL_setLongest_4 q304 kX10_setLongest rfl ⟨by decide, by decide⟩ rfl (Nat.le_of_ble_eq_true rfl) (fun v1 m1 => ?_) (fun E m1 => ?_)
  · refine x_i2l (pc := 7) dL_setLongest_7 ?_
    refine x_stL (pc := 8) dL_setLongest_8 (fun m1 => ?_)
    refine x_goto (pc := 9) (tgt := 15) dL_setLongest_9 (by decide) ?_
    refine x_iconst (pc := 15) (v := 0) dL_setLongest_15 (by decide) ?_
    exact x_iret rfl dL_setLongest_16 rfl rfl
  · refine mHd.ite (e := 0) (mHd.of (i := 3) (tgt := 12) (nx := 13) ⟨by decide, [], _, _, rfl, (fun _ h => nomatch h), by decide, by decide, q149, rfl⟩ (by decide) (Or.inl ⟨3, rfl, dL_setLongest_12, rfl⟩) ?_) ?_
    · refine x_iconst (pc := 13) (v := 1) dL_setLongest_13 (by decide) ?_
      exact x_iret rfl dL_setLongest_14 rfl rfl
    exact mHd.no
theorem mL_setLongest (S : mSh) (μ : mMm) (cx cy : Nat) (p0 : Nat) (p1 : Int32) (p2 : Nat) : mMetH ML_setLongest [(0, 9, 12, 13)] [.ref p0, .int p1, .ref p2] (S, μ, cx, cy) (iHI S cx cy) (fL_setLongest S μ p0 p1 p2) := mMetH.of rfl (fun _ => rfl) (by decide) rfl (fun h => by cases h) (Nat.le_of_ble_eq_true rfl) (xbL_setLongest p0 p1 p2)
/-! SlideMillsLaw.setLetterPrice(LSlideMills;I[J)I -/
def fL_setLetterPrice (S : mSh) (μ : mMm) (p0 : Nat) (p1 : Int32) (p2 : Nat) : Option (Int32 × mMm × Nat) := (fX10_setLetterPrice S μ p0 p1).bind fun r => hTry r (fun v1 m1 => (stL S m1 p2 (0 : Int32) v1.toInt64).bind fun m1 => some ((0 : Int32), m1, 0)) (fun E m1 => (if E = 0 then (some ((1 : Int32), m1, 1)) else none))
abbrev ML_setLetterPrice : mM := ((yL_setLetterPrice, cL_setLetterPrice, 4, (some .int)), (7, 112), (false, false), RL, eH [(0, 9, 12, 13)])
theorem kL_setLetterPrice : mCalH ML_setLetterPrice [(0, 9, 12, 13)] 3 := ⟨q314, q147, q315, by decide +kernel⟩
set_option maxHeartbeats 4000000 in
theorem xbL_setLetterPrice {n0 c0 s0 cx cy : Nat} {S : mSh} {μ : mMm} (p0 : Nat) (p1 : Int32) (p2 : Nat) : mX ML_setLetterPrice n0 c0 s0 0 [some (.ref p0), some (.int p1), some (.ref p2), none] [] (S, μ, cx, cy) (iHI S cx cy) (fL_setLetterPrice S μ p0 p1 p2) := by
  unfold fL_setLetterPrice
  refine x_aload_n (pc := 0) dL_setLetterPrice_0 (i := 2) rfl rfl ?_
  refine x_iconst (pc := 1) (v := 0) dL_setLetterPrice_1 (by decide) ?_
  refine x_aload_n (pc := 2) dL_setLetterPrice_2 (i := 0) rfl rfl ?_
  refine x_iload_n (pc := 3) dL_setLetterPrice_3 (i := 1) rfl rfl ?_
  refine x_tryT (pc := 4) (As := [.int p1]) (rest := [.int (0 : Int32), .ref p2]) (hh := [(0, 9, 12, 13)]) fcX10 (mX10_setLetterPrice S μ cx cy p0 p1) rfl rfl (fun _ h => ifok h) dL_setLetterPrice_4 q316 kX10_setLetterPrice rfl ⟨by decide, by decide⟩ rfl (Nat.le_of_ble_eq_true rfl) (fun v1 m1 => ?_) (fun E m1 => ?_)
  · refine x_i2l (pc := 7) dL_setLetterPrice_7 ?_
    refine x_stL (pc := 8) dL_setLetterPrice_8 (fun m1 => ?_)
    refine x_goto (pc := 9) (tgt := 15) dL_setLetterPrice_9 (by decide) ?_
    refine x_iconst (pc := 15) (v := 0) dL_setLetterPrice_15 (by decide) ?_
    exact x_iret rfl dL_setLetterPrice_16 rfl rfl
  · refine mHd.ite (e := 0) (mHd.of (i := 3) (tgt := 12) (nx := 13) ⟨by decide, [], _, _, rfl, (fun _ h => nomatch h), by decide, by decide, q149, rfl⟩ (by decide) (Or.inl ⟨3, rfl, dL_setLetterPrice_12, rfl⟩) ?_) ?_
    · refine x_iconst (pc := 13) (v := 1) dL_setLetterPrice_13 (by decide) ?_
      exact x_iret rfl dL_setLetterPrice_14 rfl rfl
    exact mHd.no
theorem mL_setLetterPrice (S : mSh) (μ : mMm) (cx cy : Nat) (p0 : Nat) (p1 : Int32) (p2 : Nat) : mMetH ML_setLetterPrice [(0, 9, 12, 13)] [.ref p0, .int p1, .ref p2] (S, μ, cx, cy) (iHI S cx cy) (fL_setLetterPrice S μ p0 p1 p2) := mMetH.of rfl (fun _ => rfl) (by decide) rfl (fun h => by cases h) (Nat.le_of_ble_eq_true rfl) (xbL_setLetterPrice p0 p1 p2)
/-! SlideMillsLaw.setRepeatPrice(LSlideMills;I[J)I -/
def fL_setRepeatPrice (S : mSh) (μ : mMm) (p0 : Nat) (p1 : Int32) (p2 : Nat) : Option (Int32 × mMm × Nat) := (fX10_setRepeatPrice S μ p0 p1).bind fun r => hTry r (fun v1 m1 => (stL S m1 p2 (0 : Int32) v1.toInt64).bind fun m1 => some ((0 : Int32), m1, 0)) (fun E m1 => (if E = 0 then (some ((1 : Int32), m1, 1)) else none))
abbrev ML_setRepeatPrice : mM := ((yL_setRepeatPrice, cL_setRepeatPrice, 4, (some .int)), (7, 112), (false, false), RL, eH [(0, 9, 12, 13)])
theorem kL_setRepeatPrice : mCalH ML_setRepeatPrice [(0, 9, 12, 13)] 3 := ⟨q326, q147, q327, by decide +kernel⟩
set_option maxHeartbeats 4000000 in
theorem xbL_setRepeatPrice {n0 c0 s0 cx cy : Nat} {S : mSh} {μ : mMm} (p0 : Nat) (p1 : Int32) (p2 : Nat) : mX ML_setRepeatPrice n0 c0 s0 0 [some (.ref p0), some (.int p1), some (.ref p2), none] [] (S, μ, cx, cy) (iHI S cx cy) (fL_setRepeatPrice S μ p0 p1 p2) := by
  unfold fL_setRepeatPrice
  refine x_aload_n (pc := 0) dL_setRepeatPrice_0 (i := 2) rfl rfl ?_
  refine x_iconst (pc := 1) (v := 0) dL_setRepeatPrice_1 (by decide) ?_
  refine x_aload_n (pc := 2) dL_setRepeatPrice_2 (i := 0) rfl rfl ?_
  refine x_iload_n (pc := 3) dL_setRepeatPrice_3 (i := 1) rfl rfl ?_
  refine x_tryT (pc := 4) (As := [.int p1]) (rest := [.int (0 : Int32), .ref p2]) (hh := [(0, 9, 12, 13)]) fcX10 (mX10_setRepeatPrice S μ cx cy p0 p1) rfl rfl (fun _ h => ifok h) dL_setRepeatPrice_4 q328 kX10_setRepeatPrice rfl ⟨by decide, by decide⟩ rfl (Nat.le_of_ble_eq_true rfl) (fun v1 m1 => ?_) (fun E m1 => ?_)
  · refine x_i2l (pc := 7) dL_setRepeatPrice_7 ?_
    refine x_stL (pc := 8) dL_setRepeatPrice_8 (fun m1 => ?_)
    refine x_goto (pc := 9) (tgt := 15) dL_setRepeatPrice_9 (by decide) ?_
    refine x_iconst (pc := 15) (v := 0) dL_setRepeatPrice_15 (by decide) ?_
    exact x_iret rfl dL_setRepeatPrice_16 rfl rfl
  · refine mHd.ite (e := 0) (mHd.of (i := 3) (tgt := 12) (nx := 13) ⟨by decide, [], _, _, rfl, (fun _ h => nomatch h), by decide, by decide, q149, rfl⟩ (by decide) (Or.inl ⟨3, rfl, dL_setRepeatPrice_12, rfl⟩) ?_) ?_
    · refine x_iconst (pc := 13) (v := 1) dL_setRepeatPrice_13 (by decide) ?_
      exact x_iret rfl dL_setRepeatPrice_14 rfl rfl
    exact mHd.no
theorem mL_setRepeatPrice (S : mSh) (μ : mMm) (cx cy : Nat) (p0 : Nat) (p1 : Int32) (p2 : Nat) : mMetH ML_setRepeatPrice [(0, 9, 12, 13)] [.ref p0, .int p1, .ref p2] (S, μ, cx, cy) (iHI S cx cy) (fL_setRepeatPrice S μ p0 p1 p2) := mMetH.of rfl (fun _ => rfl) (by decide) rfl (fun h => by cases h) (Nat.le_of_ble_eq_true rfl) (xbL_setRepeatPrice p0 p1 p2)
/-! SlideMillsLaw.pack(LSlideMills;I[J)I -/
def fL_pack (S : mSh) (μ : mMm) (p0 : Nat) (p1 : Int32) (p2 : Nat) : Option (Int32 × mMm × Nat) := (fX10_pack S μ p0 p1).bind fun r => hTry r (fun v1 m1 => (stL S m1 p2 (0 : Int32) v1.toInt64).bind fun m1 => some ((0 : Int32), m1, 0)) (fun E m1 => (if E = 0 then (some ((1 : Int32), m1, 1)) else none))
abbrev ML_pack : mM := ((yL_pack, cL_pack, 4, (some .int)), (7, 162), (false, false), RL, eH [(0, 9, 12, 13)])
theorem kL_pack : mCalH ML_pack [(0, 9, 12, 13)] 3 := ⟨q338, q147, q339, by decide +kernel⟩
set_option maxHeartbeats 4000000 in
theorem xbL_pack {n0 c0 s0 cx cy : Nat} {S : mSh} {μ : mMm} (p0 : Nat) (p1 : Int32) (p2 : Nat) : mX ML_pack n0 c0 s0 0 [some (.ref p0), some (.int p1), some (.ref p2), none] [] (S, μ, cx, cy) (iHI S cx cy) (fL_pack S μ p0 p1 p2) := by
  unfold fL_pack
  refine x_aload_n (pc := 0) dL_pack_0 (i := 2) rfl rfl ?_
  refine x_iconst (pc := 1) (v := 0) dL_pack_1 (by decide) ?_
  refine x_aload_n (pc := 2) dL_pack_2 (i := 0) rfl rfl ?_
  refine x_iload_n (pc := 3) dL_pack_3 (i := 1) rfl rfl ?_
  refine x_tryT (pc := 4) (As := [.int p1]) (rest := [.int (0 : Int32), .ref p2]) (hh := [(0, 9, 12, 13)]) fcX10 (mX10_pack S μ cx cy p0 p1) rfl rfl (fun _ h => ifok h) dL_pack_4 q340 kX10_pack rfl ⟨by decide, by decide⟩ rfl (Nat.le_of_ble_eq_true rfl) (fun v1 m1 => ?_) (fun E m1 => ?_)
  · refine x_i2l (pc := 7) dL_pack_7 ?_
    refine x_stL (pc := 8) dL_pack_8 (fun m1 => ?_)
    refine x_goto (pc := 9) (tgt := 15) dL_pack_9 (by decide) ?_
    refine x_iconst (pc := 15) (v := 0) dL_pack_15 (by decide) ?_
    exact x_iret rfl dL_pack_16 rfl rfl
  · refine mHd.ite (e := 0) (mHd.of (i := 3) (tgt := 12) (nx := 13) ⟨by decide, [], _, _, rfl, (fun _ h => nomatch h), by decide, by decide, q149, rfl⟩ (by decide) (Or.inl ⟨3, rfl, dL_pack_12, rfl⟩) ?_) ?_
    · refine x_iconst (pc := 13) (v := 1) dL_pack_13 (by decide) ?_
      exact x_iret rfl dL_pack_14 rfl rfl
    exact mHd.no
theorem mL_pack (S : mSh) (μ : mMm) (cx cy : Nat) (p0 : Nat) (p1 : Int32) (p2 : Nat) : mMetH ML_pack [(0, 9, 12, 13)] [.ref p0, .int p1, .ref p2] (S, μ, cx, cy) (iHI S cx cy) (fL_pack S μ p0 p1 p2) := mMetH.of rfl (fun _ => rfl) (by decide) rfl (fun h => by cases h) (Nat.le_of_ble_eq_true rfl) (xbL_pack p0 p1 p2)
/-! SlideMillsLaw.unpack(LSlideMills;[J)I -/
def fL_unpack (S : mSh) (μ : mMm) (p0 : Nat) (p1 : Nat) : Option (Int32 × mMm × Nat) := (fX10_unpack S μ p0).bind fun r => hTry r (fun v1 m1 => (stL S m1 p1 (0 : Int32) v1.toInt64).bind fun m1 => some ((0 : Int32), m1, 0)) (fun E m1 => (if E = 1 then (some ((1 : Int32), m1, 1)) else none))
abbrev ML_unpack : mM := ((yL_unpack, cL_unpack, 3, (some .int)), (7, 110), (false, false), RL, eH [(0, 8, 11, 15)])
theorem kL_unpack : mCalH ML_unpack [(0, 8, 11, 15)] 2 := ⟨q453, q147, q454, by decide +kernel⟩
set_option maxHeartbeats 4000000 in
theorem xbL_unpack {n0 c0 s0 cx cy : Nat} {S : mSh} {μ : mMm} (p0 : Nat) (p1 : Nat) : mX ML_unpack n0 c0 s0 0 [some (.ref p0), some (.ref p1), none] [] (S, μ, cx, cy) (iHI S cx cy) (fL_unpack S μ p0 p1) := by
  unfold fL_unpack
  refine x_aload_n (pc := 0) dL_unpack_0 (i := 1) rfl rfl ?_
  refine x_iconst (pc := 1) (v := 0) dL_unpack_1 (by decide) ?_
  refine x_aload_n (pc := 2) dL_unpack_2 (i := 0) rfl rfl ?_
  refine x_tryT (pc := 3) (As := []) (rest := [.int (0 : Int32), .ref p1]) (hh := [(0, 8, 11, 15)]) fcX10 (mX10_unpack S μ cx cy p0) rfl rfl (fun _ h => ifok h) dL_unpack_3 q455 kX10_unpack rfl ⟨by decide, by decide⟩ rfl (Nat.le_of_ble_eq_true rfl) (fun v1 m1 => ?_) (fun E m1 => ?_)
  · refine x_i2l (pc := 6) dL_unpack_6 ?_
    refine x_stL (pc := 7) dL_unpack_7 (fun m1 => ?_)
    refine x_goto (pc := 8) (tgt := 14) dL_unpack_8 (by decide) ?_
    refine x_iconst (pc := 14) (v := 0) dL_unpack_14 (by decide) ?_
    exact x_iret rfl dL_unpack_15 rfl rfl
  · refine mHd.ite (e := 1) (mHd.of (i := 2) (tgt := 11) (nx := 12) ⟨by decide, [], _, _, rfl, (fun _ h => nomatch h), by decide, by decide, q150, rfl⟩ (by decide) (Or.inl ⟨2, rfl, dL_unpack_11, rfl⟩) ?_) ?_
    · refine x_iconst (pc := 12) (v := 1) dL_unpack_12 (by decide) ?_
      exact x_iret rfl dL_unpack_13 rfl rfl
    exact mHd.no
theorem mL_unpack (S : mSh) (μ : mMm) (cx cy : Nat) (p0 : Nat) (p1 : Nat) : mMetH ML_unpack [(0, 8, 11, 15)] [.ref p0, .ref p1] (S, μ, cx, cy) (iHI S cx cy) (fL_unpack S μ p0 p1) := mMetH.of rfl (fun _ => rfl) (by decide) rfl (fun h => by cases h) (Nat.le_of_ble_eq_true rfl) (xbL_unpack p0 p1)
/-! SlideMillsLaw.addToken(LSlideMills;I[J)I -/
def fL_addToken (S : mSh) (μ : mMm) (p0 : Nat) (p1 : Int32) (p2 : Nat) : Option (Int32 × mMm × Nat) := (fX10_addToken S μ p0 p1).bind fun r => hTry r (fun v1 m1 => (stL S m1 p2 (0 : Int32) v1.toInt64).bind fun m1 => some ((0 : Int32), m1, 0)) (fun E m1 => (if E = 0 then (some ((1 : Int32), m1, 1)) else if E = 1 then (some ((2 : Int32), m1, 1)) else none))
abbrev ML_addToken : mM := ((yL_addToken, cL_addToken, 4, (some .int)), (7, 111), (false, false), RL, eH [(0, 9, 12, 13), (0, 9, 15, 15)])
theorem kL_addToken : mCalH ML_addToken [(0, 9, 12, 13), (0, 9, 15, 15)] 3 := ⟨q509, q147, q510, by decide +kernel⟩
set_option maxHeartbeats 4000000 in
theorem xbL_addToken {n0 c0 s0 cx cy : Nat} {S : mSh} {μ : mMm} (p0 : Nat) (p1 : Int32) (p2 : Nat) : mX ML_addToken n0 c0 s0 0 [some (.ref p0), some (.int p1), some (.ref p2), none] [] (S, μ, cx, cy) (iHI S cx cy) (fL_addToken S μ p0 p1 p2) := by
  unfold fL_addToken
  refine x_aload_n (pc := 0) dL_addToken_0 (i := 2) rfl rfl ?_
  refine x_iconst (pc := 1) (v := 0) dL_addToken_1 (by decide) ?_
  refine x_aload_n (pc := 2) dL_addToken_2 (i := 0) rfl rfl ?_
  refine x_iload_n (pc := 3) dL_addToken_3 (i := 1) rfl rfl ?_
  refine x_tryT (pc := 4) (As := [.int p1]) (rest := [.int (0 : Int32), .ref p2]) (hh := [(0, 9, 12, 13), (0, 9, 15, 15)]) fcX10 (mX10_addToken S μ cx cy p0 p1) rfl rfl (fun _ h => ifok h) dL_addToken_4 q511 kX10_addToken rfl ⟨by decide, by decide⟩ rfl (Nat.le_of_ble_eq_true rfl) (fun v1 m1 => ?_) (fun E m1 => ?_)
  · refine x_i2l (pc := 7) dL_addToken_7 ?_
    refine x_stL (pc := 8) dL_addToken_8 (fun m1 => ?_)
    refine x_goto (pc := 9) (tgt := 18) dL_addToken_9 (by decide) ?_
    refine x_iconst (pc := 18) (v := 0) dL_addToken_18 (by decide) ?_
    exact x_iret rfl dL_addToken_19 rfl rfl
  · refine mHd.ite (e := 0) (mHd.of (i := 3) (tgt := 12) (nx := 13) ⟨by decide, [], _, _, rfl, (fun _ h => nomatch h), by decide, by decide, q149, rfl⟩ (by decide) (Or.inl ⟨3, rfl, dL_addToken_12, rfl⟩) ?_) ?_
    · refine x_iconst (pc := 13) (v := 1) dL_addToken_13 (by decide) ?_
      exact x_iret rfl dL_addToken_14 rfl rfl
    refine mHd.ite (e := 1) (mHd.of (i := 3) (tgt := 15) (nx := 16) ⟨by decide, [_], _, _, rfl, (fun z hz => by cases List.mem_singleton.mp hz; exact ⟨by decide, 0, by decide, by decide, q149⟩), by decide, by decide, q150, rfl⟩ (by decide) (Or.inl ⟨3, rfl, dL_addToken_15, rfl⟩) ?_) ?_
    · refine x_iconst (pc := 16) (v := 2) dL_addToken_16 (by decide) ?_
      exact x_iret rfl dL_addToken_17 rfl rfl
    exact mHd.no
theorem mL_addToken (S : mSh) (μ : mMm) (cx cy : Nat) (p0 : Nat) (p1 : Int32) (p2 : Nat) : mMetH ML_addToken [(0, 9, 12, 13), (0, 9, 15, 15)] [.ref p0, .int p1, .ref p2] (S, μ, cx, cy) (iHI S cx cy) (fL_addToken S μ p0 p1 p2) := mMetH.of rfl (fun _ => rfl) (by decide) rfl (fun h => by cases h) (Nat.le_of_ble_eq_true rfl) (xbL_addToken p0 p1 p2)
/-! SlideMillsLaw.addRepeat(LSlideMills;II[J)I -/
def fL_addRepeat (S : mSh) (μ : mMm) (p0 : Nat) (p1 : Int32) (p2 : Int32) (p3 : Nat) : Option (Int32 × mMm × Nat) := (fX10_addRepeat S μ p0 p1 p2).bind fun r => hTry r (fun v1 m1 => (stL S m1 p3 (0 : Int32) v1.toInt64).bind fun m1 => some ((0 : Int32), m1, 0)) (fun E m1 => (if E = 0 then (some ((1 : Int32), m1, 1)) else if E = 1 then (some ((2 : Int32), m1, 1)) else none))
abbrev ML_addRepeat : mM := ((yL_addRepeat, cL_addRepeat, 5, (some .int)), (7, 112), (false, false), RL, eH [(0, 10, 13, 13), (0, 10, 17, 15)])
theorem kL_addRepeat : mCalH ML_addRepeat [(0, 10, 13, 13), (0, 10, 17, 15)] 4 := ⟨q529, q147, q530, by decide +kernel⟩
set_option maxHeartbeats 4000000 in
theorem xbL_addRepeat {n0 c0 s0 cx cy : Nat} {S : mSh} {μ : mMm} (p0 : Nat) (p1 : Int32) (p2 : Int32) (p3 : Nat) : mX ML_addRepeat n0 c0 s0 0 [some (.ref p0), some (.int p1), some (.int p2), some (.ref p3), none] [] (S, μ, cx, cy) (iHI S cx cy) (fL_addRepeat S μ p0 p1 p2 p3) := by
  unfold fL_addRepeat
  refine x_aload_n (pc := 0) dL_addRepeat_0 (i := 3) rfl rfl ?_
  refine x_iconst (pc := 1) (v := 0) dL_addRepeat_1 (by decide) ?_
  refine x_aload_n (pc := 2) dL_addRepeat_2 (i := 0) rfl rfl ?_
  refine x_iload_n (pc := 3) dL_addRepeat_3 (i := 1) rfl rfl ?_
  refine x_iload_n (pc := 4) dL_addRepeat_4 (i := 2) rfl rfl ?_
  refine x_tryT (pc := 5) (As := [.int p1, .int p2]) (rest := [.int (0 : Int32), .ref p3]) (hh := [(0, 10, 13, 13), (0, 10, 17, 15)]) fcX10 (mX10_addRepeat S μ cx cy p0 p1 p2) rfl rfl (fun _ h => ifok h) dL_addRepeat_5 q531 kX10_addRepeat rfl ⟨by decide, by decide⟩ rfl (Nat.le_of_ble_eq_true rfl) (fun v1 m1 => ?_) (fun E m1 => ?_)
  · refine x_i2l (pc := 8) dL_addRepeat_8 ?_
    refine x_stL (pc := 9) dL_addRepeat_9 (fun m1 => ?_)
    refine x_goto (pc := 10) (tgt := 21) dL_addRepeat_10 (by decide) ?_
    refine x_iconst (pc := 21) (v := 0) dL_addRepeat_21 (by decide) ?_
    exact x_iret rfl dL_addRepeat_22 rfl rfl
  · refine mHd.ite (e := 0) (mHd.of (i := 4) (tgt := 13) (nx := 15) ⟨by decide, [], _, _, rfl, (fun _ h => nomatch h), by decide, by decide, q149, rfl⟩ (by decide) (Or.inr ⟨dL_addRepeat_13, rfl⟩) ?_) ?_
    · refine x_iconst (pc := 15) (v := 1) dL_addRepeat_15 (by decide) ?_
      exact x_iret rfl dL_addRepeat_16 rfl rfl
    refine mHd.ite (e := 1) (mHd.of (i := 4) (tgt := 17) (nx := 19) ⟨by decide, [_], _, _, rfl, (fun z hz => by cases List.mem_singleton.mp hz; exact ⟨by decide, 0, by decide, by decide, q149⟩), by decide, by decide, q150, rfl⟩ (by decide) (Or.inr ⟨dL_addRepeat_17, rfl⟩) ?_) ?_
    · refine x_iconst (pc := 19) (v := 2) dL_addRepeat_19 (by decide) ?_
      exact x_iret rfl dL_addRepeat_20 rfl rfl
    exact mHd.no
theorem mL_addRepeat (S : mSh) (μ : mMm) (cx cy : Nat) (p0 : Nat) (p1 : Int32) (p2 : Int32) (p3 : Nat) : mMetH ML_addRepeat [(0, 10, 13, 13), (0, 10, 17, 15)] [.ref p0, .int p1, .int p2, .ref p3] (S, μ, cx, cy) (iHI S cx cy) (fL_addRepeat S μ p0 p1 p2 p3) := mMetH.of rfl (fun _ => rfl) (by decide) rfl (fun h => by cases h) (Nat.le_of_ble_eq_true rfl) (xbL_addRepeat p0 p1 p2 p3)
/-! SlideMillsLaw.takeLast(LSlideMills;[J)I -/
def fL_takeLast (S : mSh) (μ : mMm) (p0 : Nat) (p1 : Nat) : Option (Int32 × mMm × Nat) := (fX10_takeLast S μ p0).bind fun r => hTry r (fun v1 m1 => (stL S m1 p1 (0 : Int32) v1.toInt64).bind fun m1 => some ((0 : Int32), m1, 0)) (fun E m1 => (if E = 1 then (some ((1 : Int32), m1, 1)) else none))
abbrev ML_takeLast : mM := ((yL_takeLast, cL_takeLast, 3, (some .int)), (7, 110), (false, false), RL, eH [(0, 8, 11, 15)])
theorem kL_takeLast : mCalH ML_takeLast [(0, 8, 11, 15)] 2 := ⟨q540, q147, q541, by decide +kernel⟩
set_option maxHeartbeats 4000000 in
theorem xbL_takeLast {n0 c0 s0 cx cy : Nat} {S : mSh} {μ : mMm} (p0 : Nat) (p1 : Nat) : mX ML_takeLast n0 c0 s0 0 [some (.ref p0), some (.ref p1), none] [] (S, μ, cx, cy) (iHI S cx cy) (fL_takeLast S μ p0 p1) := by
  unfold fL_takeLast
  refine x_aload_n (pc := 0) dL_takeLast_0 (i := 1) rfl rfl ?_
  refine x_iconst (pc := 1) (v := 0) dL_takeLast_1 (by decide) ?_
  refine x_aload_n (pc := 2) dL_takeLast_2 (i := 0) rfl rfl ?_
  refine x_tryT (pc := 3) (As := []) (rest := [.int (0 : Int32), .ref p1]) (hh := [(0, 8, 11, 15)]) fcX10 (mX10_takeLast S μ cx cy p0) rfl rfl (fun _ h => ifok h) dL_takeLast_3 q542 kX10_takeLast rfl ⟨by decide, by decide⟩ rfl (Nat.le_of_ble_eq_true rfl) (fun v1 m1 => ?_) (fun E m1 => ?_)
  · refine x_i2l (pc := 6) dL_takeLast_6 ?_
    refine x_stL (pc := 7) dL_takeLast_7 (fun m1 => ?_)
    refine x_goto (pc := 8) (tgt := 14) dL_takeLast_8 (by decide) ?_
    refine x_iconst (pc := 14) (v := 0) dL_takeLast_14 (by decide) ?_
    exact x_iret rfl dL_takeLast_15 rfl rfl
  · refine mHd.ite (e := 1) (mHd.of (i := 2) (tgt := 11) (nx := 12) ⟨by decide, [], _, _, rfl, (fun _ h => nomatch h), by decide, by decide, q150, rfl⟩ (by decide) (Or.inl ⟨2, rfl, dL_takeLast_11, rfl⟩) ?_) ?_
    · refine x_iconst (pc := 12) (v := 1) dL_takeLast_12 (by decide) ?_
      exact x_iret rfl dL_takeLast_13 rfl rfl
    exact mHd.no
theorem mL_takeLast (S : mSh) (μ : mMm) (cx cy : Nat) (p0 : Nat) (p1 : Nat) : mMetH ML_takeLast [(0, 8, 11, 15)] [.ref p0, .ref p1] (S, μ, cx, cy) (iHI S cx cy) (fL_takeLast S μ p0 p1) := mMetH.of rfl (fun _ => rfl) (by decide) rfl (fun h => by cases h) (Nat.le_of_ble_eq_true rfl) (xbL_takeLast p0 p1)
/-! SlideMillsLaw.append(LSlideMills;I[J)I -/
def fL_append (S : mSh) (μ : mMm) (p0 : Nat) (p1 : Int32) (p2 : Nat) : Option (Int32 × mMm × Nat) := (fX10_append S μ p0 p1).bind fun r => hTry r (fun v1 m1 => (stL S m1 p2 (0 : Int32) v1.toInt64).bind fun m1 => some ((0 : Int32), m1, 0)) (fun E m1 => (if E = 0 then (some ((1 : Int32), m1, 1)) else if E = 1 then (some ((2 : Int32), m1, 1)) else none))
abbrev ML_append : mM := ((yL_append, cL_append, 4, (some .int)), (7, 111), (false, false), RL, eH [(0, 9, 12, 13), (0, 9, 15, 15)])
theorem kL_append : mCalH ML_append [(0, 9, 12, 13), (0, 9, 15, 15)] 3 := ⟨q560, q147, q561, by decide +kernel⟩
set_option maxHeartbeats 4000000 in
theorem xbL_append {n0 c0 s0 cx cy : Nat} {S : mSh} {μ : mMm} (p0 : Nat) (p1 : Int32) (p2 : Nat) : mX ML_append n0 c0 s0 0 [some (.ref p0), some (.int p1), some (.ref p2), none] [] (S, μ, cx, cy) (iHI S cx cy) (fL_append S μ p0 p1 p2) := by
  unfold fL_append
  refine x_aload_n (pc := 0) dL_append_0 (i := 2) rfl rfl ?_
  refine x_iconst (pc := 1) (v := 0) dL_append_1 (by decide) ?_
  refine x_aload_n (pc := 2) dL_append_2 (i := 0) rfl rfl ?_
  refine x_iload_n (pc := 3) dL_append_3 (i := 1) rfl rfl ?_
  refine x_tryT (pc := 4) (As := [.int p1]) (rest := [.int (0 : Int32), .ref p2]) (hh := [(0, 9, 12, 13), (0, 9, 15, 15)]) fcX10 (mX10_append S μ cx cy p0 p1) rfl rfl (fun _ h => ifok h) dL_append_4 q562 kX10_append rfl ⟨by decide, by decide⟩ rfl (Nat.le_of_ble_eq_true rfl) (fun v1 m1 => ?_) (fun E m1 => ?_)
  · refine x_i2l (pc := 7) dL_append_7 ?_
    refine x_stL (pc := 8) dL_append_8 (fun m1 => ?_)
    refine x_goto (pc := 9) (tgt := 18) dL_append_9 (by decide) ?_
    refine x_iconst (pc := 18) (v := 0) dL_append_18 (by decide) ?_
    exact x_iret rfl dL_append_19 rfl rfl
  · refine mHd.ite (e := 0) (mHd.of (i := 3) (tgt := 12) (nx := 13) ⟨by decide, [], _, _, rfl, (fun _ h => nomatch h), by decide, by decide, q149, rfl⟩ (by decide) (Or.inl ⟨3, rfl, dL_append_12, rfl⟩) ?_) ?_
    · refine x_iconst (pc := 13) (v := 1) dL_append_13 (by decide) ?_
      exact x_iret rfl dL_append_14 rfl rfl
    refine mHd.ite (e := 1) (mHd.of (i := 3) (tgt := 15) (nx := 16) ⟨by decide, [_], _, _, rfl, (fun z hz => by cases List.mem_singleton.mp hz; exact ⟨by decide, 0, by decide, by decide, q149⟩), by decide, by decide, q150, rfl⟩ (by decide) (Or.inl ⟨3, rfl, dL_append_15, rfl⟩) ?_) ?_
    · refine x_iconst (pc := 16) (v := 2) dL_append_16 (by decide) ?_
      exact x_iret rfl dL_append_17 rfl rfl
    exact mHd.no
theorem mL_append (S : mSh) (μ : mMm) (cx cy : Nat) (p0 : Nat) (p1 : Int32) (p2 : Nat) : mMetH ML_append [(0, 9, 12, 13), (0, 9, 15, 15)] [.ref p0, .int p1, .ref p2] (S, μ, cx, cy) (iHI S cx cy) (fL_append S μ p0 p1 p2) := mMetH.of rfl (fun _ => rfl) (by decide) rfl (fun h => by cases h) (Nat.le_of_ble_eq_true rfl) (xbL_append p0 p1 p2)
/-! SlideMillsLaw.work(LSlideMills;[J)I -/
def fL_work (S : mSh) (μ : mMm) (p0 : Nat) (p1 : Nat) : Option (Int32 × mMm × Nat) := (fX10_work S μ p0).bind fun r => hTry r (fun v1 m1 => (stL S m1 p1 (0 : Int32) v1.toInt64).bind fun m1 => some ((0 : Int32), m1, 0)) (fun E m1 => (if E = 0 then (some ((1 : Int32), m1, 1)) else none))
abbrev ML_work : mM := ((yL_work, cL_work, 3, (some .int)), (8, 187), (false, false), RL, eH [(0, 8, 11, 13)])
theorem kL_work : mCalH ML_work [(0, 8, 11, 13)] 2 := ⟨q652, q147, q653, by decide +kernel⟩
set_option maxHeartbeats 4000000 in
theorem xbL_work {n0 c0 s0 cx cy : Nat} {S : mSh} {μ : mMm} (p0 : Nat) (p1 : Nat) : mX ML_work n0 c0 s0 0 [some (.ref p0), some (.ref p1), none] [] (S, μ, cx, cy) (iHI S cx cy) (fL_work S μ p0 p1) := by
  unfold fL_work
  refine x_aload_n (pc := 0) dL_work_0 (i := 1) rfl rfl ?_
  refine x_iconst (pc := 1) (v := 0) dL_work_1 (by decide) ?_
  refine x_aload_n (pc := 2) dL_work_2 (i := 0) rfl rfl ?_
  refine x_tryT (pc := 3) (As := []) (rest := [.int (0 : Int32), .ref p1]) (hh := [(0, 8, 11, 13)]) fcX10 (mX10_work S μ cx cy p0) rfl rfl (fun _ h => ifok h) dL_work_3 q654 kX10_work rfl ⟨by decide, by decide⟩ rfl (Nat.le_of_ble_eq_true rfl) (fun v1 m1 => ?_) (fun E m1 => ?_)
  · refine x_i2l (pc := 6) dL_work_6 ?_
    refine x_stL (pc := 7) dL_work_7 (fun m1 => ?_)
    refine x_goto (pc := 8) (tgt := 14) dL_work_8 (by decide) ?_
    refine x_iconst (pc := 14) (v := 0) dL_work_14 (by decide) ?_
    exact x_iret rfl dL_work_15 rfl rfl
  · refine mHd.ite (e := 0) (mHd.of (i := 2) (tgt := 11) (nx := 12) ⟨by decide, [], _, _, rfl, (fun _ h => nomatch h), by decide, by decide, q149, rfl⟩ (by decide) (Or.inl ⟨2, rfl, dL_work_11, rfl⟩) ?_) ?_
    · refine x_iconst (pc := 12) (v := 1) dL_work_12 (by decide) ?_
      exact x_iret rfl dL_work_13 rfl rfl
    exact mHd.no
theorem mL_work (S : mSh) (μ : mMm) (cx cy : Nat) (p0 : Nat) (p1 : Nat) : mMetH ML_work [(0, 8, 11, 13)] [.ref p0, .ref p1] (S, μ, cx, cy) (iHI S cx cy) (fL_work S μ p0 p1) := mMetH.of rfl (fun _ => rfl) (by decide) rfl (fun h => by cases h) (Nat.le_of_ble_eq_true rfl) (xbL_work p0 p1)
/-! SlideMillsLaw.stoppedPart(LSlideMills;[J)I -/
def fL_stoppedPart (S : mSh) (μ : mMm) (p0 : Nat) (p1 : Nat) : Option (Int32 × mMm × Nat) := ((fX10_stoppedPart S μ p0).map fun x => (x, μ)).bind fun r => hTry r (fun v1 m1 => (stL S m1 p1 (0 : Int32) v1.toInt64).bind fun m1 => some ((0 : Int32), m1, 0)) (fun E m1 => (if E = 1 then (some ((1 : Int32), m1, 1)) else none))
abbrev ML_stoppedPart : mM := ((yL_stoppedPart, cL_stoppedPart, 3, (some .int)), (7, 110), (false, false), RL, eH [(0, 8, 11, 15)])
theorem kL_stoppedPart : mCalH ML_stoppedPart [(0, 8, 11, 15)] 2 := ⟨q715, q147, q716, by decide +kernel⟩
set_option maxHeartbeats 4000000 in
theorem xbL_stoppedPart {n0 c0 s0 cx cy : Nat} {S : mSh} {μ : mMm} (p0 : Nat) (p1 : Nat) : mX ML_stoppedPart n0 c0 s0 0 [some (.ref p0), some (.ref p1), none] [] (S, μ, cx, cy) (iHI S cx cy) (fL_stoppedPart S μ p0 p1) := by
  unfold fL_stoppedPart
  refine x_aload_n (pc := 0) dL_stoppedPart_0 (i := 1) rfl rfl ?_
  refine x_iconst (pc := 1) (v := 0) dL_stoppedPart_1 (by decide) ?_
  refine x_aload_n (pc := 2) dL_stoppedPart_2 (i := 0) rfl rfl ?_
  refine x_tryT (pc := 3) (As := []) (rest := [.int (0 : Int32), .ref p1]) (hh := [(0, 8, 11, 15)]) fcX10 (mMetQ (mX10_stoppedPart S μ cx cy p0)) rfl rfl (fun _ h => ifokQ h) dL_stoppedPart_3 q717 kX10_stoppedPart rfl ⟨by decide, by decide⟩ rfl (Nat.le_of_ble_eq_true rfl) (fun v1 m1 => ?_) (fun E m1 => ?_)
  · refine x_i2l (pc := 6) dL_stoppedPart_6 ?_
    refine x_stL (pc := 7) dL_stoppedPart_7 (fun m1 => ?_)
    refine x_goto (pc := 8) (tgt := 14) dL_stoppedPart_8 (by decide) ?_
    refine x_iconst (pc := 14) (v := 0) dL_stoppedPart_14 (by decide) ?_
    exact x_iret rfl dL_stoppedPart_15 rfl rfl
  · refine mHd.ite (e := 1) (mHd.of (i := 2) (tgt := 11) (nx := 12) ⟨by decide, [], _, _, rfl, (fun _ h => nomatch h), by decide, by decide, q150, rfl⟩ (by decide) (Or.inl ⟨2, rfl, dL_stoppedPart_11, rfl⟩) ?_) ?_
    · refine x_iconst (pc := 12) (v := 1) dL_stoppedPart_12 (by decide) ?_
      exact x_iret rfl dL_stoppedPart_13 rfl rfl
    exact mHd.no
theorem mL_stoppedPart (S : mSh) (μ : mMm) (cx cy : Nat) (p0 : Nat) (p1 : Nat) : mMetH ML_stoppedPart [(0, 8, 11, 15)] [.ref p0, .ref p1] (S, μ, cx, cy) (iHI S cx cy) (fL_stoppedPart S μ p0 p1) := mMetH.of rfl (fun _ => rfl) (by decide) rfl (fun h => by cases h) (Nat.le_of_ble_eq_true rfl) (xbL_stoppedPart p0 p1)
/-! SlideMillsLaw.whyStopped(LSlideMills;[J)I -/
def fL_whyStopped (S : mSh) (μ : mMm) (p0 : Nat) (p1 : Nat) : Option (Int32 × mMm × Nat) := ((fX10_whyStopped S μ p0).map fun x => (x, μ)).bind fun r => hTry r (fun v1 m1 => (stL S m1 p1 (0 : Int32) v1.toInt64).bind fun m1 => some ((0 : Int32), m1, 0)) (fun E m1 => (if E = 1 then (some ((1 : Int32), m1, 1)) else none))
abbrev ML_whyStopped : mM := ((yL_whyStopped, cL_whyStopped, 3, (some .int)), (7, 110), (false, false), RL, eH [(0, 8, 11, 15)])
theorem kL_whyStopped : mCalH ML_whyStopped [(0, 8, 11, 15)] 2 := ⟨q726, q147, q727, by decide +kernel⟩
set_option maxHeartbeats 4000000 in
theorem xbL_whyStopped {n0 c0 s0 cx cy : Nat} {S : mSh} {μ : mMm} (p0 : Nat) (p1 : Nat) : mX ML_whyStopped n0 c0 s0 0 [some (.ref p0), some (.ref p1), none] [] (S, μ, cx, cy) (iHI S cx cy) (fL_whyStopped S μ p0 p1) := by
  unfold fL_whyStopped
  refine x_aload_n (pc := 0) dL_whyStopped_0 (i := 1) rfl rfl ?_
  refine x_iconst (pc := 1) (v := 0) dL_whyStopped_1 (by decide) ?_
  refine x_aload_n (pc := 2) dL_whyStopped_2 (i := 0) rfl rfl ?_
  refine x_tryT (pc := 3) (As := []) (rest := [.int (0 : Int32), .ref p1]) (hh := [(0, 8, 11, 15)]) fcX10 (mMetQ (mX10_whyStopped S μ cx cy p0)) rfl rfl (fun _ h => ifokQ h) dL_whyStopped_3 q728 kX10_whyStopped rfl ⟨by decide, by decide⟩ rfl (Nat.le_of_ble_eq_true rfl) (fun v1 m1 => ?_) (fun E m1 => ?_)
  · refine x_i2l (pc := 6) dL_whyStopped_6 ?_
    refine x_stL (pc := 7) dL_whyStopped_7 (fun m1 => ?_)
    refine x_goto (pc := 8) (tgt := 14) dL_whyStopped_8 (by decide) ?_
    refine x_iconst (pc := 14) (v := 0) dL_whyStopped_14 (by decide) ?_
    exact x_iret rfl dL_whyStopped_15 rfl rfl
  · refine mHd.ite (e := 1) (mHd.of (i := 2) (tgt := 11) (nx := 12) ⟨by decide, [], _, _, rfl, (fun _ h => nomatch h), by decide, by decide, q150, rfl⟩ (by decide) (Or.inl ⟨2, rfl, dL_whyStopped_11, rfl⟩) ?_) ?_
    · refine x_iconst (pc := 12) (v := 1) dL_whyStopped_12 (by decide) ?_
      exact x_iret rfl dL_whyStopped_13 rfl rfl
    exact mHd.no
theorem mL_whyStopped (S : mSh) (μ : mMm) (cx cy : Nat) (p0 : Nat) (p1 : Nat) : mMetH ML_whyStopped [(0, 8, 11, 15)] [.ref p0, .ref p1] (S, μ, cx, cy) (iHI S cx cy) (fL_whyStopped S μ p0 p1) := mMetH.of rfl (fun _ => rfl) (by decide) rfl (fun h => by cases h) (Nat.le_of_ble_eq_true rfl) (xbL_whyStopped p0 p1)
/-! SlideMillsLaw.undo(LSlideMills;[J)I -/
def fL_undo (S : mSh) (μ : mMm) (p0 : Nat) (p1 : Nat) : Option (Int32 × mMm × Nat) := (fX10_undo S μ p0).bind fun r => hTry r (fun v1 m1 => (stL S m1 p1 (0 : Int32) v1.toInt64).bind fun m1 => some ((0 : Int32), m1, 0)) (fun E m1 => (if E = 1 then (some ((1 : Int32), m1, 1)) else none))
abbrev ML_undo : mM := ((yL_undo, cL_undo, 3, (some .int)), (7, 110), (false, false), RL, eH [(0, 8, 11, 15)])
theorem kL_undo : mCalH ML_undo [(0, 8, 11, 15)] 2 := ⟨q737, q147, q738, by decide +kernel⟩
set_option maxHeartbeats 4000000 in
theorem xbL_undo {n0 c0 s0 cx cy : Nat} {S : mSh} {μ : mMm} (p0 : Nat) (p1 : Nat) : mX ML_undo n0 c0 s0 0 [some (.ref p0), some (.ref p1), none] [] (S, μ, cx, cy) (iHI S cx cy) (fL_undo S μ p0 p1) := by
  unfold fL_undo
  refine x_aload_n (pc := 0) dL_undo_0 (i := 1) rfl rfl ?_
  refine x_iconst (pc := 1) (v := 0) dL_undo_1 (by decide) ?_
  refine x_aload_n (pc := 2) dL_undo_2 (i := 0) rfl rfl ?_
  refine x_tryT (pc := 3) (As := []) (rest := [.int (0 : Int32), .ref p1]) (hh := [(0, 8, 11, 15)]) fcX10 (mX10_undo S μ cx cy p0) rfl rfl (fun _ h => ifok h) dL_undo_3 q739 kX10_undo rfl ⟨by decide, by decide⟩ rfl (Nat.le_of_ble_eq_true rfl) (fun v1 m1 => ?_) (fun E m1 => ?_)
  · refine x_i2l (pc := 6) dL_undo_6 ?_
    refine x_stL (pc := 7) dL_undo_7 (fun m1 => ?_)
    refine x_goto (pc := 8) (tgt := 14) dL_undo_8 (by decide) ?_
    refine x_iconst (pc := 14) (v := 0) dL_undo_14 (by decide) ?_
    exact x_iret rfl dL_undo_15 rfl rfl
  · refine mHd.ite (e := 1) (mHd.of (i := 2) (tgt := 11) (nx := 12) ⟨by decide, [], _, _, rfl, (fun _ h => nomatch h), by decide, by decide, q150, rfl⟩ (by decide) (Or.inl ⟨2, rfl, dL_undo_11, rfl⟩) ?_) ?_
    · refine x_iconst (pc := 12) (v := 1) dL_undo_12 (by decide) ?_
      exact x_iret rfl dL_undo_13 rfl rfl
    exact mHd.no
theorem mL_undo (S : mSh) (μ : mMm) (cx cy : Nat) (p0 : Nat) (p1 : Nat) : mMetH ML_undo [(0, 8, 11, 15)] [.ref p0, .ref p1] (S, μ, cx, cy) (iHI S cx cy) (fL_undo S μ p0 p1) := mMetH.of rfl (fun _ => rfl) (by decide) rfl (fun h => by cases h) (Nat.le_of_ble_eq_true rfl) (xbL_undo p0 p1)
/-! SlideMillsLaw.restore(LSlideMills;[J)I -/
def fL_restore (S : mSh) (μ : mMm) (p0 : Nat) (p1 : Nat) : Option (Int32 × mMm × Nat) := (fX10_restore S μ p0).bind fun r => hTry r (fun v1 m1 => (stL S m1 p1 (0 : Int32) v1.toInt64).bind fun m1 => some ((0 : Int32), m1, 0)) (fun E m1 => (if E = 1 then (some ((1 : Int32), m1, 1)) else none))
abbrev ML_restore : mM := ((yL_restore, cL_restore, 3, (some .int)), (7, 110), (false, false), RL, eH [(0, 8, 11, 15)])
theorem kL_restore : mCalH ML_restore [(0, 8, 11, 15)] 2 := ⟨q763, q147, q764, by decide +kernel⟩
set_option maxHeartbeats 4000000 in
theorem xbL_restore {n0 c0 s0 cx cy : Nat} {S : mSh} {μ : mMm} (p0 : Nat) (p1 : Nat) : mX ML_restore n0 c0 s0 0 [some (.ref p0), some (.ref p1), none] [] (S, μ, cx, cy) (iHI S cx cy) (fL_restore S μ p0 p1) := by
  unfold fL_restore
  refine x_aload_n (pc := 0) dL_restore_0 (i := 1) rfl rfl ?_
  refine x_iconst (pc := 1) (v := 0) dL_restore_1 (by decide) ?_
  refine x_aload_n (pc := 2) dL_restore_2 (i := 0) rfl rfl ?_
  refine x_tryT (pc := 3) (As := []) (rest := [.int (0 : Int32), .ref p1]) (hh := [(0, 8, 11, 15)]) fcX10 (mX10_restore S μ cx cy p0) rfl rfl (fun _ h => ifok h) dL_restore_3 q765 kX10_restore rfl ⟨by decide, by decide⟩ rfl (Nat.le_of_ble_eq_true rfl) (fun v1 m1 => ?_) (fun E m1 => ?_)
  · refine x_i2l (pc := 6) dL_restore_6 ?_
    refine x_stL (pc := 7) dL_restore_7 (fun m1 => ?_)
    refine x_goto (pc := 8) (tgt := 14) dL_restore_8 (by decide) ?_
    refine x_iconst (pc := 14) (v := 0) dL_restore_14 (by decide) ?_
    exact x_iret rfl dL_restore_15 rfl rfl
  · refine mHd.ite (e := 1) (mHd.of (i := 2) (tgt := 11) (nx := 12) ⟨by decide, [], _, _, rfl, (fun _ h => nomatch h), by decide, by decide, q150, rfl⟩ (by decide) (Or.inl ⟨2, rfl, dL_restore_11, rfl⟩) ?_) ?_
    · refine x_iconst (pc := 12) (v := 1) dL_restore_12 (by decide) ?_
      exact x_iret rfl dL_restore_13 rfl rfl
    exact mHd.no
theorem mL_restore (S : mSh) (μ : mMm) (cx cy : Nat) (p0 : Nat) (p1 : Nat) : mMetH ML_restore [(0, 8, 11, 15)] [.ref p0, .ref p1] (S, μ, cx, cy) (iHI S cx cy) (fL_restore S μ p0 p1) := mMetH.of rfl (fun _ => rfl) (by decide) rfl (fun h => by cases h) (Nat.le_of_ble_eq_true rfl) (xbL_restore p0 p1)
/-! SlideMillsLaw.letterAt(LSlideMills;I[J)I -/
def fL_letterAt (S : mSh) (μ : mMm) (p0 : Nat) (p1 : Int32) (p2 : Nat) : Option (Int32 × mMm × Nat) := ((fX10_letterAt S μ p0 p1).map fun x => (x, μ)).bind fun r => hTry r (fun v1 m1 => (stL S m1 p2 (0 : Int32) v1.toInt64).bind fun m1 => some ((0 : Int32), m1, 0)) (fun E m1 => (if E = 2 then (some ((1 : Int32), m1, 1)) else none))
abbrev ML_letterAt : mM := ((yL_letterAt, cL_letterAt, 4, (some .int)), (7, 111), (false, false), RL, eH [(0, 9, 12, 21)])
theorem kL_letterAt : mCalH ML_letterAt [(0, 9, 12, 21)] 3 := ⟨q790, q147, q791, by decide +kernel⟩
set_option maxHeartbeats 4000000 in
theorem xbL_letterAt {n0 c0 s0 cx cy : Nat} {S : mSh} {μ : mMm} (p0 : Nat) (p1 : Int32) (p2 : Nat) : mX ML_letterAt n0 c0 s0 0 [some (.ref p0), some (.int p1), some (.ref p2), none] [] (S, μ, cx, cy) (iHI S cx cy) (fL_letterAt S μ p0 p1 p2) := by
  unfold fL_letterAt
  refine x_aload_n (pc := 0) dL_letterAt_0 (i := 2) rfl rfl ?_
  refine x_iconst (pc := 1) (v := 0) dL_letterAt_1 (by decide) ?_
  refine x_aload_n (pc := 2) dL_letterAt_2 (i := 0) rfl rfl ?_
  refine x_iload_n (pc := 3) dL_letterAt_3 (i := 1) rfl rfl ?_
  refine x_tryT (pc := 4) (As := [.int p1]) (rest := [.int (0 : Int32), .ref p2]) (hh := [(0, 9, 12, 21)]) fcX10 (mMetQ (mX10_letterAt S μ cx cy p0 p1)) rfl rfl (fun _ h => ifokQ h) dL_letterAt_4 q792 kX10_letterAt rfl ⟨by decide, by decide⟩ rfl (Nat.le_of_ble_eq_true rfl) (fun v1 m1 => ?_) (fun E m1 => ?_)
  · refine x_i2l (pc := 7) dL_letterAt_7 ?_
    refine x_stL (pc := 8) dL_letterAt_8 (fun m1 => ?_)
    refine x_goto (pc := 9) (tgt := 15) dL_letterAt_9 (by decide) ?_
    refine x_iconst (pc := 15) (v := 0) dL_letterAt_15 (by decide) ?_
    exact x_iret rfl dL_letterAt_16 rfl rfl
  · refine mHd.ite (e := 2) (mHd.of (i := 3) (tgt := 12) (nx := 13) ⟨by decide, [], _, _, rfl, (fun _ h => nomatch h), by decide, by decide, q223, rfl⟩ (by decide) (Or.inl ⟨3, rfl, dL_letterAt_12, rfl⟩) ?_) ?_
    · refine x_iconst (pc := 13) (v := 1) dL_letterAt_13 (by decide) ?_
      exact x_iret rfl dL_letterAt_14 rfl rfl
    exact mHd.no
theorem mL_letterAt (S : mSh) (μ : mMm) (cx cy : Nat) (p0 : Nat) (p1 : Int32) (p2 : Nat) : mMetH ML_letterAt [(0, 9, 12, 21)] [.ref p0, .int p1, .ref p2] (S, μ, cx, cy) (iHI S cx cy) (fL_letterAt S μ p0 p1 p2) := mMetH.of rfl (fun _ => rfl) (by decide) rfl (fun h => by cases h) (Nat.le_of_ble_eq_true rfl) (xbL_letterAt p0 p1 p2)
/-! SlideMillsLaw.isRepeat(LSlideMills;I[J)I -/
def lL_isRepeat_15 (S : mSh) (μ : mMm) (t0 : Int64) (t1 : Int32) (t2 : Nat) : Option (Int32 × mMm × Nat) := (stL S μ t2 t1 t0).bind fun m1 => some ((0 : Int32), m1, 0)
def fL_isRepeat (S : mSh) (μ : mMm) (p0 : Nat) (p1 : Int32) (p2 : Nat) : Option (Int32 × mMm × Nat) := ((fX10_isRepeat S μ p0 p1).map fun x => (x, μ)).bind fun r => hTry r (fun v1 m1 => if v1 = 0 then (lL_isRepeat_15 S m1 (0 : Int64) (0 : Int32) p2) else (lL_isRepeat_15 S m1 (1 : Int64) (0 : Int32) p2)) (fun E m1 => (if E = 2 then (some ((1 : Int32), m1, 1)) else none))
abbrev ML_isRepeat : mM := ((yL_isRepeat, cL_isRepeat, 4, (some .int)), (7, 111), (false, false), RL, eH [(0, 16, 19, 21)])
theorem kL_isRepeat : mCalH ML_isRepeat [(0, 16, 19, 21)] 3 := ⟨q833, q147, q834, by decide +kernel⟩
set_option maxHeartbeats 4000000 in
theorem xL_isRepeat_15 {n0 c0 s0 cx cy : Nat} {S : mSh} (μ : mMm) (t0 : Int64) (t1 : Int32) (t2 : Nat) (d0 : Option Value) (d1 : Option Value) (d2 : Option Value) (d3 : Option Value) : mX ML_isRepeat n0 c0 s0 15 [d0, d1, d2, d3] [.long t0, .int t1, .ref t2] (S, μ, cx, cy) (iHI S cx cy) (lL_isRepeat_15 S μ t0 t1 t2) := by
  unfold lL_isRepeat_15
  refine x_stL (pc := 15) dL_isRepeat_15 (fun m1 => ?_)
  refine x_goto (pc := 16) (tgt := 22) dL_isRepeat_16 (by decide) ?_
  refine x_iconst (pc := 22) (v := 0) dL_isRepeat_22 (by decide) ?_
  exact x_iret rfl dL_isRepeat_23 rfl rfl
set_option maxHeartbeats 4000000 in
theorem xbL_isRepeat {n0 c0 s0 cx cy : Nat} {S : mSh} {μ : mMm} (p0 : Nat) (p1 : Int32) (p2 : Nat) : mX ML_isRepeat n0 c0 s0 0 [some (.ref p0), some (.int p1), some (.ref p2), none] [] (S, μ, cx, cy) (iHI S cx cy) (fL_isRepeat S μ p0 p1 p2) := by
  unfold fL_isRepeat
  refine x_aload_n (pc := 0) dL_isRepeat_0 (i := 2) rfl rfl ?_
  refine x_iconst (pc := 1) (v := 0) dL_isRepeat_1 (by decide) ?_
  refine x_aload_n (pc := 2) dL_isRepeat_2 (i := 0) rfl rfl ?_
  refine x_iload_n (pc := 3) dL_isRepeat_3 (i := 1) rfl rfl ?_
  refine x_tryT (pc := 4) (As := [.int p1]) (rest := [.int (0 : Int32), .ref p2]) (hh := [(0, 16, 19, 21)]) fcX10 (mMetQ (mX10_isRepeat S μ cx cy p0 p1)) rfl rfl (fun _ h => ifokQ h) dL_isRepeat_4 q835 kX10_isRepeat rfl ⟨by decide, by decide⟩ rfl (Nat.le_of_ble_eq_true rfl) (fun v1 m1 => ?_) (fun E m1 => ?_)
  · refine x_if_eq (pc := 7) (tgt := 14) dL_isRepeat_7 (by decide) ?_ ?_
    · refine x_lconst (pc := 14) (v := 0) dL_isRepeat_14 (by decide) ?_
      exact xL_isRepeat_15 m1 (0 : Int64) (0 : Int32) p2 _ _ _ _
    · refine x_lconst (pc := 10) (v := 1) dL_isRepeat_10 (by decide) ?_
      refine x_goto (pc := 11) (tgt := 15) dL_isRepeat_11 (by decide) ?_
      exact xL_isRepeat_15 m1 (1 : Int64) (0 : Int32) p2 _ _ _ _
  · refine mHd.ite (e := 2) (mHd.of (i := 3) (tgt := 19) (nx := 20) ⟨by decide, [], _, _, rfl, (fun _ h => nomatch h), by decide, by decide, q223, rfl⟩ (by decide) (Or.inl ⟨3, rfl, dL_isRepeat_19, rfl⟩) ?_) ?_
    · refine x_iconst (pc := 20) (v := 1) dL_isRepeat_20 (by decide) ?_
      exact x_iret rfl dL_isRepeat_21 rfl rfl
    exact mHd.no
theorem mL_isRepeat (S : mSh) (μ : mMm) (cx cy : Nat) (p0 : Nat) (p1 : Int32) (p2 : Nat) : mMetH ML_isRepeat [(0, 16, 19, 21)] [.ref p0, .int p1, .ref p2] (S, μ, cx, cy) (iHI S cx cy) (fL_isRepeat S μ p0 p1 p2) := mMetH.of rfl (fun _ => rfl) (by decide) rfl (fun h => by cases h) (Nat.le_of_ble_eq_true rfl) (xbL_isRepeat p0 p1 p2)
/-! SlideMillsLaw.letterOf(LSlideMills;I[J)I -/
def fL_letterOf (S : mSh) (μ : mMm) (p0 : Nat) (p1 : Int32) (p2 : Nat) : Option (Int32 × mMm × Nat) := ((fX10_letterOf S μ p0 p1).map fun x => (x, μ)).bind fun r => hTry r (fun v1 m1 => (stL S m1 p2 (0 : Int32) v1.toInt64).bind fun m1 => some ((0 : Int32), m1, 0)) (fun E m1 => (if E = 2 then (some ((1 : Int32), m1, 1)) else if E = 1 then (some ((2 : Int32), m1, 1)) else none))
abbrev ML_letterOf : mM := ((yL_letterOf, cL_letterOf, 4, (some .int)), (7, 111), (false, false), RL, eH [(0, 9, 12, 21), (0, 9, 15, 15)])
theorem kL_letterOf : mCalH ML_letterOf [(0, 9, 12, 21), (0, 9, 15, 15)] 3 := ⟨q853, q147, q854, by decide +kernel⟩
set_option maxHeartbeats 4000000 in
theorem xbL_letterOf {n0 c0 s0 cx cy : Nat} {S : mSh} {μ : mMm} (p0 : Nat) (p1 : Int32) (p2 : Nat) : mX ML_letterOf n0 c0 s0 0 [some (.ref p0), some (.int p1), some (.ref p2), none] [] (S, μ, cx, cy) (iHI S cx cy) (fL_letterOf S μ p0 p1 p2) := by
  unfold fL_letterOf
  refine x_aload_n (pc := 0) dL_letterOf_0 (i := 2) rfl rfl ?_
  refine x_iconst (pc := 1) (v := 0) dL_letterOf_1 (by decide) ?_
  refine x_aload_n (pc := 2) dL_letterOf_2 (i := 0) rfl rfl ?_
  refine x_iload_n (pc := 3) dL_letterOf_3 (i := 1) rfl rfl ?_
  refine x_tryT (pc := 4) (As := [.int p1]) (rest := [.int (0 : Int32), .ref p2]) (hh := [(0, 9, 12, 21), (0, 9, 15, 15)]) fcX10 (mMetQ (mX10_letterOf S μ cx cy p0 p1)) rfl rfl (fun _ h => ifokQ h) dL_letterOf_4 q855 kX10_letterOf rfl ⟨by decide, by decide⟩ rfl (Nat.le_of_ble_eq_true rfl) (fun v1 m1 => ?_) (fun E m1 => ?_)
  · refine x_i2l (pc := 7) dL_letterOf_7 ?_
    refine x_stL (pc := 8) dL_letterOf_8 (fun m1 => ?_)
    refine x_goto (pc := 9) (tgt := 18) dL_letterOf_9 (by decide) ?_
    refine x_iconst (pc := 18) (v := 0) dL_letterOf_18 (by decide) ?_
    exact x_iret rfl dL_letterOf_19 rfl rfl
  · refine mHd.ite (e := 2) (mHd.of (i := 3) (tgt := 12) (nx := 13) ⟨by decide, [], _, _, rfl, (fun _ h => nomatch h), by decide, by decide, q223, rfl⟩ (by decide) (Or.inl ⟨3, rfl, dL_letterOf_12, rfl⟩) ?_) ?_
    · refine x_iconst (pc := 13) (v := 1) dL_letterOf_13 (by decide) ?_
      exact x_iret rfl dL_letterOf_14 rfl rfl
    refine mHd.ite (e := 1) (mHd.of (i := 3) (tgt := 15) (nx := 16) ⟨by decide, [_], _, _, rfl, (fun z hz => by cases List.mem_singleton.mp hz; exact ⟨by decide, 2, by decide, by decide, q223⟩), by decide, by decide, q150, rfl⟩ (by decide) (Or.inl ⟨3, rfl, dL_letterOf_15, rfl⟩) ?_) ?_
    · refine x_iconst (pc := 16) (v := 2) dL_letterOf_16 (by decide) ?_
      exact x_iret rfl dL_letterOf_17 rfl rfl
    exact mHd.no
theorem mL_letterOf (S : mSh) (μ : mMm) (cx cy : Nat) (p0 : Nat) (p1 : Int32) (p2 : Nat) : mMetH ML_letterOf [(0, 9, 12, 21), (0, 9, 15, 15)] [.ref p0, .int p1, .ref p2] (S, μ, cx, cy) (iHI S cx cy) (fL_letterOf S μ p0 p1 p2) := mMetH.of rfl (fun _ => rfl) (by decide) rfl (fun h => by cases h) (Nat.le_of_ble_eq_true rfl) (xbL_letterOf p0 p1 p2)
/-! SlideMillsLaw.distanceOf(LSlideMills;I[J)I -/
def fL_distanceOf (S : mSh) (μ : mMm) (p0 : Nat) (p1 : Int32) (p2 : Nat) : Option (Int32 × mMm × Nat) := ((fX10_distanceOf S μ p0 p1).map fun x => (x, μ)).bind fun r => hTry r (fun v1 m1 => (stL S m1 p2 (0 : Int32) v1.toInt64).bind fun m1 => some ((0 : Int32), m1, 0)) (fun E m1 => (if E = 2 then (some ((1 : Int32), m1, 1)) else if E = 1 then (some ((2 : Int32), m1, 1)) else none))
abbrev ML_distanceOf : mM := ((yL_distanceOf, cL_distanceOf, 4, (some .int)), (7, 111), (false, false), RL, eH [(0, 9, 12, 21), (0, 9, 15, 15)])
theorem kL_distanceOf : mCalH ML_distanceOf [(0, 9, 12, 21), (0, 9, 15, 15)] 3 := ⟨q865, q147, q866, by decide +kernel⟩
set_option maxHeartbeats 4000000 in
theorem xbL_distanceOf {n0 c0 s0 cx cy : Nat} {S : mSh} {μ : mMm} (p0 : Nat) (p1 : Int32) (p2 : Nat) : mX ML_distanceOf n0 c0 s0 0 [some (.ref p0), some (.int p1), some (.ref p2), none] [] (S, μ, cx, cy) (iHI S cx cy) (fL_distanceOf S μ p0 p1 p2) := by
  unfold fL_distanceOf
  refine x_aload_n (pc := 0) dL_distanceOf_0 (i := 2) rfl rfl ?_
  refine x_iconst (pc := 1) (v := 0) dL_distanceOf_1 (by decide) ?_
  refine x_aload_n (pc := 2) dL_distanceOf_2 (i := 0) rfl rfl ?_
  refine x_iload_n (pc := 3) dL_distanceOf_3 (i := 1) rfl rfl ?_
  refine x_tryT (pc := 4) (As := [.int p1]) (rest := [.int (0 : Int32), .ref p2]) (hh := [(0, 9, 12, 21), (0, 9, 15, 15)]) fcX10 (mMetQ (mX10_distanceOf S μ cx cy p0 p1)) rfl rfl (fun _ h => ifokQ h) dL_distanceOf_4 q867 kX10_distanceOf rfl ⟨by decide, by decide⟩ rfl (Nat.le_of_ble_eq_true rfl) (fun v1 m1 => ?_) (fun E m1 => ?_)
  · refine x_i2l (pc := 7) dL_distanceOf_7 ?_
    refine x_stL (pc := 8) dL_distanceOf_8 (fun m1 => ?_)
    refine x_goto (pc := 9) (tgt := 18) dL_distanceOf_9 (by decide) ?_
    refine x_iconst (pc := 18) (v := 0) dL_distanceOf_18 (by decide) ?_
    exact x_iret rfl dL_distanceOf_19 rfl rfl
  · refine mHd.ite (e := 2) (mHd.of (i := 3) (tgt := 12) (nx := 13) ⟨by decide, [], _, _, rfl, (fun _ h => nomatch h), by decide, by decide, q223, rfl⟩ (by decide) (Or.inl ⟨3, rfl, dL_distanceOf_12, rfl⟩) ?_) ?_
    · refine x_iconst (pc := 13) (v := 1) dL_distanceOf_13 (by decide) ?_
      exact x_iret rfl dL_distanceOf_14 rfl rfl
    refine mHd.ite (e := 1) (mHd.of (i := 3) (tgt := 15) (nx := 16) ⟨by decide, [_], _, _, rfl, (fun z hz => by cases List.mem_singleton.mp hz; exact ⟨by decide, 2, by decide, by decide, q223⟩), by decide, by decide, q150, rfl⟩ (by decide) (Or.inl ⟨3, rfl, dL_distanceOf_15, rfl⟩) ?_) ?_
    · refine x_iconst (pc := 16) (v := 2) dL_distanceOf_16 (by decide) ?_
      exact x_iret rfl dL_distanceOf_17 rfl rfl
    exact mHd.no
theorem mL_distanceOf (S : mSh) (μ : mMm) (cx cy : Nat) (p0 : Nat) (p1 : Int32) (p2 : Nat) : mMetH ML_distanceOf [(0, 9, 12, 21), (0, 9, 15, 15)] [.ref p0, .int p1, .ref p2] (S, μ, cx, cy) (iHI S cx cy) (fL_distanceOf S μ p0 p1 p2) := mMetH.of rfl (fun _ => rfl) (by decide) rfl (fun h => by cases h) (Nat.le_of_ble_eq_true rfl) (xbL_distanceOf p0 p1 p2)
/-! SlideMillsLaw.lengthOf(LSlideMills;I[J)I -/
def fL_lengthOf (S : mSh) (μ : mMm) (p0 : Nat) (p1 : Int32) (p2 : Nat) : Option (Int32 × mMm × Nat) := ((fX10_lengthOf S μ p0 p1).map fun x => (x, μ)).bind fun r => hTry r (fun v1 m1 => (stL S m1 p2 (0 : Int32) v1.toInt64).bind fun m1 => some ((0 : Int32), m1, 0)) (fun E m1 => (if E = 2 then (some ((1 : Int32), m1, 1)) else none))
abbrev ML_lengthOf : mM := ((yL_lengthOf, cL_lengthOf, 4, (some .int)), (7, 111), (false, false), RL, eH [(0, 9, 12, 21)])
theorem kL_lengthOf : mCalH ML_lengthOf [(0, 9, 12, 21)] 3 := ⟨q876, q147, q877, by decide +kernel⟩
set_option maxHeartbeats 4000000 in
theorem xbL_lengthOf {n0 c0 s0 cx cy : Nat} {S : mSh} {μ : mMm} (p0 : Nat) (p1 : Int32) (p2 : Nat) : mX ML_lengthOf n0 c0 s0 0 [some (.ref p0), some (.int p1), some (.ref p2), none] [] (S, μ, cx, cy) (iHI S cx cy) (fL_lengthOf S μ p0 p1 p2) := by
  unfold fL_lengthOf
  refine x_aload_n (pc := 0) dL_lengthOf_0 (i := 2) rfl rfl ?_
  refine x_iconst (pc := 1) (v := 0) dL_lengthOf_1 (by decide) ?_
  refine x_aload_n (pc := 2) dL_lengthOf_2 (i := 0) rfl rfl ?_
  refine x_iload_n (pc := 3) dL_lengthOf_3 (i := 1) rfl rfl ?_
  refine x_tryT (pc := 4) (As := [.int p1]) (rest := [.int (0 : Int32), .ref p2]) (hh := [(0, 9, 12, 21)]) fcX10 (mMetQ (mX10_lengthOf S μ cx cy p0 p1)) rfl rfl (fun _ h => ifokQ h) dL_lengthOf_4 q878 kX10_lengthOf rfl ⟨by decide, by decide⟩ rfl (Nat.le_of_ble_eq_true rfl) (fun v1 m1 => ?_) (fun E m1 => ?_)
  · refine x_i2l (pc := 7) dL_lengthOf_7 ?_
    refine x_stL (pc := 8) dL_lengthOf_8 (fun m1 => ?_)
    refine x_goto (pc := 9) (tgt := 15) dL_lengthOf_9 (by decide) ?_
    refine x_iconst (pc := 15) (v := 0) dL_lengthOf_15 (by decide) ?_
    exact x_iret rfl dL_lengthOf_16 rfl rfl
  · refine mHd.ite (e := 2) (mHd.of (i := 3) (tgt := 12) (nx := 13) ⟨by decide, [], _, _, rfl, (fun _ h => nomatch h), by decide, by decide, q223, rfl⟩ (by decide) (Or.inl ⟨3, rfl, dL_lengthOf_12, rfl⟩) ?_) ?_
    · refine x_iconst (pc := 13) (v := 1) dL_lengthOf_13 (by decide) ?_
      exact x_iret rfl dL_lengthOf_14 rfl rfl
    exact mHd.no
theorem mL_lengthOf (S : mSh) (μ : mMm) (cx cy : Nat) (p0 : Nat) (p1 : Int32) (p2 : Nat) : mMetH ML_lengthOf [(0, 9, 12, 21)] [.ref p0, .int p1, .ref p2] (S, μ, cx, cy) (iHI S cx cy) (fL_lengthOf S μ p0 p1 p2) := mMetH.of rfl (fun _ => rfl) (by decide) rfl (fun h => by cases h) (Nat.le_of_ble_eq_true rfl) (xbL_lengthOf p0 p1 p2)
/-! SlideMillsLaw.repeatLength(LSlideMills;I[J)I -/
def fL_repeatLength (S : mSh) (μ : mMm) (p0 : Nat) (p1 : Int32) (p2 : Nat) : Option (Int32 × mMm × Nat) := ((fX10_repeatLength S μ p0 p1).map fun x => (x, μ)).bind fun r => hTry r (fun v1 m1 => (stL S m1 p2 (0 : Int32) v1.toInt64).bind fun m1 => some ((0 : Int32), m1, 0)) (fun E m1 => (if E = 2 then (some ((1 : Int32), m1, 1)) else none))
abbrev ML_repeatLength : mM := ((yL_repeatLength, cL_repeatLength, 4, (some .int)), (7, 111), (false, false), RL, eH [(0, 9, 12, 21)])
theorem kL_repeatLength : mCalH ML_repeatLength [(0, 9, 12, 21)] 3 := ⟨q957, q147, q958, by decide +kernel⟩
set_option maxHeartbeats 4000000 in
theorem xbL_repeatLength {n0 c0 s0 cx cy : Nat} {S : mSh} {μ : mMm} (p0 : Nat) (p1 : Int32) (p2 : Nat) : mX ML_repeatLength n0 c0 s0 0 [some (.ref p0), some (.int p1), some (.ref p2), none] [] (S, μ, cx, cy) (iHI S cx cy) (fL_repeatLength S μ p0 p1 p2) := by
  unfold fL_repeatLength
  refine x_aload_n (pc := 0) dL_repeatLength_0 (i := 2) rfl rfl ?_
  refine x_iconst (pc := 1) (v := 0) dL_repeatLength_1 (by decide) ?_
  refine x_aload_n (pc := 2) dL_repeatLength_2 (i := 0) rfl rfl ?_
  refine x_iload_n (pc := 3) dL_repeatLength_3 (i := 1) rfl rfl ?_
  refine x_tryT (pc := 4) (As := [.int p1]) (rest := [.int (0 : Int32), .ref p2]) (hh := [(0, 9, 12, 21)]) fcX10 (mMetQ (mX10_repeatLength S μ cx cy p0 p1)) rfl rfl (fun _ h => ifokQ h) dL_repeatLength_4 q959 kX10_repeatLength rfl ⟨by decide, by decide⟩ rfl (Nat.le_of_ble_eq_true rfl) (fun v1 m1 => ?_) (fun E m1 => ?_)
  · refine x_i2l (pc := 7) dL_repeatLength_7 ?_
    refine x_stL (pc := 8) dL_repeatLength_8 (fun m1 => ?_)
    refine x_goto (pc := 9) (tgt := 15) dL_repeatLength_9 (by decide) ?_
    refine x_iconst (pc := 15) (v := 0) dL_repeatLength_15 (by decide) ?_
    exact x_iret rfl dL_repeatLength_16 rfl rfl
  · refine mHd.ite (e := 2) (mHd.of (i := 3) (tgt := 12) (nx := 13) ⟨by decide, [], _, _, rfl, (fun _ h => nomatch h), by decide, by decide, q223, rfl⟩ (by decide) (Or.inl ⟨3, rfl, dL_repeatLength_12, rfl⟩) ?_) ?_
    · refine x_iconst (pc := 13) (v := 1) dL_repeatLength_13 (by decide) ?_
      exact x_iret rfl dL_repeatLength_14 rfl rfl
    exact mHd.no
theorem mL_repeatLength (S : mSh) (μ : mMm) (cx cy : Nat) (p0 : Nat) (p1 : Int32) (p2 : Nat) : mMetH ML_repeatLength [(0, 9, 12, 21)] [.ref p0, .int p1, .ref p2] (S, μ, cx, cy) (iHI S cx cy) (fL_repeatLength S μ p0 p1 p2) := mMetH.of rfl (fun _ => rfl) (by decide) rfl (fun h => by cases h) (Nat.le_of_ble_eq_true rfl) (xbL_repeatLength p0 p1 p2)
/-! SlideMillsLaw.repeatLengthByPairs(LSlideMills;I[J)I -/
def fL_repeatLengthByPairs (S : mSh) (μ : mMm) (p0 : Nat) (p1 : Int32) (p2 : Nat) : Option (Int32 × mMm × Nat) := (fX10_repeatLengthByPairs S μ p0 p1).bind fun r => hTry r (fun v1 m1 => (stL S m1 p2 (0 : Int32) v1.toInt64).bind fun m1 => some ((0 : Int32), m1, 0)) (fun E m1 => (if E = 2 then (some ((1 : Int32), m1, 1)) else none))
abbrev ML_repeatLengthByPairs : mM := ((yL_repeatLengthByPairs, cL_repeatLengthByPairs, 4, (some .int)), (7, 111), (false, false), RL, eH [(0, 9, 12, 21)])
theorem kL_repeatLengthByPairs : mCalH ML_repeatLengthByPairs [(0, 9, 12, 21)] 3 := ⟨q969, q147, q970, by decide +kernel⟩
set_option maxHeartbeats 4000000 in
theorem xbL_repeatLengthByPairs {n0 c0 s0 cx cy : Nat} {S : mSh} {μ : mMm} (p0 : Nat) (p1 : Int32) (p2 : Nat) : mX ML_repeatLengthByPairs n0 c0 s0 0 [some (.ref p0), some (.int p1), some (.ref p2), none] [] (S, μ, cx, cy) (iHI S cx cy) (fL_repeatLengthByPairs S μ p0 p1 p2) := by
  unfold fL_repeatLengthByPairs
  refine x_aload_n (pc := 0) dL_repeatLengthByPairs_0 (i := 2) rfl rfl ?_
  refine x_iconst (pc := 1) (v := 0) dL_repeatLengthByPairs_1 (by decide) ?_
  refine x_aload_n (pc := 2) dL_repeatLengthByPairs_2 (i := 0) rfl rfl ?_
  refine x_iload_n (pc := 3) dL_repeatLengthByPairs_3 (i := 1) rfl rfl ?_
  refine x_tryT (pc := 4) (As := [.int p1]) (rest := [.int (0 : Int32), .ref p2]) (hh := [(0, 9, 12, 21)]) fcX10 (mX10_repeatLengthByPairs S μ cx cy p0 p1) rfl rfl (fun _ h => ifok h) dL_repeatLengthByPairs_4 q971 kX10_repeatLengthByPairs rfl ⟨by decide, by decide⟩ rfl (Nat.le_of_ble_eq_true rfl) (fun v1 m1 => ?_) (fun E m1 => ?_)
  · refine x_i2l (pc := 7) dL_repeatLengthByPairs_7 ?_
    refine x_stL (pc := 8) dL_repeatLengthByPairs_8 (fun m1 => ?_)
    refine x_goto (pc := 9) (tgt := 15) dL_repeatLengthByPairs_9 (by decide) ?_
    refine x_iconst (pc := 15) (v := 0) dL_repeatLengthByPairs_15 (by decide) ?_
    exact x_iret rfl dL_repeatLengthByPairs_16 rfl rfl
  · refine mHd.ite (e := 2) (mHd.of (i := 3) (tgt := 12) (nx := 13) ⟨by decide, [], _, _, rfl, (fun _ h => nomatch h), by decide, by decide, q223, rfl⟩ (by decide) (Or.inl ⟨3, rfl, dL_repeatLengthByPairs_12, rfl⟩) ?_) ?_
    · refine x_iconst (pc := 13) (v := 1) dL_repeatLengthByPairs_13 (by decide) ?_
      exact x_iret rfl dL_repeatLengthByPairs_14 rfl rfl
    exact mHd.no
theorem mL_repeatLengthByPairs (S : mSh) (μ : mMm) (cx cy : Nat) (p0 : Nat) (p1 : Int32) (p2 : Nat) : mMetH ML_repeatLengthByPairs [(0, 9, 12, 21)] [.ref p0, .int p1, .ref p2] (S, μ, cx, cy) (iHI S cx cy) (fL_repeatLengthByPairs S μ p0 p1 p2) := mMetH.of rfl (fun _ => rfl) (by decide) rfl (fun h => by cases h) (Nat.le_of_ble_eq_true rfl) (xbL_repeatLengthByPairs p0 p1 p2)
/-! SlideMillsLaw.repeatDistance(LSlideMills;I[J)I -/
def fL_repeatDistance (S : mSh) (μ : mMm) (p0 : Nat) (p1 : Int32) (p2 : Nat) : Option (Int32 × mMm × Nat) := ((fX10_repeatDistance S μ p0 p1).map fun x => (x, μ)).bind fun r => hTry r (fun v1 m1 => (stL S m1 p2 (0 : Int32) v1.toInt64).bind fun m1 => some ((0 : Int32), m1, 0)) (fun E m1 => (if E = 2 then (some ((1 : Int32), m1, 1)) else none))
abbrev ML_repeatDistance : mM := ((yL_repeatDistance, cL_repeatDistance, 4, (some .int)), (7, 112), (false, false), RL, eH [(0, 9, 12, 21)])
theorem kL_repeatDistance : mCalH ML_repeatDistance [(0, 9, 12, 21)] 3 := ⟨q1007, q147, q1008, by decide +kernel⟩
set_option maxHeartbeats 4000000 in
theorem xbL_repeatDistance {n0 c0 s0 cx cy : Nat} {S : mSh} {μ : mMm} (p0 : Nat) (p1 : Int32) (p2 : Nat) : mX ML_repeatDistance n0 c0 s0 0 [some (.ref p0), some (.int p1), some (.ref p2), none] [] (S, μ, cx, cy) (iHI S cx cy) (fL_repeatDistance S μ p0 p1 p2) := by
  unfold fL_repeatDistance
  refine x_aload_n (pc := 0) dL_repeatDistance_0 (i := 2) rfl rfl ?_
  refine x_iconst (pc := 1) (v := 0) dL_repeatDistance_1 (by decide) ?_
  refine x_aload_n (pc := 2) dL_repeatDistance_2 (i := 0) rfl rfl ?_
  refine x_iload_n (pc := 3) dL_repeatDistance_3 (i := 1) rfl rfl ?_
  refine x_tryT (pc := 4) (As := [.int p1]) (rest := [.int (0 : Int32), .ref p2]) (hh := [(0, 9, 12, 21)]) fcX10 (mMetQ (mX10_repeatDistance S μ cx cy p0 p1)) rfl rfl (fun _ h => ifokQ h) dL_repeatDistance_4 q1009 kX10_repeatDistance rfl ⟨by decide, by decide⟩ rfl (Nat.le_of_ble_eq_true rfl) (fun v1 m1 => ?_) (fun E m1 => ?_)
  · refine x_i2l (pc := 7) dL_repeatDistance_7 ?_
    refine x_stL (pc := 8) dL_repeatDistance_8 (fun m1 => ?_)
    refine x_goto (pc := 9) (tgt := 15) dL_repeatDistance_9 (by decide) ?_
    refine x_iconst (pc := 15) (v := 0) dL_repeatDistance_15 (by decide) ?_
    exact x_iret rfl dL_repeatDistance_16 rfl rfl
  · refine mHd.ite (e := 2) (mHd.of (i := 3) (tgt := 12) (nx := 13) ⟨by decide, [], _, _, rfl, (fun _ h => nomatch h), by decide, by decide, q223, rfl⟩ (by decide) (Or.inl ⟨3, rfl, dL_repeatDistance_12, rfl⟩) ?_) ?_
    · refine x_iconst (pc := 13) (v := 1) dL_repeatDistance_13 (by decide) ?_
      exact x_iret rfl dL_repeatDistance_14 rfl rfl
    exact mHd.no
theorem mL_repeatDistance (S : mSh) (μ : mMm) (cx cy : Nat) (p0 : Nat) (p1 : Int32) (p2 : Nat) : mMetH ML_repeatDistance [(0, 9, 12, 21)] [.ref p0, .int p1, .ref p2] (S, μ, cx, cy) (iHI S cx cy) (fL_repeatDistance S μ p0 p1 p2) := mMetH.of rfl (fun _ => rfl) (by decide) rfl (fun h => by cases h) (Nat.le_of_ble_eq_true rfl) (xbL_repeatDistance p0 p1 p2)
/-! SlideMillsLaw.costBy(LSlideMills;I[J)I -/
def fL_costBy (S : mSh) (μ : mMm) (p0 : Nat) (p1 : Int32) (p2 : Nat) : Option (Int32 × mMm × Nat) := (fX10_costBy S μ p0 p1).bind fun r => hTry r (fun v1 m1 => (stL S m1 p2 (0 : Int32) v1.toInt64).bind fun m1 => some ((0 : Int32), m1, 0)) (fun E m1 => (if E = 0 then (some ((1 : Int32), m1, 1)) else none))
abbrev ML_costBy : mM := ((yL_costBy, cL_costBy, 4, (some .int)), (7, 162), (false, false), RL, eH [(0, 9, 12, 13)])
theorem kL_costBy : mCalH ML_costBy [(0, 9, 12, 13)] 3 := ⟨q1023, q147, q1024, by decide +kernel⟩
set_option maxHeartbeats 4000000 in
theorem xbL_costBy {n0 c0 s0 cx cy : Nat} {S : mSh} {μ : mMm} (p0 : Nat) (p1 : Int32) (p2 : Nat) : mX ML_costBy n0 c0 s0 0 [some (.ref p0), some (.int p1), some (.ref p2), none] [] (S, μ, cx, cy) (iHI S cx cy) (fL_costBy S μ p0 p1 p2) := by
  unfold fL_costBy
  refine x_aload_n (pc := 0) dL_costBy_0 (i := 2) rfl rfl ?_
  refine x_iconst (pc := 1) (v := 0) dL_costBy_1 (by decide) ?_
  refine x_aload_n (pc := 2) dL_costBy_2 (i := 0) rfl rfl ?_
  refine x_iload_n (pc := 3) dL_costBy_3 (i := 1) rfl rfl ?_
  refine x_tryT (pc := 4) (As := [.int p1]) (rest := [.int (0 : Int32), .ref p2]) (hh := [(0, 9, 12, 13)]) fcX10 (mX10_costBy S μ cx cy p0 p1) rfl rfl (fun _ h => ifok h) dL_costBy_4 q1025 kX10_costBy rfl ⟨by decide, by decide⟩ rfl (Nat.le_of_ble_eq_true rfl) (fun v1 m1 => ?_) (fun E m1 => ?_)
  · refine x_i2l (pc := 7) dL_costBy_7 ?_
    refine x_stL (pc := 8) dL_costBy_8 (fun m1 => ?_)
    refine x_goto (pc := 9) (tgt := 15) dL_costBy_9 (by decide) ?_
    refine x_iconst (pc := 15) (v := 0) dL_costBy_15 (by decide) ?_
    exact x_iret rfl dL_costBy_16 rfl rfl
  · refine mHd.ite (e := 0) (mHd.of (i := 3) (tgt := 12) (nx := 13) ⟨by decide, [], _, _, rfl, (fun _ h => nomatch h), by decide, by decide, q149, rfl⟩ (by decide) (Or.inl ⟨3, rfl, dL_costBy_12, rfl⟩) ?_) ?_
    · refine x_iconst (pc := 13) (v := 1) dL_costBy_13 (by decide) ?_
      exact x_iret rfl dL_costBy_14 rfl rfl
    exact mHd.no
theorem mL_costBy (S : mSh) (μ : mMm) (cx cy : Nat) (p0 : Nat) (p1 : Int32) (p2 : Nat) : mMetH ML_costBy [(0, 9, 12, 13)] [.ref p0, .int p1, .ref p2] (S, μ, cx, cy) (iHI S cx cy) (fL_costBy S μ p0 p1 p2) := mMetH.of rfl (fun _ => rfl) (by decide) rfl (fun h => by cases h) (Nat.le_of_ble_eq_true rfl) (xbL_costBy p0 p1 p2)
/-! SlideMillsLaw.tokensBy(LSlideMills;I[J)I -/
def fL_tokensBy (S : mSh) (μ : mMm) (p0 : Nat) (p1 : Int32) (p2 : Nat) : Option (Int32 × mMm × Nat) := (fX10_tokensBy S μ p0 p1).bind fun r => hTry r (fun v1 m1 => (stL S m1 p2 (0 : Int32) v1.toInt64).bind fun m1 => some ((0 : Int32), m1, 0)) (fun E m1 => (if E = 0 then (some ((1 : Int32), m1, 1)) else none))
abbrev ML_tokensBy : mM := ((yL_tokensBy, cL_tokensBy, 4, (some .int)), (7, 162), (false, false), RL, eH [(0, 9, 12, 13)])
theorem kL_tokensBy : mCalH ML_tokensBy [(0, 9, 12, 13)] 3 := ⟨q1038, q147, q1039, by decide +kernel⟩
set_option maxHeartbeats 4000000 in
theorem xbL_tokensBy {n0 c0 s0 cx cy : Nat} {S : mSh} {μ : mMm} (p0 : Nat) (p1 : Int32) (p2 : Nat) : mX ML_tokensBy n0 c0 s0 0 [some (.ref p0), some (.int p1), some (.ref p2), none] [] (S, μ, cx, cy) (iHI S cx cy) (fL_tokensBy S μ p0 p1 p2) := by
  unfold fL_tokensBy
  refine x_aload_n (pc := 0) dL_tokensBy_0 (i := 2) rfl rfl ?_
  refine x_iconst (pc := 1) (v := 0) dL_tokensBy_1 (by decide) ?_
  refine x_aload_n (pc := 2) dL_tokensBy_2 (i := 0) rfl rfl ?_
  refine x_iload_n (pc := 3) dL_tokensBy_3 (i := 1) rfl rfl ?_
  refine x_tryT (pc := 4) (As := [.int p1]) (rest := [.int (0 : Int32), .ref p2]) (hh := [(0, 9, 12, 13)]) fcX10 (mX10_tokensBy S μ cx cy p0 p1) rfl rfl (fun _ h => ifok h) dL_tokensBy_4 q1040 kX10_tokensBy rfl ⟨by decide, by decide⟩ rfl (Nat.le_of_ble_eq_true rfl) (fun v1 m1 => ?_) (fun E m1 => ?_)
  · refine x_i2l (pc := 7) dL_tokensBy_7 ?_
    refine x_stL (pc := 8) dL_tokensBy_8 (fun m1 => ?_)
    refine x_goto (pc := 9) (tgt := 15) dL_tokensBy_9 (by decide) ?_
    refine x_iconst (pc := 15) (v := 0) dL_tokensBy_15 (by decide) ?_
    exact x_iret rfl dL_tokensBy_16 rfl rfl
  · refine mHd.ite (e := 0) (mHd.of (i := 3) (tgt := 12) (nx := 13) ⟨by decide, [], _, _, rfl, (fun _ h => nomatch h), by decide, by decide, q149, rfl⟩ (by decide) (Or.inl ⟨3, rfl, dL_tokensBy_12, rfl⟩) ?_) ?_
    · refine x_iconst (pc := 13) (v := 1) dL_tokensBy_13 (by decide) ?_
      exact x_iret rfl dL_tokensBy_14 rfl rfl
    exact mHd.no
theorem mL_tokensBy (S : mSh) (μ : mMm) (cx cy : Nat) (p0 : Nat) (p1 : Int32) (p2 : Nat) : mMetH ML_tokensBy [(0, 9, 12, 13)] [.ref p0, .int p1, .ref p2] (S, μ, cx, cy) (iHI S cx cy) (fL_tokensBy S μ p0 p1 p2) := mMetH.of rfl (fun _ => rfl) (by decide) rfl (fun h => by cases h) (Nat.le_of_ble_eq_true rfl) (xbL_tokensBy p0 p1 p2)
/-! SlideMillsLaw.leastCostWith(LSlideMills;I[J)I -/
def fL_leastCostWith (S : mSh) (μ : mMm) (p0 : Nat) (p1 : Int32) (p2 : Nat) : Option (Int32 × mMm × Nat) := (fX10_leastCostWith S μ p0 p1).bind fun r => hTry r (fun v1 m1 => (stL S m1 p2 (0 : Int32) v1.toInt64).bind fun m1 => some ((0 : Int32), m1, 0)) (fun E m1 => (if E = 0 then (some ((1 : Int32), m1, 1)) else none))
abbrev ML_leastCostWith : mM := ((yL_leastCostWith, cL_leastCostWith, 4, (some .int)), (7, 117), (false, false), RL, eH [(0, 9, 12, 13)])
theorem kL_leastCostWith : mCalH ML_leastCostWith [(0, 9, 12, 13)] 3 := ⟨q1084, q147, q1085, by decide +kernel⟩
set_option maxHeartbeats 4000000 in
theorem xbL_leastCostWith {n0 c0 s0 cx cy : Nat} {S : mSh} {μ : mMm} (p0 : Nat) (p1 : Int32) (p2 : Nat) : mX ML_leastCostWith n0 c0 s0 0 [some (.ref p0), some (.int p1), some (.ref p2), none] [] (S, μ, cx, cy) (iHI S cx cy) (fL_leastCostWith S μ p0 p1 p2) := by
  unfold fL_leastCostWith
  refine x_aload_n (pc := 0) dL_leastCostWith_0 (i := 2) rfl rfl ?_
  refine x_iconst (pc := 1) (v := 0) dL_leastCostWith_1 (by decide) ?_
  refine x_aload_n (pc := 2) dL_leastCostWith_2 (i := 0) rfl rfl ?_
  refine x_iload_n (pc := 3) dL_leastCostWith_3 (i := 1) rfl rfl ?_
  refine x_tryT (pc := 4) (As := [.int p1]) (rest := [.int (0 : Int32), .ref p2]) (hh := [(0, 9, 12, 13)]) fcX10 (mX10_leastCostWith S μ cx cy p0 p1) rfl rfl (fun _ h => ifok h) dL_leastCostWith_4 q1086 kX10_leastCostWith rfl ⟨by decide, by decide⟩ rfl (Nat.le_of_ble_eq_true rfl) (fun v1 m1 => ?_) (fun E m1 => ?_)
  · refine x_i2l (pc := 7) dL_leastCostWith_7 ?_
    refine x_stL (pc := 8) dL_leastCostWith_8 (fun m1 => ?_)
    refine x_goto (pc := 9) (tgt := 15) dL_leastCostWith_9 (by decide) ?_
    refine x_iconst (pc := 15) (v := 0) dL_leastCostWith_15 (by decide) ?_
    exact x_iret rfl dL_leastCostWith_16 rfl rfl
  · refine mHd.ite (e := 0) (mHd.of (i := 3) (tgt := 12) (nx := 13) ⟨by decide, [], _, _, rfl, (fun _ h => nomatch h), by decide, by decide, q149, rfl⟩ (by decide) (Or.inl ⟨3, rfl, dL_leastCostWith_12, rfl⟩) ?_) ?_
    · refine x_iconst (pc := 13) (v := 1) dL_leastCostWith_13 (by decide) ?_
      exact x_iret rfl dL_leastCostWith_14 rfl rfl
    exact mHd.no
theorem mL_leastCostWith (S : mSh) (μ : mMm) (cx cy : Nat) (p0 : Nat) (p1 : Int32) (p2 : Nat) : mMetH ML_leastCostWith [(0, 9, 12, 13)] [.ref p0, .int p1, .ref p2] (S, μ, cx, cy) (iHI S cx cy) (fL_leastCostWith S μ p0 p1 p2) := mMetH.of rfl (fun _ => rfl) (by decide) rfl (fun h => by cases h) (Nat.le_of_ble_eq_true rfl) (xbL_leastCostWith p0 p1 p2)
/-! SlideMillsLaw.pairs(LSlideMills;I[J)I -/
def fL_pairs (S : mSh) (μ : mMm) (p0 : Nat) (p1 : Int32) (p2 : Nat) : Option (Int32 × mMm × Nat) := (fX10_pairs S μ p0 p1).bind fun r => hTry r (fun v1 m1 => (stL S m1 p2 (0 : Int32) v1.toInt64).bind fun m1 => some ((0 : Int32), m1, 0)) (fun E m1 => (if E = 0 then (some ((1 : Int32), m1, 1)) else none))
abbrev ML_pairs : mM := ((yL_pairs, cL_pairs, 4, (some .int)), (7, 111), (false, false), RL, eH [(0, 9, 12, 13)])
theorem kL_pairs : mCalH ML_pairs [(0, 9, 12, 13)] 3 := ⟨q1095, q147, q1096, by decide +kernel⟩
set_option maxHeartbeats 4000000 in
theorem xbL_pairs {n0 c0 s0 cx cy : Nat} {S : mSh} {μ : mMm} (p0 : Nat) (p1 : Int32) (p2 : Nat) : mX ML_pairs n0 c0 s0 0 [some (.ref p0), some (.int p1), some (.ref p2), none] [] (S, μ, cx, cy) (iHI S cx cy) (fL_pairs S μ p0 p1 p2) := by
  unfold fL_pairs
  refine x_aload_n (pc := 0) dL_pairs_0 (i := 2) rfl rfl ?_
  refine x_iconst (pc := 1) (v := 0) dL_pairs_1 (by decide) ?_
  refine x_aload_n (pc := 2) dL_pairs_2 (i := 0) rfl rfl ?_
  refine x_iload_n (pc := 3) dL_pairs_3 (i := 1) rfl rfl ?_
  refine x_tryT (pc := 4) (As := [.int p1]) (rest := [.int (0 : Int32), .ref p2]) (hh := [(0, 9, 12, 13)]) fcX10 (mX10_pairs S μ cx cy p0 p1) rfl rfl (fun _ h => ifok h) dL_pairs_4 q1097 kX10_pairs rfl ⟨by decide, by decide⟩ rfl (Nat.le_of_ble_eq_true rfl) (fun v1 m1 => ?_) (fun E m1 => ?_)
  · refine x_i2l (pc := 7) dL_pairs_7 ?_
    refine x_stL (pc := 8) dL_pairs_8 (fun m1 => ?_)
    refine x_goto (pc := 9) (tgt := 15) dL_pairs_9 (by decide) ?_
    refine x_iconst (pc := 15) (v := 0) dL_pairs_15 (by decide) ?_
    exact x_iret rfl dL_pairs_16 rfl rfl
  · refine mHd.ite (e := 0) (mHd.of (i := 3) (tgt := 12) (nx := 13) ⟨by decide, [], _, _, rfl, (fun _ h => nomatch h), by decide, by decide, q149, rfl⟩ (by decide) (Or.inl ⟨3, rfl, dL_pairs_12, rfl⟩) ?_) ?_
    · refine x_iconst (pc := 13) (v := 1) dL_pairs_13 (by decide) ?_
      exact x_iret rfl dL_pairs_14 rfl rfl
    exact mHd.no
theorem mL_pairs (S : mSh) (μ : mMm) (cx cy : Nat) (p0 : Nat) (p1 : Int32) (p2 : Nat) : mMetH ML_pairs [(0, 9, 12, 13)] [.ref p0, .int p1, .ref p2] (S, μ, cx, cy) (iHI S cx cy) (fL_pairs S μ p0 p1 p2) := mMetH.of rfl (fun _ => rfl) (by decide) rfl (fun h => by cases h) (Nat.le_of_ble_eq_true rfl) (xbL_pairs p0 p1 p2)
/-! SlideMillsLaw.lastPlaceOf(LSlideMills;I[J)I -/
def fL_lastPlaceOf (S : mSh) (μ : mMm) (p0 : Nat) (p1 : Int32) (p2 : Nat) : Option (Int32 × mMm × Nat) := (fX10_lastPlaceOf S μ p0 p1).bind fun r => hTry r (fun v1 m1 => (stL S m1 p2 (0 : Int32) v1.toInt64).bind fun m1 => some ((0 : Int32), m1, 0)) (fun E m1 => (if E = 0 then (some ((1 : Int32), m1, 1)) else none))
abbrev ML_lastPlaceOf : mM := ((yL_lastPlaceOf, cL_lastPlaceOf, 4, (some .int)), (7, 111), (false, false), RL, eH [(0, 9, 12, 13)])
theorem kL_lastPlaceOf : mCalH ML_lastPlaceOf [(0, 9, 12, 13)] 3 := ⟨q1117, q147, q1118, by decide +kernel⟩
set_option maxHeartbeats 4000000 in
theorem xbL_lastPlaceOf {n0 c0 s0 cx cy : Nat} {S : mSh} {μ : mMm} (p0 : Nat) (p1 : Int32) (p2 : Nat) : mX ML_lastPlaceOf n0 c0 s0 0 [some (.ref p0), some (.int p1), some (.ref p2), none] [] (S, μ, cx, cy) (iHI S cx cy) (fL_lastPlaceOf S μ p0 p1 p2) := by
  unfold fL_lastPlaceOf
  refine x_aload_n (pc := 0) dL_lastPlaceOf_0 (i := 2) rfl rfl ?_
  refine x_iconst (pc := 1) (v := 0) dL_lastPlaceOf_1 (by decide) ?_
  refine x_aload_n (pc := 2) dL_lastPlaceOf_2 (i := 0) rfl rfl ?_
  refine x_iload_n (pc := 3) dL_lastPlaceOf_3 (i := 1) rfl rfl ?_
  refine x_tryT (pc := 4) (As := [.int p1]) (rest := [.int (0 : Int32), .ref p2]) (hh := [(0, 9, 12, 13)]) fcX10 (mX10_lastPlaceOf S μ cx cy p0 p1) rfl rfl (fun _ h => ifok h) dL_lastPlaceOf_4 q1119 kX10_lastPlaceOf rfl ⟨by decide, by decide⟩ rfl (Nat.le_of_ble_eq_true rfl) (fun v1 m1 => ?_) (fun E m1 => ?_)
  · refine x_i2l (pc := 7) dL_lastPlaceOf_7 ?_
    refine x_stL (pc := 8) dL_lastPlaceOf_8 (fun m1 => ?_)
    refine x_goto (pc := 9) (tgt := 15) dL_lastPlaceOf_9 (by decide) ?_
    refine x_iconst (pc := 15) (v := 0) dL_lastPlaceOf_15 (by decide) ?_
    exact x_iret rfl dL_lastPlaceOf_16 rfl rfl
  · refine mHd.ite (e := 0) (mHd.of (i := 3) (tgt := 12) (nx := 13) ⟨by decide, [], _, _, rfl, (fun _ h => nomatch h), by decide, by decide, q149, rfl⟩ (by decide) (Or.inl ⟨3, rfl, dL_lastPlaceOf_12, rfl⟩) ?_) ?_
    · refine x_iconst (pc := 13) (v := 1) dL_lastPlaceOf_13 (by decide) ?_
      exact x_iret rfl dL_lastPlaceOf_14 rfl rfl
    exact mHd.no
theorem mL_lastPlaceOf (S : mSh) (μ : mMm) (cx cy : Nat) (p0 : Nat) (p1 : Int32) (p2 : Nat) : mMetH ML_lastPlaceOf [(0, 9, 12, 13)] [.ref p0, .int p1, .ref p2] (S, μ, cx, cy) (iHI S cx cy) (fL_lastPlaceOf S μ p0 p1 p2) := mMetH.of rfl (fun _ => rfl) (by decide) rfl (fun h => by cases h) (Nat.le_of_ble_eq_true rfl) (xbL_lastPlaceOf p0 p1 p2)
/-! SlideMillsLaw.mostFrequent(LSlideMills;[J)I -/
def fL_mostFrequent (S : mSh) (μ : mMm) (p0 : Nat) (p1 : Nat) : Option (Int32 × mMm × Nat) := (fX10_mostFrequent S μ p0).bind fun r => hTry r (fun v1 m1 => (stL S m1 p1 (0 : Int32) v1.toInt64).bind fun m1 => some ((0 : Int32), m1, 0)) (fun E m1 => (if E = 1 then (some ((1 : Int32), m1, 1)) else none))
abbrev ML_mostFrequent : mM := ((yL_mostFrequent, cL_mostFrequent, 3, (some .int)), (7, 110), (false, false), RL, eH [(0, 8, 11, 15)])
theorem kL_mostFrequent : mCalH ML_mostFrequent [(0, 8, 11, 15)] 2 := ⟨q1136, q147, q1137, by decide +kernel⟩
set_option maxHeartbeats 4000000 in
theorem xbL_mostFrequent {n0 c0 s0 cx cy : Nat} {S : mSh} {μ : mMm} (p0 : Nat) (p1 : Nat) : mX ML_mostFrequent n0 c0 s0 0 [some (.ref p0), some (.ref p1), none] [] (S, μ, cx, cy) (iHI S cx cy) (fL_mostFrequent S μ p0 p1) := by
  unfold fL_mostFrequent
  refine x_aload_n (pc := 0) dL_mostFrequent_0 (i := 1) rfl rfl ?_
  refine x_iconst (pc := 1) (v := 0) dL_mostFrequent_1 (by decide) ?_
  refine x_aload_n (pc := 2) dL_mostFrequent_2 (i := 0) rfl rfl ?_
  refine x_tryT (pc := 3) (As := []) (rest := [.int (0 : Int32), .ref p1]) (hh := [(0, 8, 11, 15)]) fcX10 (mX10_mostFrequent S μ cx cy p0) rfl rfl (fun _ h => ifok h) dL_mostFrequent_3 q1138 kX10_mostFrequent rfl ⟨by decide, by decide⟩ rfl (Nat.le_of_ble_eq_true rfl) (fun v1 m1 => ?_) (fun E m1 => ?_)
  · refine x_i2l (pc := 6) dL_mostFrequent_6 ?_
    refine x_stL (pc := 7) dL_mostFrequent_7 (fun m1 => ?_)
    refine x_goto (pc := 8) (tgt := 14) dL_mostFrequent_8 (by decide) ?_
    refine x_iconst (pc := 14) (v := 0) dL_mostFrequent_14 (by decide) ?_
    exact x_iret rfl dL_mostFrequent_15 rfl rfl
  · refine mHd.ite (e := 1) (mHd.of (i := 2) (tgt := 11) (nx := 12) ⟨by decide, [], _, _, rfl, (fun _ h => nomatch h), by decide, by decide, q150, rfl⟩ (by decide) (Or.inl ⟨2, rfl, dL_mostFrequent_11, rfl⟩) ?_) ?_
    · refine x_iconst (pc := 12) (v := 1) dL_mostFrequent_12 (by decide) ?_
      exact x_iret rfl dL_mostFrequent_13 rfl rfl
    exact mHd.no
theorem mL_mostFrequent (S : mSh) (μ : mMm) (cx cy : Nat) (p0 : Nat) (p1 : Nat) : mMetH ML_mostFrequent [(0, 8, 11, 15)] [.ref p0, .ref p1] (S, μ, cx, cy) (iHI S cx cy) (fL_mostFrequent S μ p0 p1) := mMetH.of rfl (fun _ => rfl) (by decide) rfl (fun h => by cases h) (Nat.le_of_ble_eq_true rfl) (xbL_mostFrequent p0 p1)
