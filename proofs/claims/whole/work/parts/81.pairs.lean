/-! class and reference side by side, call by call (printed by g81.py) -/
variable {μ : mMm} {A : AS}
theorem pl_addLetter (hA : AW A) (hC : CI μ.1 A) (hI : RI μ.1 A) (p : Int32) : TP (fL_addLetter oS μ 0 p 83) (fun μ' => fX11_addLetter oS μ' 74 p) := by
  obtain ⟨q, rfl, h0, h1⟩ := ii_all p
  unfold fL_addLetter
  by_cases c : 0 ≤ q ∧ q ≤ 3
  · by_cases c2 : A.v 0 < 40
    · exact TP_ok hI (AW_chg hA (WF_put hA.1 c2 c.1 c.2)) (cAddLetter hA hC c c2) (fun μ' hI' => rAddLetter hA hI' c c2)
    · exact TP_no (w := 2) hI hA (fun _ => rfl) (by omega) (cAddLetter_1 hA hC c c2) (fun μ' hI' => rAddLetter_1 hA hI' c c2)
  · exact TP_no (w := 1) hI hA (fun _ => rfl) (by omega) (cAddLetter_0 hC h0 h1 c) (fun μ' hI' => rAddLetter_0 hA hI' h0 h1 c)
theorem pl_setLetter (hA : AW A) (hC : CI μ.1 A) (hI : RI μ.1 A) (p p2 : Int32) : TP (fL_setLetter oS μ 0 p p2 83) (fun μ' => fX11_setLetter oS μ' 74 p p2) := by
  obtain ⟨q, rfl, h0, h1⟩ := ii_all p
  obtain ⟨q2, rfl, h2, h3⟩ := ii_all p2
  unfold fL_setLetter
  by_cases c : 0 ≤ q ∧ q < A.v 0
  · by_cases c2 : 0 ≤ q2 ∧ q2 ≤ 3
    · exact TP_ok hI (AW_chg hA (WF_rep hA.1 c.1 c.2 c2.1 c2.2)) (cSetLetter hA hC c c2) (fun μ' hI' => rSetLetter hA hI' c c2)
    · exact TP_no (w := 2) hI hA (fun _ => rfl) (by omega) (cSetLetter_0 hA hC c h2 h3 c2) (fun μ' hI' => rSetLetter_0 hA hI' c h2 h3 c2)
  · exact TP_no (w := 1) hI hA (fun _ => rfl) (by omega) (cSetLetter_2 hA hC h0 h1 c) (fun μ' hI' => rSetLetter_2 hA hI' h0 h1 h2 h3 c)
theorem pl_setWindow (hA : AW A) (hC : CI μ.1 A) (hI : RI μ.1 A) (p : Int32) : TP (fL_setWindow oS μ 0 p 83) (fun μ' => fX11_setWindow oS μ' 74 p) := by
  obtain ⟨q, rfl, h0, h1⟩ := ii_all p
  unfold fL_setWindow
  by_cases c : 1 ≤ q ∧ q ≤ 32
  · exact TP_ok hI (AW_chg hA (WF_s1 hA.1 c.1 c.2)) (cSetWindow hA hC c) (fun μ' hI' => rSetWindow hI' c)
  · exact TP_no (w := 1) hI hA (fun _ => rfl) (by omega) (cSetWindow_0 hC h0 h1 c) (fun μ' hI' => rSetWindow_0 hI' h0 h1 c)
theorem pl_setShortest (hA : AW A) (hC : CI μ.1 A) (hI : RI μ.1 A) (p : Int32) : TP (fL_setShortest oS μ 0 p 83) (fun μ' => fX11_setShortest oS μ' 74 p) := by
  obtain ⟨q, rfl, h0, h1⟩ := ii_all p
  unfold fL_setShortest
  by_cases c : 2 ≤ q ∧ q ≤ 4
  · exact TP_ok hI (AW_chg hA (WF_s2 hA.1 c.1 c.2)) (cSetShortest hA hC c) (fun μ' hI' => rSetShortest hI' c)
  · exact TP_no (w := 1) hI hA (fun _ => rfl) (by omega) (cSetShortest_0 hC h0 h1 c) (fun μ' hI' => rSetShortest_0 hI' h0 h1 c)
theorem pl_setLongest (hA : AW A) (hC : CI μ.1 A) (hI : RI μ.1 A) (p : Int32) : TP (fL_setLongest oS μ 0 p 83) (fun μ' => fX11_setLongest oS μ' 74 p) := by
  obtain ⟨q, rfl, h0, h1⟩ := ii_all p
  unfold fL_setLongest
  by_cases c : 4 ≤ q ∧ q ≤ 9
  · exact TP_ok hI (AW_chg hA (WF_s3 hA.1 c.1 c.2)) (cSetLongest hA hC c) (fun μ' hI' => rSetLongest hI' c)
  · exact TP_no (w := 1) hI hA (fun _ => rfl) (by omega) (cSetLongest_0 hC h0 h1 c) (fun μ' hI' => rSetLongest_0 hI' h0 h1 c)
theorem pl_setLetterPrice (hA : AW A) (hC : CI μ.1 A) (hI : RI μ.1 A) (p : Int32) : TP (fL_setLetterPrice oS μ 0 p 83) (fun μ' => fX11_setLetterPrice oS μ' 74 p) := by
  obtain ⟨q, rfl, h0, h1⟩ := ii_all p
  unfold fL_setLetterPrice
  by_cases c : 1 ≤ q ∧ q ≤ 9
  · exact TP_ok hI (AW_chg hA (WF_s4 hA.1 c.1 c.2)) (cSetLetterPrice hA hC c) (fun μ' hI' => rSetLetterPrice hI' c)
  · exact TP_no (w := 1) hI hA (fun _ => rfl) (by omega) (cSetLetterPrice_0 hC h0 h1 c) (fun μ' hI' => rSetLetterPrice_0 hI' h0 h1 c)
theorem pl_setRepeatPrice (hA : AW A) (hC : CI μ.1 A) (hI : RI μ.1 A) (p : Int32) : TP (fL_setRepeatPrice oS μ 0 p 83) (fun μ' => fX11_setRepeatPrice oS μ' 74 p) := by
  obtain ⟨q, rfl, h0, h1⟩ := ii_all p
  unfold fL_setRepeatPrice
  by_cases c : 1 ≤ q ∧ q ≤ 20
  · exact TP_ok hI (AW_chg hA (WF_s5 hA.1 c.1 c.2)) (cSetRepeatPrice hA hC c) (fun μ' hI' => rSetRepeatPrice hI' c)
  · exact TP_no (w := 1) hI hA (fun _ => rfl) (by omega) (cSetRepeatPrice_0 hC h0 h1 c) (fun μ' hI' => rSetRepeatPrice_0 hI' h0 h1 c)
theorem pl_pack (hA : AW A) (hC : CI μ.1 A) (hI : RI μ.1 A) (p : Int32) : TP (fL_pack oS μ 0 p 83) (fun μ' => fX11_pack oS μ' 74 p) := by
  obtain ⟨q, rfl, h0, h1⟩ := ii_all p
  unfold fL_pack
  by_cases c : 0 ≤ q ∧ q ≤ 2
  · exact TP_ok hI (AW_chg hA (WF_pkv hA.1 q)) (cPack hA hC c) (fun μ' hI' => rPack hA hI' c)
  · exact TP_no (w := 1) hI hA (fun _ => rfl) (by omega) (cPack_0 hC h0 h1 c) (fun μ' hI' => rPack_0 hI' h0 h1 c)
theorem pl_unpack (hA : AW A) (hC : CI μ.1 A) (hI : RI μ.1 A) : TP (fL_unpack oS μ 0 83) (fun μ' => fX11_unpack oS μ' 74) := by
  unfold fL_unpack
  by_cases c : (unp A.v).2.2.2 = 0
  · exact TP_ok hI (AW_chg hA (WF_setTx hA.1 (unp_b hA.1).1.1 (unp_b hA.1).1.2 (unp_b hA.1).2.1)) (cUnpack hA hC c) (fun μ' hI' => rUnpack hA hI' c)
  · exact TP_no (w := 1) hI hA (fun _ => rfl) (by omega) (cUnpack_1 hA hC c) (fun μ' hI' => rUnpack_1 hA hI' c)
theorem pl_addToken (hA : AW A) (hC : CI μ.1 A) (hI : RI μ.1 A) (p : Int32) : TP (fL_addToken oS μ 0 p 83) (fun μ' => fX11_addToken oS μ' 74 p) := by
  obtain ⟨q, rfl, h0, h1⟩ := ii_all p
  unfold fL_addToken
  by_cases c : 0 ≤ q ∧ q ≤ 3
  · by_cases c2 : A.v 6 < 40
    · exact TP_ok hI (AW_chg hA (WF_sput hA.1 c2 ⟨by omega, by omega, fun _ => c, fun hh => absurd rfl hh⟩)) (cAddToken hA hC c c2) (fun μ' hI' => rAddToken hA hI' c c2)
    · exact TP_no (w := 2) hI hA (fun _ => rfl) (by omega) (cAddToken_1 hA hC c c2) (fun μ' hI' => rAddToken_1 hA hI' c c2)
  · exact TP_no (w := 1) hI hA (fun _ => rfl) (by omega) (cAddToken_0 hC h0 h1 c) (fun μ' hI' => rAddToken_0 hA hI' h0 h1 c)
theorem pl_addRepeat (hA : AW A) (hC : CI μ.1 A) (hI : RI μ.1 A) (p p2 : Int32) : TP (fL_addRepeat oS μ 0 p p2 83) (fun μ' => fX11_addRepeat oS μ' 74 p p2) := by
  obtain ⟨q, rfl, h0, h1⟩ := ii_all p
  obtain ⟨q2, rfl, h2, h3⟩ := ii_all p2
  unfold fL_addRepeat
  by_cases c : (1 ≤ q ∧ q ≤ 39) ∧ 1 ≤ q2 ∧ q2 ≤ 40
  · by_cases c2 : A.v 6 < 40
    · exact TP_ok hI (AW_chg hA (WF_sput hA.1 c2 ⟨by omega, by omega, fun hh => by omega, fun _ => c.2⟩)) (cAddRepeat hA hC c.1 c.2 c2) (fun μ' hI' => rAddRepeat hA hI' c.1 c.2 c2)
    · exact TP_no (w := 2) hI hA (fun _ => rfl) (by omega) (cAddRepeat_1 hA hC c.1 c.2 c2) (fun μ' hI' => rAddRepeat_1 hA hI' c.1 c.2 c2)
  · exact TP_no (w := 1) hI hA (fun _ => rfl) (by omega) (cAddRepeat_0 hC h0 h1 h2 h3 c) (fun μ' hI' => rAddRepeat_0 hA hI' h0 h1 h2 h3 c)
theorem pl_takeLast (hA : AW A) (hC : CI μ.1 A) (hI : RI μ.1 A) : TP (fL_takeLast oS μ 0 83) (fun μ' => fX11_takeLast oS μ' 74) := by
  unfold fL_takeLast
  by_cases c : 0 < A.v 6
  · exact TP_ok hI (AW_chg hA (WF_slast hA.1 c)) (cTakeLast hA hC c) (fun μ' hI' => rTakeLast hA hI' c)
  · exact TP_no (w := 1) hI hA (fun _ => rfl) (by omega) (cTakeLast_1 hA hC c) (fun μ' hI' => rTakeLast_1 hA hI' c)
theorem pl_append (hA : AW A) (hC : CI μ.1 A) (hI : RI μ.1 A) (p : Int32) : TP (fL_append oS μ 0 p 83) (fun μ' => fX11_append oS μ' 74 p) := by
  obtain ⟨q, rfl, h0, h1⟩ := ii_all p
  unfold fL_append
  by_cases c : 33 ≤ q ∧ q ≤ 126
  · by_cases c2 : A.b < 60
    · exact TP_ok hI (AW_app hA c c2) (cAppend hA hC c c2) (fun μ' hI' => rAppend hA hI' c c2)
    · exact TP_no (w := 2) hI hA (fun _ => rfl) (by omega) (cAppend_1 hA hC c c2) (fun μ' hI' => rAppend_1 hA hI' c c2)
  · exact TP_no (w := 1) hI hA (fun _ => rfl) (by omega) (cAppend_0 hC h0 h1 c) (fun μ' hI' => rAppend_0 hA hI' h0 h1 c)
theorem pl_stoppedPart (hA : AW A) (hC : CI μ.1 A) (hI : RI μ.1 A) : TP (fL_stoppedPart oS μ 0 83) (fun μ' => fX11_stoppedPart oS μ' 74) := by
  unfold fL_stoppedPart
  by_cases c : A.v 9 = 0
  · exact TP_no (w := 1) hI hA (fun _ => rfl) (by omega) (CS_map hC (cStoppedPart_1 hC c)) (fun μ' hI' => rStoppedPart_1 hA hI' c)
  · exact TP_ok hI (hA) (CS_map hC (cStoppedPart hA hC c)) (fun μ' hI' => rStoppedPart hA hI' c)
theorem pl_whyStopped (hA : AW A) (hC : CI μ.1 A) (hI : RI μ.1 A) : TP (fL_whyStopped oS μ 0 83) (fun μ' => fX11_whyStopped oS μ' 74) := by
  unfold fL_whyStopped
  by_cases c : A.v 9 = 0
  · exact TP_no (w := 1) hI hA (fun _ => rfl) (by omega) (CS_map hC (cWhyStopped_1 hC c)) (fun μ' hI' => rWhyStopped_1 hA hI' c)
  · exact TP_ok hI (hA) (CS_map hC (cWhyStopped hA hC c)) (fun μ' hI' => rWhyStopped hA hI' c)
theorem pl_undo (hA : AW A) (hC : CI μ.1 A) (hI : RI μ.1 A) : TP (fL_undo oS μ 0 83) (fun μ' => fX11_undo oS μ' 74) := by
  unfold fL_undo
  by_cases c : 0 < A.c
  · exact TP_ok hI (AW_pop hA c) (cUndo hA hC c) (fun μ' hI' => rUndo hI' c)
  · exact TP_no (w := 1) hI hA (fun _ => rfl) (by omega) (cUndo_1 hA hC c) (fun μ' hI' => rUndo_1 hI' c)
theorem pl_letterAt (hA : AW A) (hC : CI μ.1 A) (hI : RI μ.1 A) (p : Int32) : TP (fL_letterAt oS μ 0 p 83) (fun μ' => fX11_letterAt oS μ' 74 p) := by
  obtain ⟨q, rfl, h0, h1⟩ := ii_all p
  unfold fL_letterAt
  by_cases c : 0 ≤ q ∧ q < A.v 0
  · exact TP_ok hI (hA) (CS_map hC (cLetterAt hA hC c)) (fun μ' hI' => rLetterAt hA hI' c)
  · exact TP_no (w := 1) hI hA (fun _ => rfl) (by omega) (CS_map hC (cLetterAt_2 hA hC h0 h1 c)) (fun μ' hI' => rLetterAt_2 hA hI' h0 h1 c)
theorem pl_letterOf (hA : AW A) (hC : CI μ.1 A) (hI : RI μ.1 A) (p : Int32) : TP (fL_letterOf oS μ 0 p 83) (fun μ' => fX11_letterOf oS μ' 74 p) := by
  obtain ⟨q, rfl, h0, h1⟩ := ii_all p
  unfold fL_letterOf
  by_cases c : 0 ≤ q ∧ q < A.v 6
  · by_cases c2 : tkD A.v q = 0
    · exact TP_ok hI (hA) (CS_map hC (cLetterOf hA hC c c2)) (fun μ' hI' => rLetterOf hA hI' c c2)
    · exact TP_no (w := 2) hI hA (fun _ => rfl) (by omega) (CS_map hC (cLetterOf_1 hA hC c c2)) (fun μ' hI' => rLetterOf_1 hA hI' c c2)
  · exact TP_no (w := 1) hI hA (fun _ => rfl) (by omega) (CS_map hC (cLetterOf_2 hA hC h0 h1 c)) (fun μ' hI' => rLetterOf_2 hA hI' h0 h1 c)
theorem pl_distanceOf (hA : AW A) (hC : CI μ.1 A) (hI : RI μ.1 A) (p : Int32) : TP (fL_distanceOf oS μ 0 p 83) (fun μ' => fX11_distanceOf oS μ' 74 p) := by
  obtain ⟨q, rfl, h0, h1⟩ := ii_all p
  unfold fL_distanceOf
  by_cases c : 0 ≤ q ∧ q < A.v 6
  · by_cases c2 : tkD A.v q = 0
    · exact TP_no (w := 2) hI hA (fun _ => rfl) (by omega) (CS_map hC (cDistanceOf_1 hA hC c c2)) (fun μ' hI' => rDistanceOf_1 hA hI' c c2)
    · exact TP_ok hI (hA) (CS_map hC (cDistanceOf hA hC c c2)) (fun μ' hI' => rDistanceOf hA hI' c c2)
  · exact TP_no (w := 1) hI hA (fun _ => rfl) (by omega) (CS_map hC (cDistanceOf_2 hA hC h0 h1 c)) (fun μ' hI' => rDistanceOf_2 hA hI' h0 h1 c)
theorem pl_lengthOf (hA : AW A) (hC : CI μ.1 A) (hI : RI μ.1 A) (p : Int32) : TP (fL_lengthOf oS μ 0 p 83) (fun μ' => fX11_lengthOf oS μ' 74 p) := by
  obtain ⟨q, rfl, h0, h1⟩ := ii_all p
  unfold fL_lengthOf
  by_cases c : 0 ≤ q ∧ q < A.v 6
  · exact TP_ok hI (hA) (CS_map hC (cLengthOf hA hC c)) (fun μ' hI' => rLengthOf hA hI' c)
  · exact TP_no (w := 1) hI hA (fun _ => rfl) (by omega) (CS_map hC (cLengthOf_2 hA hC h0 h1 c)) (fun μ' hI' => rLengthOf_2 hA hI' h0 h1 c)
theorem pl_repeatLength (hA : AW A) (hC : CI μ.1 A) (hI : RI μ.1 A) (p : Int32) : TP (fL_repeatLength oS μ 0 p 83) (fun μ' => fX11_repeatLength oS μ' 74 p) := by
  obtain ⟨q, rfl, h0, h1⟩ := ii_all p
  unfold fL_repeatLength
  by_cases c : 0 ≤ q ∧ q < A.v 0
  · exact TP_ok hI (hA) (CS_map hC (cRepeatLength hA hC c)) (fun μ' hI' => rRepeatLength hA hI' c)
  · exact TP_no (w := 1) hI hA (fun _ => rfl) (by omega) (CS_map hC (cRepeatLength_2 hA hC h0 h1 c)) (fun μ' hI' => rRepeatLength_2 hA hI' h0 h1 c)
theorem pl_repeatLengthByPairs (hA : AW A) (hC : CI μ.1 A) (hI : RI μ.1 A) (p : Int32) : TP (fL_repeatLengthByPairs oS μ 0 p 83) (fun μ' => fX11_repeatLengthByPairs oS μ' 74 p) := by
  obtain ⟨q, rfl, h0, h1⟩ := ii_all p
  unfold fL_repeatLengthByPairs
  by_cases c : 0 ≤ q ∧ q < A.v 0
  · exact TP_ok hI (hA) (cRepeatLengthByPairs hA hC c) (fun μ' hI' => rRepeatLengthByPairs hA hI' c)
  · exact TP_no (w := 1) hI hA (fun _ => rfl) (by omega) (cRepeatLengthByPairs_2 hA hC h0 h1 c) (fun μ' hI' => rRepeatLengthByPairs_2 hA hI' h0 h1 c)
theorem pl_repeatDistance (hA : AW A) (hC : CI μ.1 A) (hI : RI μ.1 A) (p : Int32) : TP (fL_repeatDistance oS μ 0 p 83) (fun μ' => fX11_repeatDistance oS μ' 74 p) := by
  obtain ⟨q, rfl, h0, h1⟩ := ii_all p
  unfold fL_repeatDistance
  by_cases c : 0 ≤ q ∧ q < A.v 0
  · exact TP_ok hI (hA) (CS_map hC (cRepeatDistance hA hC c)) (fun μ' hI' => rRepeatDistance hA hI' c)
  · exact TP_no (w := 1) hI hA (fun _ => rfl) (by omega) (CS_map hC (cRepeatDistance_2 hA hC h0 h1 c)) (fun μ' hI' => rRepeatDistance_2 hA hI' h0 h1 c)
theorem pl_costBy (hA : AW A) (hC : CI μ.1 A) (hI : RI μ.1 A) (p : Int32) : TP (fL_costBy oS μ 0 p 83) (fun μ' => fX11_costBy oS μ' 74 p) := by
  obtain ⟨q, rfl, h0, h1⟩ := ii_all p
  unfold fL_costBy
  by_cases c : 0 ≤ q ∧ q ≤ 2
  · exact TP_ok hI (hA) (cCostBy hA hC c) (fun μ' hI' => rCostBy hA hI' c)
  · exact TP_no (w := 1) hI hA (fun _ => rfl) (by omega) (cCostBy_0 hC h0 h1 c) (fun μ' hI' => rCostBy_0 hI' h0 h1 c)
theorem pl_tokensBy (hA : AW A) (hC : CI μ.1 A) (hI : RI μ.1 A) (p : Int32) : TP (fL_tokensBy oS μ 0 p 83) (fun μ' => fX11_tokensBy oS μ' 74 p) := by
  obtain ⟨q, rfl, h0, h1⟩ := ii_all p
  unfold fL_tokensBy
  by_cases c : 0 ≤ q ∧ q ≤ 2
  · exact TP_ok hI (hA) (cTokensBy hA hC c) (fun μ' hI' => rTokensBy hA hI' c)
  · exact TP_no (w := 1) hI hA (fun _ => rfl) (by omega) (cTokensBy_0 hC h0 h1 c) (fun μ' hI' => rTokensBy_0 hI' h0 h1 c)
theorem pl_leastCostWith (hA : AW A) (hC : CI μ.1 A) (hI : RI μ.1 A) (p : Int32) : TP (fL_leastCostWith oS μ 0 p 83) (fun μ' => fX11_leastCostWith oS μ' 74 p) := by
  obtain ⟨q, rfl, h0, h1⟩ := ii_all p
  unfold fL_leastCostWith
  by_cases c : 1 ≤ q ∧ q ≤ 32
  · exact TP_ok hI (hA) (cLeastCostWith hA hC c) (fun μ' hI' => rLeastCostWith hA hI' c)
  · exact TP_no (w := 1) hI hA (fun _ => rfl) (by omega) (cLeastCostWith_0 hC h0 h1 c) (fun μ' hI' => rLeastCostWith_0 hI' h0 h1 c)
theorem pl_pairs (hA : AW A) (hC : CI μ.1 A) (hI : RI μ.1 A) (p : Int32) : TP (fL_pairs oS μ 0 p 83) (fun μ' => fX11_pairs oS μ' 74 p) := by
  obtain ⟨q, rfl, h0, h1⟩ := ii_all p
  unfold fL_pairs
  by_cases c : 0 ≤ q ∧ q ≤ 15
  · exact TP_ok hI (hA) (cPairs hA hC c) (fun μ' hI' => rPairs hA hI' c)
  · exact TP_no (w := 1) hI hA (fun _ => rfl) (by omega) (cPairs_0 hC h0 h1 c) (fun μ' hI' => rPairs_0 hI' h0 h1 c)
theorem pl_lastPlaceOf (hA : AW A) (hC : CI μ.1 A) (hI : RI μ.1 A) (p : Int32) : TP (fL_lastPlaceOf oS μ 0 p 83) (fun μ' => fX11_lastPlaceOf oS μ' 74 p) := by
  obtain ⟨q, rfl, h0, h1⟩ := ii_all p
  unfold fL_lastPlaceOf
  by_cases c : 0 ≤ q ∧ q ≤ 15
  · exact TP_ok hI (hA) (cLastPlaceOf hA hC c) (fun μ' hI' => rLastPlaceOf hA hI' c)
  · exact TP_no (w := 1) hI hA (fun _ => rfl) (by omega) (cLastPlaceOf_0 hC h0 h1 c) (fun μ' hI' => rLastPlaceOf_0 hI' h0 h1 c)
theorem pl_mostFrequent (hA : AW A) (hC : CI μ.1 A) (hI : RI μ.1 A) : TP (fL_mostFrequent oS μ 0 83) (fun μ' => fX11_mostFrequent oS μ' 74) := by
  unfold fL_mostFrequent
  by_cases c : 2 ≤ A.v 0
  · exact TP_ok hI (hA) (cMostFrequent hA hC c) (fun μ' hI' => rMostFrequent hA hI' c)
  · exact TP_no (w := 1) hI hA (fun _ => rfl) (by omega) (cMostFrequent_1 hA hC c) (fun μ' hI' => rMostFrequent_1 hA hI' c)
theorem pl_restore (hA : AW A) (hC : CI μ.1 A) (hI : RI μ.1 A) : TP (fL_restore oS μ 0 83) (fun μ' => fX11_restore oS μ' 74) := by
  unfold fL_restore
  rcases hA.2.2.2.1 with c | ⟨c, hK⟩
  · exact TP_no (w := 1) hI hA (fun _ => rfl) (by omega) (cRestore_1 hC c) (fun μ' hI' => rRestore_1 hI' c)
  · exact TP_ok hI (AW_chg hA hK) (cRestore hA hC c) (fun μ' hI' => rRestore hI' c)
theorem pl_work (hA : AW A) (hC : CI μ.1 A) (hI : RI μ.1 A) : TP (fL_work oS μ 0 83) (fun μ' => fX11_work oS μ' 74) := by
  unfold fL_work
  by_cases c : rdA A = -1
  · obtain ⟨R, hG, _⟩ := rWork hA hI c
    obtain ⟨hW, hS⟩ := cWork hA hC c hG
    refine TP_ok hI (AW_wkA hA hW) hS (fun μ' hI' => ?_)
    obtain ⟨R', hG', h⟩ := rWork hA hI' c
    rw [GD_u hG hG']
    exact h
  · exact TP_no (w := 1) hI hA (fun _ => rfl) (by omega) (cWork_0 hA hC c) (fun μ' hI' => rWork_1 hA hI' c)
