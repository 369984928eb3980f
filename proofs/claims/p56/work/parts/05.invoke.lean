/-! calls: a row for each kind of answer -/
set_option maxRecDepth 100000 in
theorem mGood : wsL_law.all goodWord = true := by decide +kernel
theorem mGoodIn : GoodIn wsL_law wsL_law := fun w h => ⟨h, good_of_word (List.all_eq_true.mp mGood w h)⟩
theorem mGoodC {w : Cond} {ws : List Cond} (hw : w ∈ wsL_law) (h : GoodIn wsL_law ws) : GoodIn wsL_law (w :: ws) := fun v hv => (List.mem_cons.mp hv).elim (fun e => by rw [e]; exact mGoodIn _ hw) (h v)
def mCalV (M : mM) (C : String) (n : Nat) : Prop := Cond.instanceMethod (mY M) ∈ wsL_law ∧ Cond.selects C (mY M) (mY M) ∈ wsL_law ∧ Cond.initialized C ∈ wsL_law ∧ Cond.code (mY M) (mCode M) (mMaxL M) (mRet M) ∈ wsL_law ∧
  ((mY M).cls = C ∧ (mY M).cls ≠ "java/lang/invoke/MethodHandle" ∧ (mY M).cls ≠ "java/lang/invoke/VarHandle" ∧ (parseMethodDescriptor (mY M).desc).map (fun d => d.parameters.length) = some n)
def mCalS (M : mM) (n : Nat) : Prop := Cond.static (mY M) ∈ wsL_law ∧ Cond.initialized (mY M).cls ∈ wsL_law ∧ Cond.code (mY M) (mCode M) (mMaxL M) (mRet M) ∈ wsL_law ∧
  ((mY M).cls ≠ "java/lang/invoke/MethodHandle" ∧ (mY M).cls ≠ "java/lang/invoke/VarHandle" ∧ (parseMethodDescriptor (mY M).desc).map (fun d => d.parameters.length) = some n)
theorem mGV {M : mM} {C own : String} {n idx : Nat} (h : mCalV M C n) (hl : Cond.methodLink own idx (mY M) ∈ wsL_law) : GoodIn wsL_law (wsV own idx C (mY M) (mWs M)) :=
  mGoodC hl (mGoodC h.1 (mGoodC h.2.1 (mGoodC h.2.2.1 (mGoodC h.2.2.2.1 mGoodIn))))
theorem mGS {M : mM} {own : String} {n idx : Nat} (h : mCalS M n) (hl : Cond.methodLink own idx (mY M) ∈ wsL_law) : GoodIn wsL_law (va_wsS own idx (mY M) (mWs M)) :=
  mGoodC hl (mGoodC h.1 (mGoodC h.2.1 (mGoodC h.2.2.1 mGoodIn)))
theorem vx_toMet {l : Launch} {y : MethodName} {ws : List Cond} {rm : Room} {Pc : Array Value → State → Prop} {Qc : Array Value → State → Outcome → State → Prop} {XC : String → State → State → Prop} {mc ms : Nat} {free : Addr → Prop}
    (h : vx_Met l y ws rm Pc Qc XC mc ms free) (hX : ∀ E st t, ¬ XC E st t) : Met l y ws rm Pc Qc mc ms free := by
  intro p e ha hc hk s m args below hf happ hp ht
  obtain ⟨k, o, h1, h2, h3, hQ⟩ := h p e ha hc hk s m args below hf happ hp ht
  refine ⟨k, o, h1, h2, h3, ?_⟩
  rcases hQ with hQ | ⟨q, -, E, ce, L, hx, -⟩
  · exact hQ
  · exact absurd hx (hX _ _ _)
section MCALL
variable {M M' : mM} {n0 c0 s0 : Nat} {pc : Nat} {l : List (Option Value)} {st : List Value} {S : mSh} {μ : mMm} {cx cy : Nat} {α β : Type} {ι : α → mO × mSt} {o : Option α}
variable {p : Program} {lch : Launch} {e : Env} {R : Room} {s : State} {m : MethodId} {args : Array Value} {below : List Frame} {meth : Method} {c : Code} {A : Nat → Prop} {D : va_G} {ca : Nat → ClassId} {ad0 ad : Nat → Nat} {H : Heap} {locs : List Loc} {ls : Array Slot} {cells slots : Nat} {Qc : Array Value → State → Outcome → State → Prop}
theorem mFree (hc : mCx M p lch e R s m args below meth c A D ca) (hf : mCf M s A D ca n0 c0 s0 ad0 (S, μ, cx, cy) l ad H locs ls) : ∀ q, va_A (mW ad ca S μ) H.size q → A q := by
  intro q hq
  rcases hq with ⟨k, e, hk⟩ | hq
  · exact hf.2.1.2 k _ hk
  · exact hc.2.2.2.2.2.2.2.1 q (Nat.le_trans hf.2.2.1.1 hq)
theorem mPre (hMM : mAl M' = true → mAl M = true) (hc : mCx M p lch e R s m args below meth c A D ca) (hTF : mTF A s s.heap) (hf : mCf M s A D ca n0 c0 s0 ad0 (S, μ, cx, cy) l ad H locs ls) (As : List Value) : PreS s H (mPcs M' ad ca D (S, μ, cx, cy) H.size As) (As.map (mv ad)) :=
  ⟨mPcs_blind, fun U hU hW => ⟨rfl, by rw [hU], by rw [hU]; exact hf.1, va_K.moved hW.alike hc.2.2.2.2.2.2.1, hf.2.1.weaken (fun _ _ _ _ => trivial), fun hz => hf.2.2.2.2.2.2.1.2 (hMM hz), mTF_call hTF hf.2.2.1 hW hU (mFree hc hf)⟩⟩
theorem mCat (st : List Value) (h : (st.map fun v => v.category).sum ≤ 8) : ((st.map (mv ad)).map fun v => v.category).sum ≤ 8 := by
  rw [List.map_map, show ((fun v : Value => v.category) ∘ mv ad) = (fun v : Value => v.category) from funext (fun v => mv_cat ad v)]
  exact h
theorem mRunV (hal : mAl M' = false) {ci b index n mc ms : Nat} {As rest : List Value} {C : String} {T : u_T} {N : Nat} {ty : Nat → FieldType} (fc : mFC ci C T N ty) (hc : mCx M p lch e R s m args below meth c A D ca) (hTF : mTF A s s.heap) (hf : mCf M s A D ca n0 c0 s0 ad0 (S, μ, cx, cy) l ad H locs ls) (hcl : cells + mc ≤ R.cells) (hsl : slots + ms ≤ R.slots)
    (hM : Met lch (mY M') (mWs M') (mRm M' mc ms) (mPcs M' ad ca D (S, μ, cx, cy) H.size (.ref b :: As)) Qc mc ms (va_A (mW ad ca S μ) H.size)) (hok : mok S b ci = true) (hd : decode (mCode M) pc = .ok (.invokevirtual index, 3)) (hl : Cond.methodLink (mOwn M) index (mY M') ∈ wsL_law) (hk : mCalV M' C n) (hn : As.length = n)
    (hroom : mFr M' + 1 ≤ mFr M ∧ 8 + (mMaxL M' + 11) + mLo M' ≤ mLo M) (hst : st = As.reverse ++ .ref b :: rest) (hcat : (rest.map fun v => v.category).sum ≤ 8) :
    va_Run p lch e R s m args below meth c H locs cells slots mc ms (F0 m pc ls (st.map (mv ad))) (rest.map (mv ad)) (Qc ((.ref b :: As).map (mv ad)).toArray) (va_A (mW ad ca S μ) H.size) := by
  have hF1 := hc.2.2.2.2.2.2.2.2.1
  have hF2 := hc.2.2.2.2.2.2.2.2.2.1
  have hg2 := mW_get ad ca S μ (mok_n hok)
  rw [mE_obj (mok_k hok) fc.2.2.2.1] at hg2
  have hp := mPre (M' := M') (fun hz => by rw [hal] at hz; cases hz) hc hTF hf (.ref b :: As)
  refine va_runV (As := As.map (mv ad)) (b := ad b) (cc := mCode M) (nL := mMaxL M) (Ts := wsL_law) (own := mOwn M) (C := C) (n := n) (index := index) (bytes := mCode M') (maxL := mMaxL M') (ret := mRet M') ⟨hc.1, hc.2.1, hc.2.2.1, hc.2.2.2.1, hc.2.2.2.2.1⟩ hM (cwV n hc.2.2.2.2.1 (mGV hk hl) rfl rfl rfl hk.2.2.2.2 ⟨?_, ?_⟩) ⟨hp.1, va_recv hc.2.2.2.2.2.2.1 hf.1 fc.1 hg2, hp.2⟩ rfl (by rw [List.length_map]; exact hn) hf.2.2.2.1.1 ?_ (lv_room (mCat rest hcat)) hd ⟨hcl, hsl⟩
  · show mFr M' + 1 ≤ R.frames; omega
  · show 8 + (mMaxL M' + 11) + mLo M' ≤ R.locals; omega
  · show st.map (mv ad) = _
    rw [hst, List.map_append, List.map_reverse]
    rfl
theorem mRunS (hal : mAl M' = false) {index n mc ms : Nat} {As rest : List Value} (hc : mCx M p lch e R s m args below meth c A D ca) (hTF : mTF A s s.heap) (hf : mCf M s A D ca n0 c0 s0 ad0 (S, μ, cx, cy) l ad H locs ls) (hcl : cells + mc ≤ R.cells) (hsl : slots + ms ≤ R.slots)
    (hM : Met lch (mY M') (mWs M') (mRm M' mc ms) (mPcs M' ad ca D (S, μ, cx, cy) H.size As) Qc mc ms (va_A (mW ad ca S μ) H.size)) (hd : decode (mCode M) pc = .ok (.invokestatic index, 3)) (hl : Cond.methodLink (mOwn M) index (mY M') ∈ wsL_law) (hk : mCalS M' n) (hn : As.length = n)
    (hroom : mFr M' + 1 ≤ mFr M ∧ 8 + (mMaxL M' + 11) + mLo M' ≤ mLo M) (hst : st = As.reverse ++ rest) (hcat : (rest.map fun v => v.category).sum ≤ 8) :
    va_Run p lch e R s m args below meth c H locs cells slots mc ms (F0 m pc ls (st.map (mv ad))) (rest.map (mv ad)) (Qc (As.map (mv ad)).toArray) (va_A (mW ad ca S μ) H.size) := by
  have hF1 := hc.2.2.2.2.2.2.2.2.1
  have hF2 := hc.2.2.2.2.2.2.2.2.2.1
  refine va_runS (As := As.map (mv ad)) (cc := mCode M) (nL := mMaxL M) (Ts := wsL_law) (own := mOwn M) (n := n) (index := index) (bytes := mCode M') (maxL := mMaxL M') (ret := mRet M') ⟨hc.1, hc.2.1, hc.2.2.1, hc.2.2.2.1, hc.2.2.2.2.1⟩ hM (va_cwS n hc.2.2.2.2.1 (mGS hk hl) rfl rfl rfl hk.2.2.2 ⟨?_, ?_⟩) (mPre (M' := M') (fun hz => by rw [hal] at hz; cases hz) hc hTF hf As) rfl (by rw [List.length_map]; exact hn) hf.2.2.2.1.1 ?_ (lv_room (mCat rest hcat)) hd ⟨hcl, hsl⟩
  · show mFr M' + 1 ≤ R.frames; omega
  · show 8 + (mMaxL M' + 11) + mLo M' ≤ R.locals; omega
  · show st.map (mv ad) = _
    rw [hst, List.map_append, List.map_reverse]
/-- the world behind a call -/
theorem mBack (hc : mCx M p lch e R s m args below meth c A D ca) (hf : mCf M s A D ca n0 c0 s0 ad0 (S, μ, cx, cy) l ad H locs ls) {μ' : mMm} {u : Nat → Nat} {t : State} {H1 : Heap} {locs1 : List Loc} (hal : mAl M' = false) (ht : t.heap = H1) (hg : mAg M' (mN S) ad u) (hB : mB M' D ca (va_A (mW ad ca S μ) H.size) S μ' u t) (hS : va_S A s.heap H1 locs1) : mCf M s A D ca n0 c0 s0 ad0 (S, μ', cx, cy) l ad H1 locs1 ls := by
  have hu := hg.2 hal
  subst hu
  obtain ⟨hP, -, hD, -⟩ := hB
  rw [ht] at hP
  exact ⟨hP, hD.weaken (fun _ q _ hq => mFree hc hf q.1 hq), hS, hf.2.2.2⟩
theorem x_callVi {ci b index n : Nat} {As rest : List Value} {C : String} {T : u_T} {N : Nat} {ty : Nat → FieldType} {o1 : Option β} {ι' : β → mO × mSt} {vx : β → Int32} {μf : β → mMm} {kk : β → Option α} (fc : mFC ci C T N ty) (hm : mMet M' (.ref b :: As) (S, μ, cx, cy) ι' o1) (hι : ∀ a, ι' a = (.inl (some (.int (vx a))), (S, μf a, cx, cy))) (hal : mAl M' = false) (hok : ∀ a, o1 = some a → mok S b ci = true) (hd : decode (mCode M) pc = .ok (.invokevirtual index, 3)) (hl : Cond.methodLink (mOwn M) index (mY M') ∈ wsL_law) (hk : mCalV M' C n) (hn : As.length = n)
    (hroom : mFr M' + 1 ≤ mFr M ∧ 8 + (mMaxL M' + 11) + mLo M' ≤ mLo M) (hst : st = As.reverse ++ .ref b :: rest) (hcat : (rest.map fun v => v.category).sum ≤ 8) (kn : ∀ a, mX M n0 c0 s0 (pc + 3) l (.int (vx a) :: rest) (S, μf a, cx, cy) ι (kk a)) : mX M n0 c0 s0 pc l st (S, μ, cx, cy) ι (o1.bind kk) := by
  intro a ha
  obtain ⟨b1, hb1, hk1⟩ := Option.bind_eq_some_iff.mp ha
  obtain ⟨g1, g2⟩ := hm b1 hb1
  obtain ⟨h1, h2⟩ := kn b1 a hk1
  refine ⟨h1, ?_⟩
  intro p lch e R s m args below meth c A D ca Q ad0 hc ht hr1 hr2 he ad H locs ls hf
  have hM := g2 lch D ca ad H.size hc.2.2.2.2.2.2.2.2.2.2
  rw [hι b1] at hM
  rw [show mCel (S, μf b1, cx, cy) - mCel (S, μ, cx, cy) = 0 from Nat.sub_self _, show mSlo (S, μf b1, cx, cy) - mSlo (S, μ, cx, cy) = 0 from Nat.sub_self _] at hM
  have hM := vx_toMet hM (fun _ _ _ h => h)
  have e1 := h1.2.1
  have e2 := h1.2.2
  have hcl : mCel (S, μ, cx, cy) - c0 ≤ R.cells := by
    have e1 : mCel (S, μ, cx, cy) ≤ mCel (ι a).2 := e1
    omega
  have hsl : mSlo (S, μ, cx, cy) - s0 ≤ R.slots := by
    have e2 : mSlo (S, μ, cx, cy) ≤ mSlo (ι a).2 := e2
    omega
  refine va_calli (mRunV hal fc hc ht.1 hf hcl hsl hM (hok _ hb1) hd hl hk hn hroom hst hcat) hf.2.2.1 (fun q _ h => mFree hc hf q h) (mFree hc hf) (fun r u t H1 locs1 ht1 hvm hw hB hz1 hk1 hS => ?_)
  obtain ⟨rfl, hg⟩ := hw
  exact h2 p lch e R s m args below meth c A D ca Q ad0 hc ht hr1 hr2 he ad H1 locs1 ls (mBack hc hf hal ht1 hg hB hS)
theorem x_callVl {ci b index n : Nat} {As rest : List Value} {C : String} {T : u_T} {N : Nat} {ty : Nat → FieldType} {o1 : Option β} {ι' : β → mO × mSt} {vx : β → Int64} {μf : β → mMm} {kk : β → Option α} (fc : mFC ci C T N ty) (hm : mMet M' (.ref b :: As) (S, μ, cx, cy) ι' o1) (hι : ∀ a, ι' a = (.inl (some (.long (vx a))), (S, μf a, cx, cy))) (hal : mAl M' = false) (hok : ∀ a, o1 = some a → mok S b ci = true) (hd : decode (mCode M) pc = .ok (.invokevirtual index, 3)) (hl : Cond.methodLink (mOwn M) index (mY M') ∈ wsL_law) (hk : mCalV M' C n) (hn : As.length = n)
    (hroom : mFr M' + 1 ≤ mFr M ∧ 8 + (mMaxL M' + 11) + mLo M' ≤ mLo M) (hst : st = As.reverse ++ .ref b :: rest) (hcat : (rest.map fun v => v.category).sum ≤ 8) (kn : ∀ a, mX M n0 c0 s0 (pc + 3) l (.long (vx a) :: rest) (S, μf a, cx, cy) ι (kk a)) : mX M n0 c0 s0 pc l st (S, μ, cx, cy) ι (o1.bind kk) := by
  intro a ha
  obtain ⟨b1, hb1, hk1⟩ := Option.bind_eq_some_iff.mp ha
  obtain ⟨g1, g2⟩ := hm b1 hb1
  obtain ⟨h1, h2⟩ := kn b1 a hk1
  refine ⟨h1, ?_⟩
  intro p lch e R s m args below meth c A D ca Q ad0 hc ht hr1 hr2 he ad H locs ls hf
  have hM := g2 lch D ca ad H.size hc.2.2.2.2.2.2.2.2.2.2
  rw [hι b1] at hM
  rw [show mCel (S, μf b1, cx, cy) - mCel (S, μ, cx, cy) = 0 from Nat.sub_self _, show mSlo (S, μf b1, cx, cy) - mSlo (S, μ, cx, cy) = 0 from Nat.sub_self _] at hM
  have hM := vx_toMet hM (fun _ _ _ h => h)
  have e1 := h1.2.1
  have e2 := h1.2.2
  have hcl : mCel (S, μ, cx, cy) - c0 ≤ R.cells := by
    have e1 : mCel (S, μ, cx, cy) ≤ mCel (ι a).2 := e1
    omega
  have hsl : mSlo (S, μ, cx, cy) - s0 ≤ R.slots := by
    have e2 : mSlo (S, μ, cx, cy) ≤ mSlo (ι a).2 := e2
    omega
  refine va_calll (mRunV hal fc hc ht.1 hf hcl hsl hM (hok _ hb1) hd hl hk hn hroom hst hcat) hf.2.2.1 (fun q _ h => mFree hc hf q h) (mFree hc hf) (fun r u t H1 locs1 ht1 hvm hw hB hz1 hk1 hS => ?_)
  obtain ⟨rfl, hg⟩ := hw
  exact h2 p lch e R s m args below meth c A D ca Q ad0 hc ht hr1 hr2 he ad H1 locs1 ls (mBack hc hf hal ht1 hg hB hS)
theorem x_callVd {ci b index n : Nat} {As rest : List Value} {C : String} {T : u_T} {N : Nat} {ty : Nat → FieldType} {o1 : Option β} {ι' : β → mO × mSt} {vx : β → UInt64} {μf : β → mMm} {kk : β → Option α} (fc : mFC ci C T N ty) (hm : mMet M' (.ref b :: As) (S, μ, cx, cy) ι' o1) (hι : ∀ a, ι' a = (.inl (some (.double (vx a))), (S, μf a, cx, cy))) (hal : mAl M' = false) (hok : ∀ a, o1 = some a → mok S b ci = true) (hd : decode (mCode M) pc = .ok (.invokevirtual index, 3)) (hl : Cond.methodLink (mOwn M) index (mY M') ∈ wsL_law) (hk : mCalV M' C n) (hn : As.length = n)
    (hroom : mFr M' + 1 ≤ mFr M ∧ 8 + (mMaxL M' + 11) + mLo M' ≤ mLo M) (hst : st = As.reverse ++ .ref b :: rest) (hcat : (rest.map fun v => v.category).sum ≤ 8) (kn : ∀ a, mX M n0 c0 s0 (pc + 3) l (.double (vx a) :: rest) (S, μf a, cx, cy) ι (kk a)) : mX M n0 c0 s0 pc l st (S, μ, cx, cy) ι (o1.bind kk) := by
  intro a ha
  obtain ⟨b1, hb1, hk1⟩ := Option.bind_eq_some_iff.mp ha
  obtain ⟨g1, g2⟩ := hm b1 hb1
  obtain ⟨h1, h2⟩ := kn b1 a hk1
  refine ⟨h1, ?_⟩
  intro p lch e R s m args below meth c A D ca Q ad0 hc ht hr1 hr2 he ad H locs ls hf
  have hM := g2 lch D ca ad H.size hc.2.2.2.2.2.2.2.2.2.2
  rw [hι b1] at hM
  rw [show mCel (S, μf b1, cx, cy) - mCel (S, μ, cx, cy) = 0 from Nat.sub_self _, show mSlo (S, μf b1, cx, cy) - mSlo (S, μ, cx, cy) = 0 from Nat.sub_self _] at hM
  have hM := vx_toMet hM (fun _ _ _ h => h)
  have e1 := h1.2.1
  have e2 := h1.2.2
  have hcl : mCel (S, μ, cx, cy) - c0 ≤ R.cells := by
    have e1 : mCel (S, μ, cx, cy) ≤ mCel (ι a).2 := e1
    omega
  have hsl : mSlo (S, μ, cx, cy) - s0 ≤ R.slots := by
    have e2 : mSlo (S, μ, cx, cy) ≤ mSlo (ι a).2 := e2
    omega
  refine va_calld (mRunV hal fc hc ht.1 hf hcl hsl hM (hok _ hb1) hd hl hk hn hroom hst hcat) hf.2.2.1 (fun q _ h => mFree hc hf q h) (mFree hc hf) (fun r u t H1 locs1 ht1 hvm hw hB hz1 hk1 hS => ?_)
  obtain ⟨rfl, hg⟩ := hw
  exact h2 p lch e R s m args below meth c A D ca Q ad0 hc ht hr1 hr2 he ad H1 locs1 ls (mBack hc hf hal ht1 hg hB hS)
theorem x_callVv {ci b index n : Nat} {As rest : List Value} {C : String} {T : u_T} {N : Nat} {ty : Nat → FieldType} {o1 : Option β} {ι' : β → mO × mSt} {μf : β → mMm} {kk : β → Option α} (fc : mFC ci C T N ty) (hm : mMet M' (.ref b :: As) (S, μ, cx, cy) ι' o1) (hι : ∀ a, ι' a = (.inl none, (S, μf a, cx, cy))) (hal : mAl M' = false) (hok : ∀ a, o1 = some a → mok S b ci = true) (hd : decode (mCode M) pc = .ok (.invokevirtual index, 3)) (hl : Cond.methodLink (mOwn M) index (mY M') ∈ wsL_law) (hk : mCalV M' C n) (hn : As.length = n)
    (hroom : mFr M' + 1 ≤ mFr M ∧ 8 + (mMaxL M' + 11) + mLo M' ≤ mLo M) (hst : st = As.reverse ++ .ref b :: rest) (hcat : (rest.map fun v => v.category).sum ≤ 8) (kn : ∀ a, mX M n0 c0 s0 (pc + 3) l (rest) (S, μf a, cx, cy) ι (kk a)) : mX M n0 c0 s0 pc l st (S, μ, cx, cy) ι (o1.bind kk) := by
  intro a ha
  obtain ⟨b1, hb1, hk1⟩ := Option.bind_eq_some_iff.mp ha
  obtain ⟨g1, g2⟩ := hm b1 hb1
  obtain ⟨h1, h2⟩ := kn b1 a hk1
  refine ⟨h1, ?_⟩
  intro p lch e R s m args below meth c A D ca Q ad0 hc ht hr1 hr2 he ad H locs ls hf
  have hM := g2 lch D ca ad H.size hc.2.2.2.2.2.2.2.2.2.2
  rw [hι b1] at hM
  rw [show mCel (S, μf b1, cx, cy) - mCel (S, μ, cx, cy) = 0 from Nat.sub_self _, show mSlo (S, μf b1, cx, cy) - mSlo (S, μ, cx, cy) = 0 from Nat.sub_self _] at hM
  have hM := vx_toMet hM (fun _ _ _ h => h)
  have e1 := h1.2.1
  have e2 := h1.2.2
  have hcl : mCel (S, μ, cx, cy) - c0 ≤ R.cells := by
    have e1 : mCel (S, μ, cx, cy) ≤ mCel (ι a).2 := e1
    omega
  have hsl : mSlo (S, μ, cx, cy) - s0 ≤ R.slots := by
    have e2 : mSlo (S, μ, cx, cy) ≤ mSlo (ι a).2 := e2
    omega
  refine va_callv (mRunV hal fc hc ht.1 hf hcl hsl hM (hok _ hb1) hd hl hk hn hroom hst hcat) hf.2.2.1 (fun q _ h => mFree hc hf q h) (mFree hc hf) (fun u t H1 locs1 ht1 hvm hw hB hz1 hk1 hS => ?_)
  exact h2 p lch e R s m args below meth c A D ca Q ad0 hc ht hr1 hr2 he ad H1 locs1 ls (mBack hc hf hal ht1 hw hB hS)
theorem x_callSi {index n : Nat} {As rest : List Value} {o1 : Option β} {ι' : β → mO × mSt} {vx : β → Int32} {μf : β → mMm} {kk : β → Option α} (hm : mMet M' As (S, μ, cx, cy) ι' o1) (hι : ∀ a, ι' a = (.inl (some (.int (vx a))), (S, μf a, cx, cy))) (hal : mAl M' = false) (hd : decode (mCode M) pc = .ok (.invokestatic index, 3)) (hl : Cond.methodLink (mOwn M) index (mY M') ∈ wsL_law) (hk : mCalS M' n) (hn : As.length = n)
    (hroom : mFr M' + 1 ≤ mFr M ∧ 8 + (mMaxL M' + 11) + mLo M' ≤ mLo M) (hst : st = As.reverse ++ rest) (hcat : (rest.map fun v => v.category).sum ≤ 8) (kn : ∀ a, mX M n0 c0 s0 (pc + 3) l (.int (vx a) :: rest) (S, μf a, cx, cy) ι (kk a)) : mX M n0 c0 s0 pc l st (S, μ, cx, cy) ι (o1.bind kk) := by
  intro a ha
  obtain ⟨b1, hb1, hk1⟩ := Option.bind_eq_some_iff.mp ha
  obtain ⟨g1, g2⟩ := hm b1 hb1
  obtain ⟨h1, h2⟩ := kn b1 a hk1
  refine ⟨h1, ?_⟩
  intro p lch e R s m args below meth c A D ca Q ad0 hc ht hr1 hr2 he ad H locs ls hf
  have hM := g2 lch D ca ad H.size hc.2.2.2.2.2.2.2.2.2.2
  rw [hι b1] at hM
  rw [show mCel (S, μf b1, cx, cy) - mCel (S, μ, cx, cy) = 0 from Nat.sub_self _, show mSlo (S, μf b1, cx, cy) - mSlo (S, μ, cx, cy) = 0 from Nat.sub_self _] at hM
  have hM := vx_toMet hM (fun _ _ _ h => h)
  have e1 := h1.2.1
  have e2 := h1.2.2
  have hcl : mCel (S, μ, cx, cy) - c0 ≤ R.cells := by
    have e1 : mCel (S, μ, cx, cy) ≤ mCel (ι a).2 := e1
    omega
  have hsl : mSlo (S, μ, cx, cy) - s0 ≤ R.slots := by
    have e2 : mSlo (S, μ, cx, cy) ≤ mSlo (ι a).2 := e2
    omega
  refine va_calli (mRunS hal hc ht.1 hf hcl hsl hM hd hl hk hn hroom hst hcat) hf.2.2.1 (fun q _ h => mFree hc hf q h) (mFree hc hf) (fun r u t H1 locs1 ht1 hvm hw hB hz1 hk1 hS => ?_)
  obtain ⟨rfl, hg⟩ := hw
  exact h2 p lch e R s m args below meth c A D ca Q ad0 hc ht hr1 hr2 he ad H1 locs1 ls (mBack hc hf hal ht1 hg hB hS)
theorem x_callSl {index n : Nat} {As rest : List Value} {o1 : Option β} {ι' : β → mO × mSt} {vx : β → Int64} {μf : β → mMm} {kk : β → Option α} (hm : mMet M' As (S, μ, cx, cy) ι' o1) (hι : ∀ a, ι' a = (.inl (some (.long (vx a))), (S, μf a, cx, cy))) (hal : mAl M' = false) (hd : decode (mCode M) pc = .ok (.invokestatic index, 3)) (hl : Cond.methodLink (mOwn M) index (mY M') ∈ wsL_law) (hk : mCalS M' n) (hn : As.length = n)
    (hroom : mFr M' + 1 ≤ mFr M ∧ 8 + (mMaxL M' + 11) + mLo M' ≤ mLo M) (hst : st = As.reverse ++ rest) (hcat : (rest.map fun v => v.category).sum ≤ 8) (kn : ∀ a, mX M n0 c0 s0 (pc + 3) l (.long (vx a) :: rest) (S, μf a, cx, cy) ι (kk a)) : mX M n0 c0 s0 pc l st (S, μ, cx, cy) ι (o1.bind kk) := by
  intro a ha
  obtain ⟨b1, hb1, hk1⟩ := Option.bind_eq_some_iff.mp ha
  obtain ⟨g1, g2⟩ := hm b1 hb1
  obtain ⟨h1, h2⟩ := kn b1 a hk1
  refine ⟨h1, ?_⟩
  intro p lch e R s m args below meth c A D ca Q ad0 hc ht hr1 hr2 he ad H locs ls hf
  have hM := g2 lch D ca ad H.size hc.2.2.2.2.2.2.2.2.2.2
  rw [hι b1] at hM
  rw [show mCel (S, μf b1, cx, cy) - mCel (S, μ, cx, cy) = 0 from Nat.sub_self _, show mSlo (S, μf b1, cx, cy) - mSlo (S, μ, cx, cy) = 0 from Nat.sub_self _] at hM
  have hM := vx_toMet hM (fun _ _ _ h => h)
  have e1 := h1.2.1
  have e2 := h1.2.2
  have hcl : mCel (S, μ, cx, cy) - c0 ≤ R.cells := by
    have e1 : mCel (S, μ, cx, cy) ≤ mCel (ι a).2 := e1
    omega
  have hsl : mSlo (S, μ, cx, cy) - s0 ≤ R.slots := by
    have e2 : mSlo (S, μ, cx, cy) ≤ mSlo (ι a).2 := e2
    omega
  refine va_calll (mRunS hal hc ht.1 hf hcl hsl hM hd hl hk hn hroom hst hcat) hf.2.2.1 (fun q _ h => mFree hc hf q h) (mFree hc hf) (fun r u t H1 locs1 ht1 hvm hw hB hz1 hk1 hS => ?_)
  obtain ⟨rfl, hg⟩ := hw
  exact h2 p lch e R s m args below meth c A D ca Q ad0 hc ht hr1 hr2 he ad H1 locs1 ls (mBack hc hf hal ht1 hg hB hS)
theorem x_callSd {index n : Nat} {As rest : List Value} {o1 : Option β} {ι' : β → mO × mSt} {vx : β → UInt64} {μf : β → mMm} {kk : β → Option α} (hm : mMet M' As (S, μ, cx, cy) ι' o1) (hι : ∀ a, ι' a = (.inl (some (.double (vx a))), (S, μf a, cx, cy))) (hal : mAl M' = false) (hd : decode (mCode M) pc = .ok (.invokestatic index, 3)) (hl : Cond.methodLink (mOwn M) index (mY M') ∈ wsL_law) (hk : mCalS M' n) (hn : As.length = n)
    (hroom : mFr M' + 1 ≤ mFr M ∧ 8 + (mMaxL M' + 11) + mLo M' ≤ mLo M) (hst : st = As.reverse ++ rest) (hcat : (rest.map fun v => v.category).sum ≤ 8) (kn : ∀ a, mX M n0 c0 s0 (pc + 3) l (.double (vx a) :: rest) (S, μf a, cx, cy) ι (kk a)) : mX M n0 c0 s0 pc l st (S, μ, cx, cy) ι (o1.bind kk) := by
  intro a ha
  obtain ⟨b1, hb1, hk1⟩ := Option.bind_eq_some_iff.mp ha
  obtain ⟨g1, g2⟩ := hm b1 hb1
  obtain ⟨h1, h2⟩ := kn b1 a hk1
  refine ⟨h1, ?_⟩
  intro p lch e R s m args below meth c A D ca Q ad0 hc ht hr1 hr2 he ad H locs ls hf
  have hM := g2 lch D ca ad H.size hc.2.2.2.2.2.2.2.2.2.2
  rw [hι b1] at hM
  rw [show mCel (S, μf b1, cx, cy) - mCel (S, μ, cx, cy) = 0 from Nat.sub_self _, show mSlo (S, μf b1, cx, cy) - mSlo (S, μ, cx, cy) = 0 from Nat.sub_self _] at hM
  have hM := vx_toMet hM (fun _ _ _ h => h)
  have e1 := h1.2.1
  have e2 := h1.2.2
  have hcl : mCel (S, μ, cx, cy) - c0 ≤ R.cells := by
    have e1 : mCel (S, μ, cx, cy) ≤ mCel (ι a).2 := e1
    omega
  have hsl : mSlo (S, μ, cx, cy) - s0 ≤ R.slots := by
    have e2 : mSlo (S, μ, cx, cy) ≤ mSlo (ι a).2 := e2
    omega
  refine va_calld (mRunS hal hc ht.1 hf hcl hsl hM hd hl hk hn hroom hst hcat) hf.2.2.1 (fun q _ h => mFree hc hf q h) (mFree hc hf) (fun r u t H1 locs1 ht1 hvm hw hB hz1 hk1 hS => ?_)
  obtain ⟨rfl, hg⟩ := hw
  exact h2 p lch e R s m args below meth c A D ca Q ad0 hc ht hr1 hr2 he ad H1 locs1 ls (mBack hc hf hal ht1 hg hB hS)
theorem x_callSv {index n : Nat} {As rest : List Value} {o1 : Option β} {ι' : β → mO × mSt} {μf : β → mMm} {kk : β → Option α} (hm : mMet M' As (S, μ, cx, cy) ι' o1) (hι : ∀ a, ι' a = (.inl none, (S, μf a, cx, cy))) (hal : mAl M' = false) (hd : decode (mCode M) pc = .ok (.invokestatic index, 3)) (hl : Cond.methodLink (mOwn M) index (mY M') ∈ wsL_law) (hk : mCalS M' n) (hn : As.length = n)
    (hroom : mFr M' + 1 ≤ mFr M ∧ 8 + (mMaxL M' + 11) + mLo M' ≤ mLo M) (hst : st = As.reverse ++ rest) (hcat : (rest.map fun v => v.category).sum ≤ 8) (kn : ∀ a, mX M n0 c0 s0 (pc + 3) l (rest) (S, μf a, cx, cy) ι (kk a)) : mX M n0 c0 s0 pc l st (S, μ, cx, cy) ι (o1.bind kk) := by
  intro a ha
  obtain ⟨b1, hb1, hk1⟩ := Option.bind_eq_some_iff.mp ha
  obtain ⟨g1, g2⟩ := hm b1 hb1
  obtain ⟨h1, h2⟩ := kn b1 a hk1
  refine ⟨h1, ?_⟩
  intro p lch e R s m args below meth c A D ca Q ad0 hc ht hr1 hr2 he ad H locs ls hf
  have hM := g2 lch D ca ad H.size hc.2.2.2.2.2.2.2.2.2.2
  rw [hι b1] at hM
  rw [show mCel (S, μf b1, cx, cy) - mCel (S, μ, cx, cy) = 0 from Nat.sub_self _, show mSlo (S, μf b1, cx, cy) - mSlo (S, μ, cx, cy) = 0 from Nat.sub_self _] at hM
  have hM := vx_toMet hM (fun _ _ _ h => h)
  have e1 := h1.2.1
  have e2 := h1.2.2
  have hcl : mCel (S, μ, cx, cy) - c0 ≤ R.cells := by
    have e1 : mCel (S, μ, cx, cy) ≤ mCel (ι a).2 := e1
    omega
  have hsl : mSlo (S, μ, cx, cy) - s0 ≤ R.slots := by
    have e2 : mSlo (S, μ, cx, cy) ≤ mSlo (ι a).2 := e2
    omega
  refine va_callv (mRunS hal hc ht.1 hf hcl hsl hM hd hl hk hn hroom hst hcat) hf.2.2.1 (fun q _ h => mFree hc hf q h) (mFree hc hf) (fun u t H1 locs1 ht1 hvm hw hB hz1 hk1 hS => ?_)
  exact h2 p lch e R s m args below meth c A D ca Q ad0 hc ht hr1 hr2 he ad H1 locs1 ls (mBack hc hf hal ht1 hw hB hS)
/-- Math.min -/
def mMin (x y : Int32) : Int32 := if y < x then y else x
theorem x_min {x y : Int32} {index : Nat} {σ : mSt} (hd : decode (mCode M) pc = .ok (.invokestatic index, 3)) (hl : Cond.methodLink (mOwn M) index Lib.Math.min.name ∈ wsL_law) (h1 : Cond.static Lib.Math.min.name ∈ wsL_law) (h2 : Cond.initialized "java/lang/Math" ∈ wsL_law) (h3 : Cond.code Lib.Math.min.name Lib.Math.min.code 2 (some .int) ∈ wsL_law)
    (hroom : 1 ≤ mFr M ∧ 21 ≤ mLo M) (hcat : (st.map fun v => v.category).sum ≤ 8) (k : mX M n0 c0 s0 (pc + 3) l (.int (mMin x y) :: st) σ ι o) : mX M n0 c0 s0 pc l (.int y :: .int x :: st) σ ι o :=
  mX.step (fun _ _ _ R _ _ _ _ _ _ _ _ _ _ _ _ _ _ ls ad hc hcl hsl hl9 w => by
    have hF1 := hc.2.2.2.2.2.2.2.2.1
    have hF2 := hc.2.2.2.2.2.2.2.2.2.1
    have hcat' := mCat (ad := ad) st hcat
    have hts := hc.2.2.2.2.1
    exact va_mmin hc.1 hc.2.1 (hc.2.2.1.trans hl9.1.symm) hc.2.2.2.1 (hts _ hl) (hts _ h1) (hts _ h2) (hts _ h3) (by omega) (by omega) hcl hsl hd w) k
theorem x_rawbits {x : UInt64} {index : Nat} {σ : mSt} (hd : decode (mCode M) pc = .ok (.invokestatic index, 3)) (hl : Cond.methodLink (mOwn M) index ⟨"java/lang/Double", "doubleToRawLongBits", "(D)J"⟩ ∈ wsL_law) (h1 : Cond.native ⟨"java/lang/Double", "doubleToRawLongBits", "(D)J"⟩ ∈ wsL_law) (h2 : Cond.static ⟨"java/lang/Double", "doubleToRawLongBits", "(D)J"⟩ ∈ wsL_law) (h3 : Cond.initialized "java/lang/Double" ∈ wsL_law)
    (hroom : 1 ≤ mFr M ∧ 23 ≤ mLo M) (hcat : (st.map fun v => v.category).sum ≤ 8) (k : mX M n0 c0 s0 (pc + 3) l (.long x.toInt64 :: st) σ ι o) : mX M n0 c0 s0 pc l (.double x :: st) σ ι o :=
  mX.step (fun _ _ _ R _ _ _ _ _ _ _ _ _ _ _ _ _ _ ls ad hc hcl hsl hl9 w => by
    have hF1 := hc.2.2.2.2.2.2.2.2.1
    have hF2 := hc.2.2.2.2.2.2.2.2.2.1
    have hcat' := mCat (ad := ad) st hcat
    have hts := hc.2.2.2.2.1
    exact vn_d2l hc.1 hc.2.1 (hc.2.2.1.trans hl9.1.symm) hc.2.2.2.1 (hts _ hl) (hts _ h1) (hts _ h2) (hts _ h3) (by omega) (by omega) hd w) k
end MCALL
