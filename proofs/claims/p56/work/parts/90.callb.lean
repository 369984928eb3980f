/-! a method of the law that makes rows: the count behind the call is told whole -/
section MCALLB
variable {M M' : mM} {n0 c0 s0 : Nat} {pc : Nat} {l : List (Option Value)} {st : List Value} {S S0 : mSh} {μ : mMm} {cx cy : Nat} {α β : Type} {ι : α → mO × mSt} {o : Option α}
theorem x_callB {index n : Nat} {As rest : List Value} {o1 : Option (Int32 × mSh × mMm × Nat)} {kk : Int32 × mMm × Nat → Option α} (hm : mMet M' As (S, μ, cx, 41 * cx) iAI o1) (hal : mAl M = true) (hd : decode (mCode M) pc = .ok (.invokestatic index, 3)) (hl : Cond.methodLink (mOwn M) index (mY M') ∈ wsL_law) (hk : mCalS M' n) (hn : As.length = n)
    (hroom : mFr M' + 1 ≤ mFr M ∧ 8 + (mMaxL M' + 11) + mLo M' ≤ mLo M) (hst : st = As.reverse ++ rest) (hcat : (rest.map fun v => v.category).sum ≤ 8) (kn : ∀ a : Int32 × mMm × Nat, mX M n0 c0 s0 (pc + 3) l (.int a.1 :: rest) (S, a.2.1, a.2.2, 41 * a.2.2) ι (kk a)) : mX M n0 c0 s0 pc l st (S, μ, cx, 41 * cx) ι ((if mvk S l rest = true then fgt S o1 else none).bind kk) := by
  intro a ha
  obtain ⟨b0, hb0, hk1⟩ := Option.bind_eq_some_iff.mp ha
  have hv := ifok hb0
  rw [if_pos hv] at hb0
  obtain ⟨b1, hb1, hb2⟩ := Option.bind_eq_some_iff.mp hb0
  obtain ⟨⟨hp, hq0, hq⟩, hb3⟩ := cI hb2
  cases hb3
  obtain ⟨g1, g2⟩ := hm b1 hb1
  obtain ⟨h1, h2⟩ := kn _ a hk1
  obtain ⟨vr, S', μ', ex⟩ := b1
  dsimp only at h1 h2 hp hq hq0
  have t1 : mN S ≤ mN S' := hp.1
  have t2 : mN S + cx ≤ mN S' + ex := g1.2.1
  have t3 : mTot S + 41 * cx ≤ mTot S' + 41 * ex := g1.2.2
  have t4 : mN S + (ex + (mN S' - mN S)) ≤ mCel (ι a).2 := h1.2.1
  have t5 : mTot S + 41 * (ex + (mN S' - mN S)) ≤ mSlo (ι a).2 := h1.2.2
  have hM := fun lch D ca ad sz hfl => vx_toMet (g2 lch D ca ad sz hfl) (fun _ _ _ h => h)
  refine ⟨⟨h1.1, by show mN S + cx ≤ _; omega, by show mTot S + 41 * cx ≤ _; omega⟩, ?_⟩
  intro p lch e R s m args below meth c A D ca Q ad0 hc ht hr1 hr2 he ad H locs ls hf
  have f7 : n0 ≤ mN S := hf.2.2.2.2.2.2.1.1
  have f8 : c0 ≤ mN S + cx := hf.2.2.2.2.2.2.2.1
  have f9 : s0 ≤ mTot S + 41 * cx := hf.2.2.2.2.2.2.2.2
  have hM := hM lch D ca ad H.size hc.2.2.2.2.2.2.2.2.2.2
  rw [show mCel (iAI (vr, S', μ', ex)).2 - mCel (S, μ, cx, 41 * cx) = (mN S' + ex) - (mN S + cx) from rfl, show mSlo (iAI (vr, S', μ', ex)).2 - mSlo (S, μ, cx, 41 * cx) = (mTot S' + 41 * ex) - (mTot S + 41 * cx) from rfl] at hM
  have hF1 := hc.2.2.2.2.2.2.2.2.1
  have hF2 := hc.2.2.2.2.2.2.2.2.2.1
  have hts := hc.2.2.2.2.1
  have hcat' := mCat (ad := ad) rest hcat
  have hrun : va_Run p lch e R s m args below meth c H locs (mCel (S, μ, cx, 41 * cx) - c0) (mSlo (S, μ, cx, 41 * cx) - s0) ((mN S' + ex) - (mN S + cx)) ((mTot S' + 41 * ex) - (mTot S + 41 * cx)) (F0 m pc ls (st.map (mv ad))) (rest.map (mv ad)) (mQ M' (mN S) ad ca D (va_A (mW ad ca S μ) H.size) (iAI (vr, S', μ', ex)) (As.map (mv ad)).toArray) (va_A (mW ad ca S μ) H.size) := by
    refine va_runS (As := As.map (mv ad)) (cc := mCode M) (nL := mMaxL M) (Ts := wsL_law) (own := mOwn M) (n := n) (index := index) (bytes := mCode M') (maxL := mMaxL M') (ret := mRet M') ⟨hc.1, hc.2.1, hc.2.2.1, hc.2.2.2.1, hts⟩ hM (va_cwS n hts (mGS hk hl) rfl rfl rfl hk.2.2.2 ⟨?_, ?_⟩) (mPre (M' := M') (fun _ => hal) hc ht.1 hf As) rfl (by rw [List.length_map]; exact hn) hf.2.2.2.1.1 ?_ (lv_room hcat') hd ⟨?_, ?_⟩
    · show mFr M' + 1 ≤ R.frames; omega
    · show 8 + (mMaxL M' + 11) + mLo M' ≤ R.locals; omega
    · show st.map (mv ad) = _
      rw [hst, List.map_append, List.map_reverse]
    · show mN S + cx - c0 + ((mN S' + ex) - (mN S + cx)) ≤ R.cells; omega
    · show mTot S + 41 * cx - s0 + ((mTot S' + 41 * ex) - (mTot S + 41 * cx)) ≤ R.slots; omega
  refine va_calli (a := (As.map (mv ad)).toArray) hrun hf.2.2.1 (fun q _ h => mFree hc hf q h) (mFree hc hf) (fun r u t H1 locs1 ht1 hvm hw hB hz1 hk1 hS => ?_)
  obtain ⟨rfl, hg⟩ := hw
  obtain ⟨hP1, -, hD1, -⟩ := hB
  rw [ht1] at hP1
  have hPS := mPf_P hp hP1
  have hDS := mPf_D hp hD1
  have w := h2 p lch e R s m args below meth c A D ca Q ad0 hc ht hr1 hr2 he u H1 locs1 ls ⟨hPS, hDS.weaken (fun _ q _ hq => mFree hc hf q.1 hq), hS, mH_ag hg.1 (mvk_l hv) hf.2.2.2.1, fun i hi => (hg.1 i (by omega)).trans (hf.2.2.2.2.1 i hi), fun hz => absurd (hal.symm.trans hz) (by decide), ⟨f7, hf.2.2.2.2.2.2.1.2⟩, by show c0 ≤ mN S + (ex + (mN S' - mN S)); omega, by show s0 ≤ mTot S + 41 * (ex + (mN S' - mN S)); omega⟩
  have w2 : W p lch e R s m args below meth c H1 locs1 (mN S + (ex + (mN S' - mN S)) - c0) (mTot S + 41 * (ex + (mN S' - mN S)) - s0) Q (F0 m (pc + 3) ls (.int r :: rest.map (mv ad))) := by
    have e9 : (Value.int r :: rest).map (mv u) = .int r :: rest.map (mv ad) := by
      rw [List.map_cons, mst_ag hg.1 (mvk_s hv)]
      rfl
    rw [e9] at w
    exact w
  refine W.widen ?_ ?_ w2
  · show mN S + cx - c0 + ((mN S' + ex) - (mN S + cx)) ≤ mN S + (ex + (mN S' - mN S)) - c0; omega
  · show mTot S + 41 * cx - s0 + ((mTot S' + 41 * ex) - (mTot S + 41 * cx)) ≤ mTot S + 41 * (ex + (mN S' - mN S)) - s0; omega
end MCALLB
