/-! the claim out of the law as a function of numbers -/
theorem arr_I {s : State} {A : Array Value} (h : (Cond.arrayClass .int).before A s = true) : ∃ cA, ArrOfT s cA .int ∧ va_RA s cA .int := by
  obtain ⟨c, k, comp, h1, h2, h3⟩ := Cond.arrayClass_spec h
  exact ⟨c, fun n z => ⟨fun k h => (by cases h), k, h2, comp, h3⟩, h1⟩
theorem arr_J {s : State} {A : Array Value} (h : (Cond.arrayClass .long).before A s = true) : ∃ cA, ArrOfT s cA .long ∧ va_RA s cA .long := by
  obtain ⟨c, k, comp, h1, h2, h3⟩ := Cond.arrayClass_spec h
  exact ⟨c, fun n z => ⟨fun k h => (by cases h), k, h2, comp, h3⟩, h1⟩
theorem arr_C {s : State} {A : Array Value} (h : (Cond.arrayClass .char).before A s = true) : ∃ cA, ArrOfT s cA .char ∧ va_RA s cA .char := by
  obtain ⟨c, k, comp, h1, h2, h3⟩ := Cond.arrayClass_spec h
  exact ⟨c, fun n z => ⟨fun k h => (by cases h), k, h2, comp, h3⟩, h1⟩
theorem arr_R {s : State} {A : Array Value} (h : (Cond.arrayOver (.object RX7)).before A s = true) : ∃ cA, ArrOfT s cA (.object RX7) ∧ va_RA s cA (.object RX7) := by
  obtain ⟨comp, c, k, h1, h2, h3, h4, h5⟩ := Cond.arrayOver_spec h
  exact ⟨c, fun n z => ⟨fun k h => (by cases h), k, h3, comp, h4⟩, ⟨k, comp, h3, h4, h1, h5⟩⟩
theorem tb_m {i : Nat} {w : Cond} (h : tables_1[i]? = some w) : w ∈ lw_tbl := List.mem_append_right _ (List.mem_of_getElem? h)
set_option maxRecDepth 100000 in
theorem st_tab : ∀ q ∈ mTx, Cond.stringRef RX10 q.1 q.2 ∈ tables_1 := by decide +kernel
set_option maxRecDepth 100000 in
theorem st_ex : ∀ q ∈ mTx, Cond.exactly (Term.string RX10 q.1) "java/lang/String" ∈ flatC (Jvm.Cond.and given_1 narrow_1) := by decide +kernel
set_option maxRecDepth 100000 in
theorem st_nc : ∀ w ∈ [Cond.not (.castable (mCls 0) (mCls 1)), Cond.not (.castable (mCls 1) (mCls 0)), Cond.not (.castable (mCls 2) (mCls 0)), Cond.not (.castable (mCls 2) (mCls 1)), Cond.isRef (.static Bundle.tN "UNASSIGNED_STACK" Bundle.steD), Cond.isRef (.static Bundle.tN "SUPPRESSED_SENTINEL" Bundle.listD)], w ∈ flatC (Jvm.Cond.and given_1 narrow_1) := by decide +kernel
theorem mTF_start {p : Program} {s : State} {m : MethodId} {meth : Method} {c : Code} {b L : Nat} {xs : Nat → Int32} (C0 : lw_At p s m meth c b L xs) : mTF (fun q => s.heap.size ≤ q) s s.heap := by
  obtain ⟨hx, hb, hr, hml, hown, hts, hX, hbl, hlocks, hgv⟩ := id C0
  have hs := flat_of_before _ hgv
  have hA : ∀ a : Nat, a < s.heap.size → ¬ s.heap.size ≤ a := fun a h => Nat.not_le.mpr h
  have hini := hts (.initialized "java/lang/Throwable") (tb_m (i := 12) (by decide +kernel))
  refine ⟨vx_Zqof (hts _ (tb_m (i := 292) (by decide +kernel))) hini (hs _ (st_nc _ (List.mem_of_getElem? (i := 4) rfl))) hA, vx_Zqof (hts _ (tb_m (i := 294) (by decide +kernel))) hini (hs _ (st_nc _ (List.mem_of_getElem? (i := 5) rfl))) hA, fun q hq => ?_, fun E hE => ?_, ?_, ?_, ?_, ?_, fun i j hi hj hn => ?_⟩
  · obtain ⟨a, c9, cA, kA, q1, -⟩ := Cond.exactly_spec (hs _ (st_ex q hq))
    exact ⟨a, vk_R.of (hts _ (List.mem_append_right _ (st_tab q hq))) q1⟩
  · match E, hE with
    | 0, _ => exact va_tabs rfl rfl (hts (.castable (mCls 0) (mCls 0)) (tb_m (i := 338) (by decide +kernel)))
    | 1, _ => exact va_tabs rfl rfl (hts (.castable (mCls 1) (mCls 1)) (tb_m (i := 549) (by decide +kernel)))
    | 2, _ => exact va_tabs rfl rfl (hts (.castable (mCls 2) (mCls 2)) (tb_m (i := 267) (by decide +kernel)))
  · exact va_tabs rfl rfl (hts _ (tb_m (i := 269) (by decide +kernel)))
  · exact va_tabs rfl rfl (hts _ (tb_m (i := 271) (by decide +kernel)))
  · exact va_tabs rfl rfl (hts _ (tb_m (i := 273) (by decide +kernel)))
  · exact va_AO.of (hts (.arrayOver (.object RX7)) (tb_m (i := 133) (by decide +kernel)))
  · have key : ∀ (k : Nat) (w : Cond), [Cond.not (.castable (mCls 0) (mCls 1)), Cond.not (.castable (mCls 1) (mCls 0)), Cond.not (.castable (mCls 2) (mCls 0)), Cond.not (.castable (mCls 2) (mCls 1)), Cond.isRef (.static Bundle.tN "UNASSIGNED_STACK" Bundle.steD), Cond.isRef (.static Bundle.tN "SUPPRESSED_SENTINEL" Bundle.listD)][k]? = some w → w.before #[Value.ref b] s = true := fun k w h => hs w (st_nc w (List.mem_of_getElem? h))
    match i, j, hi, hj, hn with
    | 0, 1, _, _, _ => exact va_Nc.of (key 0 _ rfl)
    | 1, 0, _, _, _ => exact va_Nc.of (key 1 _ rfl)
    | 2, 0, _, _, _ => exact va_Nc.of (key 2 _ rfl)
    | 2, 1, _, _, _ => exact va_Nc.of (key 3 _ rfl)
    | 0, 0, _, _, hn => exact absurd rfl hn
    | 1, 1, _, _, hn => exact absurd rfl hn
theorem mK_start {p : Program} {s : State} {m : MethodId} {meth : Method} {c : Code} {b L : Nat} {xs : Nat → Int32} (C0 : lw_At p s m meth c b L xs) : ∃ (D : va_G) (ca : Nat → ClassId), va_K D vwCl (mTy ca) s := by
  obtain ⟨hx, hb, hr, hml, hown, hts0, hX, hbl, hlocks, hgv⟩ := id C0
  have hts : ∀ w ∈ wsL_law, w.before #[Value.ref b] s = true := fun w hw => hts0 w (wsL_law_in w hw)
  obtain ⟨c0, i0, h0⟩ := u_known (C := RX0) (T := TX0) (N := 3) (n := 3) hts inlX0 (hts (.instantiable RX0 3) (in_r5 _ (List.mem_of_getElem? (i := 6) rfl)))
  obtain ⟨c1, i1, h1⟩ := u_known (C := RX1) (T := TX1) (N := 3) (n := 3) hts inlX1 (hts (.instantiable RX1 3) (in_r1 _ (List.mem_of_getElem? (i := 17) rfl)))
  obtain ⟨c2, i2, h2⟩ := u_known (C := RX2) (T := TX2) (N := 2) (n := 2) hts inlX2 (hts (.instantiable RX2 2) (in_r2 _ (List.mem_of_getElem? (i := 23) rfl)))
  obtain ⟨c3, i3, h3⟩ := u_known (C := RX3) (T := TX3) (N := 3) (n := 3) hts inlX3 (hts (.instantiable RX3 3) (in_r2 _ (List.mem_of_getElem? (i := 1) rfl)))
  obtain ⟨c4, i4, h4⟩ := u_known (C := RX4) (T := TX4) (N := 2) (n := 2) hts inlX4 (hts (.instantiable RX4 2) (in_r2 _ (List.mem_of_getElem? (i := 7) rfl)))
  obtain ⟨c5, i5, h5⟩ := u_known (C := RX5) (T := TX5) (N := 3) (n := 3) hts inlX5 (hts (.instantiable RX5 3) (in_r2 _ (List.mem_of_getElem? (i := 11) rfl)))
  obtain ⟨c6, i6, h6⟩ := u_known (C := RX6) (T := TX6) (N := 5) (n := 5) hts inlX6 (hts (.instantiable RX6 5) (in_r3 _ (List.mem_of_getElem? (i := 5) rfl)))
  obtain ⟨c7, i7, h7⟩ := u_known (C := RX7) (T := TX7) (N := 5) (n := 5) hts inlX7 (hts (.instantiable RX7 5) (in_r1 _ (List.mem_of_getElem? (i := 11) rfl)))
  obtain ⟨c8, i8, h8⟩ := u_known (C := RX8) (T := TX8) (N := 3) (n := 3) hts inlX8 (hts (.instantiable RX8 3) (in_r2 _ (List.mem_of_getElem? (i := 15) rfl)))
  obtain ⟨c9, i9, h9⟩ := u_known (C := RX9) (T := TX9) (N := 2) (n := 2) hts inlX9 (hts (.instantiable RX9 2) (in_r1 _ (List.mem_of_getElem? (i := 21) rfl)))
  obtain ⟨c10, i10, h10⟩ := u_known (C := RX10) (T := TX10) (N := 9) (n := 9) hts inlX10 (hts (.instantiable RX10 9) (in_r1 _ (List.mem_of_getElem? (i := 1) rfl)))
  obtain ⟨a0, g0⟩ := arr_I (hts (.arrayClass .int) (in_r1 _ (List.mem_of_getElem? (i := 3) rfl)))
  obtain ⟨a3, g3⟩ := arr_R (hts0 (.arrayOver (.object RX7)) (tb_m (i := 133) (by decide +kernel)))
  refine ⟨(fun k => [c0, c1, c2, c3, c4, c5, c6, c7, c8, c9, c10 ].getD k 0, fun k => [i0, i1, i2, i3, i4, i5, i6, i7, i8, i9, i10 ].getD k (fun _ => 0)), fun k => [a0, 0, 0, a3].getD k 0, fun k q hq => ?_, fun k q hq => ?_⟩
  · match k, hq with
    | 0, hq => cases hq; exact h0
    | 1, hq => cases hq; exact h1
    | 2, hq => cases hq; exact h2
    | 3, hq => cases hq; exact h3
    | 4, hq => cases hq; exact h4
    | 5, hq => cases hq; exact h5
    | 6, hq => cases hq; exact h6
    | 7, hq => cases hq; exact h7
    | 8, hq => cases hq; exact h8
    | 9, hq => cases hq; exact h9
    | 10, hq => cases hq; exact h10
    | k + 11, hq => simp [vwCl] at hq
  · match k, hq with
    | 0, hq => cases hq; exact g0
    | 1, hq => cases hq; exact g3
    | k + 2, hq => simp [mTy] at hq
theorem whole_start_of (hpure : ∀ (L : Nat) (xs : Nat → Int32), L ≤ 260 → ∃ S μ cx, fL_law L xs mS0 mM0 0 = some (1, S, μ, cx) ∧ mN S + cx ≤ 600172 ∧ mTot S + 41 * cx ≤ 7300668) {p : Program} {e : Env} {s : State} {m : MethodId} {below : List Frame} {meth : Method} {c : Code} (l : Launch) (hflags : l.flags = flags0) {b L : Nat} {xs : Nat → Int32} (hL : L ≤ 260) (C0 : lw_At p s m meth c b L xs) : W p l e room_1 s m #[Value.ref b] below meth c s.heap [] 0 0 (lw_Z below #[Value.ref b] s) (entryFrame m ([Value.ref b] : List Value).toArray 14) := by
  obtain ⟨hx, hb, hr, hml, hown, hts, hX, hbl, hlocks, hgv⟩ := id C0
  obtain ⟨S, μ, cx, hf, hcel, hslo⟩ := hpure L xs hL
  obtain ⟨D, ca, hK⟩ := mK_start C0
  have hA : ∀ q : Nat, s.heap.size ≤ q → (fun q : Nat => s.heap.size ≤ q) q := fun _ h => h
  have hbA : ¬ (fun q : Nat => s.heap.size ≤ q) b := Nat.not_le.mpr hbl
  have hc : mCx (ML_law b L xs) p l e room_1 s m #[Value.ref b] below meth c (fun q => s.heap.size ≤ q) D ca :=
    ⟨hx, hb, hml, hown, fun w hw => hts w (wsL_law_in w hw), (fun h => by cases h), hK, hA, Nat.le_of_ble_eq_true rfl, Nat.le_of_ble_eq_true rfl, hflags⟩
  have hl := lv_entry ([.ref b]) (n := 14) (Nat.le_of_ble_eq_true rfl)
  rw [lg_entry_eq]
  generalize (lg_sl ([.ref b]) ++ List.replicate (14 - (lg_sl ([.ref b])).length) Slot.unset).toArray = ls at hl ⊢
  obtain ⟨ad, had⟩ : ∃ ad : Nat → Nat, ad 1000 = b := ⟨fun _ => b, rfl⟩
  have hH : mH ls 14 ad (mEnt [.ref 1000] 14) := mEnt_H (by
    show lv_has ls 14 (lv_args 0 [Value.ref (ad 1000)])
    rw [had]
    exact hl)
  obtain ⟨h1, h2⟩ := xL_law (b := b) (L := L) (xs := xs) (n0 := 0) (c0 := 0) (s0 := 0) (cx := 0) (S := mS0) (μ := mM0) _ hf
  have hcf : mCf (ML_law b L xs) s (fun q => s.heap.size ≤ q) D ca 0 0 0 ad (mS0, mM0, 0, 41 * 0) (mEnt [.ref 1000] 14) ad s.heap [] ls :=
    ⟨(fun k q h => by cases h), ⟨(fun i j p q h => by cases h), (fun k q h => by cases h)⟩, va_S.rf, hH, fun _ _ => rfl, fun _ => rfl, ⟨Nat.zero_le _, fun _ => (fun i k r h => by cases h)⟩, Nat.zero_le _, Nat.zero_le _⟩
  exact h2 p l e room_1 s m #[Value.ref b] below meth c (fun q => s.heap.size ≤ q) D ca (lw_Z below #[Value.ref b] s) ad hc ⟨mTF_start C0, had, hX, hbl, hbA⟩ hcel hslo (fun l2 ad2 H locs ls2 pc ty hf2 hd hr2 hn => by
    refine va_forget hf2.2.2.1.2.2 ?_
    refine W.widen (k := 600172) (n := 7300668) hcel hslo ?_
    exact W.base (lw_ret (Drawn.sameBut.refl s.drawn lw_cs) hx hb hr hlocks hd)) ad s.heap [] ls hcf
