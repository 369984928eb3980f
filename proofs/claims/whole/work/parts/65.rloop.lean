/-! the reference's reading, all of it -/
variable {b : Int} {Y : Int → Int}
def rdW (b : Int) (Y : Int → Int) : Nat → Int → Int
  | 0, i => i
  | f + 1, i => if (ptS b Y i).1 = -1 then (if b ≤ (ptS b Y i).2.1 then -1 else if sg b Y (ptS b Y i).2.1 = 59 then rdW b Y f ((ptS b Y i).2.1 + 1) else (ptS b Y i).2.1) else (ptS b Y i).1
def stP (b : Int) (Y : Int → Int) : Nat → Int
  | 0 => 0
  | r + 1 => (ptS b Y (stP b Y r)).2.1 + 1
def TDp (b : Int) (Y : Int → Int) (m : Nat → Nat → Int32) (t : Nat) : Prop := TD m (t : Int) (sg b Y (stP b Y t)) (ptS b Y (stP b Y t)).2.2.1 (ptS b Y (stP b Y t)).2.2.2
def RDok (b : Int) (Y : Int → Int) (m : Nat → Nat → Int32) (R : Nat) : Prop := m 74 16 = ii (R : Int) ∧ R ≤ 31 ∧ (∀ t, t < R → TDp b Y m t) ∧ ∀ t, t < R → (ptS b Y (stP b Y t)).1 = -1
theorem QF.z {r : Int} {m m' : Nat → Nat → Int32} (h : QF r m m') : QF 0 m m' := ⟨h.1, h.2.1, fun j h0 h1 => by omega⟩
theorem TDp_q {m m' : Nat → Nat → Int32} {r : Int} {t : Nat} (h : QF r m m') (ht : (t : Int) < r) (hT : TDp b Y m t) : TDp b Y m' t := by
  obtain ⟨t1, t2, t3⟩ := hT
  exact ⟨(h.2.2 _ (by omega) (by omega)).trans t1, fun hc => (h.2.2 _ (by omega) (by omega)).trans (t2 hc), fun hc => (h.2.2 _ (by omega) (by omega)).trans (t3 hc)⟩
theorem reads_loop (hY : YB b Y) : ∀ (f n r : Nat) (μ : mMm), b + 1 - stP b Y r ≤ f → f + 1 < n → 0 ≤ stP b Y r → stP b Y r ≤ b → 2 * (r : Int) ≤ stP b Y r → BF μ.1 b Y → WS μ.1 (-1) (stP b Y r) → RDok b Y μ.1 r → (∀ t, t < r → (ptS b Y (stP b Y t)).2.1 < b ∧ sg b Y (ptS b Y (stP b Y t)).2.1 = 59) → ∃ m', lX11_reads_17 oS n μ 74 (ii 1) = some (ii (rdW b Y f (stP b Y r)), (m', μ.2)) ∧ QF 0 μ.1 m' ∧ (rdW b Y f (stP b Y r) = -1 → ∃ R : Nat, RDok b Y m' (R + 1) ∧ (ptS b Y (stP b Y R)).2.1 = b ∧ ∀ t, t < R → (ptS b Y (stP b Y t)).2.1 < b ∧ sg b Y (ptS b Y (stP b Y t)).2.1 = 59) := by
  have g := hY.1
  intro f
  induction f with
  | zero =>
    intro n r μ h1 h2 h3 h4
    omega
  | succ f ih =>
    intro n r μ h1 h2 h3 h4 h5 hB hw hO hL
    push_cast at h1
    obtain ⟨n, rfl⟩ : ∃ k, n = k + 1 + 1 := ⟨n - 2, by omega⟩
    obtain ⟨m', p1, p2, p3, p4, p5⟩ := rpart_at hB hY hw h3 (by omega) hO.1 (show 0 ≤ (r : Int) by omega) (by omega)
    have pb := ptS_b (b := b) (Y := Y) h3
    have hB1 := BF_q p3 hB
    have hst : stP b Y (r + 1) = (ptS b Y (stP b Y r)).2.1 + 1 := rfl
    unfold rdW
    by_cases c1 : (ptS b Y (stP b Y r)).1 = -1
    · have pe := pb.1 c1
      rw [if_pos c1]
      rw [c1] at p2
      have hO1 : RDok b Y m' (r + 1) := by
        refine ⟨by rw [p4]; exact congrArg ii (by omega), by omega, fun t ht => ?_, fun t ht => ?_⟩
        · by_cases htr : t = r
          · subst htr
            exact p5 c1
          · exact TDp_q p3 (by omega) (hO.2.2.1 t (by omega))
        · by_cases htr : t = r
          · subst htr
            exact c1
          · exact hO.2.2.2 t (by omega)
      by_cases c2 : b ≤ (ptS b Y (stP b Y r)).2.1
      · rw [if_pos c2]
        exact ⟨m', reads_b hY hB1 p1 p2 (by omega) (by omega) c2, p3.z, fun _ => ⟨r, hO1, by omega, hL⟩⟩
      · rw [if_neg c2]
        by_cases c3 : sg b Y (ptS b Y (stP b Y r)).2.1 = 59
        · rw [if_pos c3]
          have hN : NF m' (nx m' (-1) ((ptS b Y (stP b Y r)).2.1 + 1)) := nx_F
          have q := reads_c (n := n + 1) hY hB1 p1 p2 (by omega) (by omega) c3
          obtain ⟨m2, i1, i2, i3⟩ := ih (n + 1) (r + 1) (nx m' (-1) ((ptS b Y (stP b Y r)).2.1 + 1), μ.2) (by omega) (by omega) (by omega) (by omega) (by push_cast; omega) (BF_fr hN hB1) (by rw [hst]; exact nx_W) ⟨(hN.2 16 (by omega) (by omega)).trans hO1.1, hO1.2.1, fun t ht => TDp_q (r := ((r + 1 : Nat) : Int)) hN.q (by omega) (hO1.2.2.1 t ht), hO1.2.2.2⟩ (fun t ht => by
            by_cases htr : t = r
            · subst htr
              exact ⟨by omega, c3⟩
            · exact hL t (by omega))
          rw [hst] at i1 i3
          exact ⟨m2, q.trans i1, (p3.z.tr hN.q).tr i2, i3⟩
        · rw [if_neg c3]
          refine ⟨_, reads_d hY hB1 p1 p2 (by omega) (by omega) c3, p3.z.tr nx_F.q, fun h => by omega⟩
    · rw [if_neg c1]
      have pe := pb.2.resolve_left c1
      exact ⟨m', reads_a p1 p2 (by omega) (by omega), p3.z, fun h => absurd h c1⟩
