/-! what the law of p56 counts, and what the class counts: the same -/
theorem aGo_s (T : Int → Int) (e d : Int) : ∀ (f : Nat) (b : Int), (∀ j, b ≤ j → j < aGo T e d f b → T j = T (j - d)) ∧ (e - b ≤ f → aGo T e d f b < e → T (aGo T e d f b) ≠ T (aGo T e d f b - d))
  | 0, b => ⟨fun j h1 h2 => by
      have h2 : j < b := h2
      omega, fun h1 h2 => by
      have h2 : b < e := h2
      have h1 : e - b ≤ 0 := h1
      omega⟩
  | f + 1, b => by
    obtain ⟨h1, h2⟩ := aGo_s T e d f (b + 1)
    unfold aGo
    by_cases h : b < e ∧ T b = T (b - d)
    · rw [if_pos h]
      refine ⟨fun j h3 h4 => ?_, fun h3 => h2 (by push_cast at h3; omega)⟩
      by_cases hj : j = b
      · rw [hj]; exact h.2
      · exact h1 j (by omega) h4
    · rw [if_neg h]
      exact ⟨fun j h3 h4 => by omega, fun _ h4 h5 => h ⟨h4, h5⟩⟩
theorem alk_eq {v : Int → Int} {p d j : Int} (h1 : p ≤ j) (h2 : j < p + alk v p d) : tx v j = tx v (j - d) := (aGo_s (tx v) (min (p + v 3) (v 0)) d 10 p).1 j h1 (by unfold alk at h2; omega)
theorem alk_ne {v : Int → Int} (hW : WF v) {p d : Int} (h : p + alk v p d < p + v 3) (h' : p + alk v p d < v 0) : tx v (p + alk v p d) ≠ tx v (p + alk v p d - d) := by
  have h3 := wf_3 hW
  have hs := (aGo_s (tx v) (min (p + v 3) (v 0)) d 10 p).2 (by push_cast; omega)
  have e : p + alk v p d = aGo (tx v) (min (p + v 3) (v 0)) d 10 p := by unfold alk; omega
  rw [e] at h h' ⊢
  exact hs (by omega)
/-- one step of the law's look from the end -/
theorem alk_st {v : Int → Int} (hW : WF v) {p d k : Int} (hp : 0 ≤ p) (h0 : p ≤ k) (h1 : k < p + v 3) (h2 : k < v 0) : (k + 1 - p ≤ alk v p d) ↔ (tx v k = tx v (k - d) ∧ k - p ≤ alk v p d) := by
  constructor
  · intro h
    exact ⟨alk_eq h0 (by omega), by omega⟩
  · rintro ⟨h, h3⟩
    by_cases h4 : k + 1 - p ≤ alk v p d
    · exact h4
    · have e : p + alk v p d = k := by omega
      have := alk_ne hW (p := p) (d := d) (by omega) (by omega)
      rw [e] at this
      exact absurd h this
theorem lGo_m {A : Int → Int} {w p s : Int} : ∀ (f : Nat) (d b : Int), b ≤ lGo A w p s f d b ∧ ∀ d', d ≤ d' → d' ≤ w → d' ≤ p → w - d < f → s ≤ A d' → A d' ≤ lGo A w p s f d b
  | 0, d, b => ⟨Int.le_refl _, fun d' h1 h2 _ h4 _ => by push_cast at h4; omega⟩
  | f + 1, d, b => by
    unfold lGo
    by_cases h : w < d ∨ p < d
    · rw [if_pos h]
      exact ⟨Int.le_refl _, fun d' h1 h2 h3 _ _ => by omega⟩
    · rw [if_neg h]
      by_cases h3 : s ≤ A d ∧ b < A d
      · rw [if_pos h3]
        obtain ⟨g1, g2⟩ := lGo_m (A := A) (w := w) (p := p) (s := s) f (d + 1) (A d)
        refine ⟨by omega, fun d' q1 q2 q3 q4 q5 => ?_⟩
        by_cases hd : d' = d
        · rw [hd]; exact g1
        · exact g2 d' (by omega) q2 q3 (by push_cast at q4; omega) q5
      · rw [if_neg h3]
        obtain ⟨g1, g2⟩ := lGo_m (A := A) (w := w) (p := p) (s := s) f (d + 1) b
        refine ⟨g1, fun d' q1 q2 q3 q4 q5 => ?_⟩
        by_cases hd : d' = d
        · rw [hd] at q5 ⊢; omega
        · exact g2 d' (by omega) q2 q3 (by push_cast at q4; omega) q5
theorem lng_m {v : Int → Int} {p w d : Int} (hw : w ≤ 32) (h1 : 1 ≤ d) (h2 : d ≤ w) (h3 : d ≤ p) (h4 : v 2 ≤ alk v p d) : alk v p d ≤ lng v p w := (lGo_m 40 1 0).2 d h1 h2 h3 (by push_cast; omega) h4
/-- a repeat of a length is possible at a distance of the window, if it is at most the longest -/
theorem lng_iff {v : Int → Int} (hW : WF v) {p w l : Int} (hp : 0 ≤ p) (hw : w ≤ 32) (hl : v 2 ≤ l) : l ≤ lng v p w ↔ ∃ d, 1 ≤ d ∧ d ≤ w ∧ d ≤ p ∧ l ≤ alk v p d := by
  have h2 := wf_2 hW
  constructor
  · intro h
    rcases (lng_b hW (w := w) hp).2.2 with h0 | ⟨-, d0, q1, q2, q3, q4⟩
    · omega
    · exact ⟨d0, q1, q2, q3, by omega⟩
  · rintro ⟨d, q1, q2, q3, q4⟩
    have := lng_m (v := v) (p := p) (w := w) (d := d) hw q1 q2 q3 (by omega)
    omega
/-! by pairs -/
theorem bGo_m {v : Int → Int} {p : Int} : ∀ (f : Nat) (o b : Int), b ≤ bGo v p f o b ∧ (∀ o', 0 ≤ o' → o' ≤ o → o < f → v 2 ≤ bN v p o' → bN v p o' ≤ bGo v p f o b) ∧ (bGo v p f o b = b ∨ ∃ o', 0 ≤ o' ∧ o' ≤ o ∧ v 2 ≤ bN v p o' ∧ bGo v p f o b = bN v p o')
  | 0, o, b => ⟨Int.le_refl _, fun o' h1 h2 h3 _ => by push_cast at h3; omega, Or.inl rfl⟩
  | f + 1, o, b => by
    unfold bGo
    by_cases h : o < 0
    · rw [if_pos h]
      exact ⟨Int.le_refl _, fun o' h1 h2 _ _ => by omega, Or.inl rfl⟩
    · rw [if_neg h]
      obtain ⟨g1, g2, g3⟩ := bGo_m (v := v) (p := p) f (o - 1) (bSt v p o b)
      unfold bSt at g1 g2 g3 ⊢
      by_cases hs : v 2 ≤ bN v p o ∧ b < bN v p o
      · rw [if_pos hs] at g1 g2 g3 ⊢
        refine ⟨by omega, fun o' q1 q2 q3 q4 => ?_, ?_⟩
        · by_cases ho : o' = o
          · rw [ho]; exact g1
          · exact g2 o' q1 (by omega) (by push_cast at q3; omega) q4
        · rcases g3 with g3 | ⟨o', q1, q2, q3, q4⟩
          · exact Or.inr ⟨o, by omega, by omega, hs.1, g3⟩
          · exact Or.inr ⟨o', q1, by omega, q3, q4⟩
      · rw [if_neg hs] at g1 g2 g3 ⊢
        refine ⟨g1, fun o' q1 q2 q3 q4 => ?_, ?_⟩
        · by_cases ho : o' = o
          · rw [ho] at q4 ⊢; omega
          · exact g2 o' q1 (by omega) (by push_cast at q3; omega) q4
        · rcases g3 with g3 | ⟨o', q1, q2, q3, q4⟩
          · exact Or.inl g3
          · exact Or.inr ⟨o', q1, by omega, q3, q4⟩
theorem bpl_lng {v : Int → Int} (hW : WF v) {p : Int} (hp : 0 ≤ p) (hp1 : p < v 0) : bpl v p = lng v p (v 1) := by
  have h1 := wf_1 hW
  have h2 := wf_2 hW
  have h0 := wf_0 hW
  unfold bpl
  by_cases h : p + 1 < v 0
  · rw [if_pos h]
    obtain ⟨g1, g2, g3⟩ := bGo_m (v := v) (p := p) 40 (p - 1) 0
    have hle : bGo v p 40 (p - 1) 0 ≤ lng v p (v 1) := by
      rcases g3 with g3 | ⟨o', q1, q2, q3, q4⟩
      · rw [g3]; exact (lng_b hW hp).1
      · rw [q4]
        unfold bN at q3 ⊢
        by_cases hb : pr v o' = pr v p ∧ p - o' ≤ v 1
        · rw [if_pos hb] at q3 ⊢
          exact lng_m (by omega) (by omega) hb.2 (by omega) q3
        · rw [if_neg hb] at q3; omega
    have hge : lng v p (v 1) ≤ bGo v p 40 (p - 1) 0 := by
      rcases (lng_b hW (w := v 1) hp).2.2 with q | ⟨q, d0, q1, q2, q3, q4⟩
      · rw [q]; exact g1
      · have e1 := alk_eq (v := v) (p := p) (d := d0) (j := p) (by omega) (by omega)
        have e2 := alk_eq (v := v) (p := p) (d := d0) (j := p + 1) (by omega) (by omega)
        have hpr : pr v (p - d0) = pr v p := by
          unfold pr
          rw [e1, e2, show p - d0 + 1 = p + 1 - d0 by omega]
        have hbn : bN v p (p - d0) = lng v p (v 1) := by
          unfold bN
          rw [if_pos ⟨hpr, by omega⟩, show p - (p - d0) = d0 by omega, q4]
        rw [← hbn]
        exact g2 (p - d0) (by omega) (by omega) (by push_cast; omega) (by omega)
    omega
  · rw [if_neg h]
    rcases (lng_b hW (w := v 1) hp).2.2 with q | ⟨q, -⟩
    · exact q.symm
    · have := lng_e hW (w := v 1) hp (by omega)
      omega
/-! costs, each length from the longest on -/
def kGo (B : Int → Int) (rp p s : Int) : Nat → Int → Int → Int
  | 0, _, b => b
  | f + 1, n, b => if n < s then b else kGo B rp p s f (n - 1) (min b (B (p + n) + rp))
theorem iGo_c {B : Int → Int} {rp p m : Int} : ∀ (f : Nat) (n b : Int), iGo B rp p m f n b ≤ b ∧ (∀ l, n ≤ l → l ≤ m → m - n < f → iGo B rp p m f n b ≤ rp + B (p + l)) ∧ (iGo B rp p m f n b = b ∨ ∃ l, n ≤ l ∧ l ≤ m ∧ iGo B rp p m f n b = rp + B (p + l))
  | 0, n, b => ⟨Int.le_refl _, fun l h1 h2 h3 => by push_cast at h3; omega, Or.inl rfl⟩
  | f + 1, n, b => by
    unfold iGo
    by_cases h : m < n
    · rw [if_pos h]
      exact ⟨Int.le_refl _, fun l h1 h2 _ => by omega, Or.inl rfl⟩
    · rw [if_neg h]
      obtain ⟨g1, g2, g3⟩ := iGo_c (B := B) (rp := rp) (p := p) (m := m) f (n + 1) (min b (rp + B (p + n)))
      refine ⟨by omega, fun l q1 q2 q3 => ?_, ?_⟩
      · by_cases hl : l = n
        · rw [hl]; omega
        · exact g2 l (by omega) q2 (by push_cast at q3; omega)
      · rcases g3 with g3 | ⟨l, q1, q2, q3⟩
        · rcases Int.le_total b (rp + B (p + n)) with hb | hb
          · exact Or.inl (by omega)
          · exact Or.inr ⟨n, by omega, by omega, by omega⟩
        · exact Or.inr ⟨l, by omega, q2, q3⟩
theorem kGo_c {B : Int → Int} {rp p s : Int} : ∀ (f : Nat) (n b : Int), kGo B rp p s f n b ≤ b ∧ (∀ l, s ≤ l → l ≤ n → n - s < f → kGo B rp p s f n b ≤ rp + B (p + l)) ∧ (kGo B rp p s f n b = b ∨ ∃ l, s ≤ l ∧ l ≤ n ∧ kGo B rp p s f n b = rp + B (p + l))
  | 0, n, b => ⟨Int.le_refl _, fun l h1 h2 h3 => by push_cast at h3; omega, Or.inl rfl⟩
  | f + 1, n, b => by
    unfold kGo
    by_cases h : n < s
    · rw [if_pos h]
      exact ⟨Int.le_refl _, fun l h1 h2 _ => by omega, Or.inl rfl⟩
    · rw [if_neg h]
      obtain ⟨g1, g2, g3⟩ := kGo_c (B := B) (rp := rp) (p := p) (s := s) f (n - 1) (min b (B (p + n) + rp))
      refine ⟨by omega, fun l q1 q2 q3 => ?_, ?_⟩
      · by_cases hl : l = n
        · rw [hl]; omega
        · exact g2 l q1 (by omega) (by push_cast at q3; omega)
      · rcases g3 with g3 | ⟨l, q1, q2, q3⟩
        · rcases Int.le_total b (B (p + n) + rp) with hb | hb
          · exact Or.inl (by omega)
          · exact Or.inr ⟨n, by omega, by omega, by omega⟩
        · exact Or.inr ⟨l, q1, by omega, q3⟩
theorem kGo_i {B : Int → Int} {rp p s m b : Int} {f : Nat} (hf : m - s < f) (hm : m - s < 10) : kGo B rp p s f m b = iGo B rp p m 10 s b := by
  obtain ⟨a1, a2, a3⟩ := iGo_c (B := B) (rp := rp) (p := p) (m := m) 10 s b
  obtain ⟨b1, b2, b3⟩ := kGo_c (B := B) (rp := rp) (p := p) (s := s) f m b
  have h1 : kGo B rp p s f m b ≤ iGo B rp p m 10 s b := by
    rcases a3 with a3 | ⟨l, q1, q2, q3⟩
    · rw [a3]; exact b1
    · rw [q3]; exact b2 l q1 q2 hf
  have h2 : iGo B rp p m 10 s b ≤ kGo B rp p s f m b := by
    rcases b3 with b3 | ⟨l, q1, q2, q3⟩
    · rw [b3]; exact a1
    · rw [q3]; exact a2 l q1 q2 (by push_cast; omega)
  omega
theorem iGo_ext {B C : Int → Int} {rp p m : Int} : ∀ (f : Nat) (n b : Int), (∀ l, n ≤ l → l ≤ m → B (p + l) = C (p + l)) → iGo B rp p m f n b = iGo C rp p m f n b
  | 0, _, _, _ => rfl
  | f + 1, n, b, h => by
    unfold iGo
    by_cases hm : m < n
    · rw [if_pos hm, if_pos hm]
    · rw [if_neg hm, if_neg hm, h n (by omega) (by omega)]
      exact iGo_ext f (n + 1) _ (fun l q1 q2 => h l (by omega) q2)
theorem cGo_hi {Lg : Int → Int} {lp rp s : Int} : ∀ (f : Nat) (p : Int) (B : Int → Int) (k : Int), p < k → cGo Lg lp rp s f p B k = B k
  | 0, _, _, _, _ => rfl
  | f + 1, p, B, k, h => by
    unfold cGo
    by_cases hp : p < 0
    · rw [if_pos hp]
    · rw [if_neg hp, cGo_hi f (p - 1) _ k (by omega), upI_n (by omega)]
theorem cGo_rec {Lg : Int → Int} {lp rp s : Int} (hs : 1 ≤ s) : ∀ (f : Nat) (p : Int) (B : Int → Int) (q : Int), 0 ≤ q → q ≤ p → p < f → cGo Lg lp rp s f p B q = iGo (cGo Lg lp rp s f p B) rp q (Lg q) 10 s (lp + cGo Lg lp rp s f p B (q + 1))
  | 0, p, B, q, h0, h1, h2 => by push_cast at h2; omega
  | f + 1, p, B, q, h0, h1, h2 => by
    have e : cGo Lg lp rp s (f + 1) p B = cGo Lg lp rp s f (p - 1) (upI B p (iGo B rp p (Lg p) 10 s (lp + B (p + 1)))) := by
      show (if p < 0 then B else _) = _
      rw [if_neg (by omega)]
    rw [e]
    by_cases hq : q = p
    · subst hq
      rw [cGo_hi f (q - 1) _ q (by omega), upI_s, cGo_hi f (q - 1) _ (q + 1) (by omega), upI_n (by omega)]
      refine iGo_ext 10 s _ (fun l q1 q2 => ?_)
      rw [cGo_hi f (q - 1) _ (q + l) (by omega), upI_n (by omega)]
    · exact cGo_rec hs f (p - 1) _ q h0 (by omega) (by push_cast at h2; omega)
theorem cst_n {v : Int → Int} {w : Int} : cst v w (v 0) = 0 := cGo_hi 41 (v 0 - 1) _ (v 0) (by omega)
theorem cst_r {v : Int → Int} (hW : WF v) {w p : Int} (h0 : 0 ≤ p) (h1 : p < v 0) : cst v w p = iGo (cst v w) (v 5) p (lng v p w) 10 (v 2) (v 4 + cst v w (p + 1)) := by
  have h2 := wf_2 hW
  have h9 := wf_0 hW
  exact cGo_rec (by omega) 41 (v 0 - 1) _ p h0 (by omega) (by push_cast; omega)
/-! the least cost from the beginning is that from the end -/
theorem jGo_c {rp p m K c : Int} {G : Int → Int} : ∀ (f : Nat) (n : Int) (B : Int → Int), 1 ≤ n → (∀ k, jGo rp p m f n B k ≤ B k) ∧ (∀ k, k ≤ p → jGo rp p m f n B k = B k) ∧ (∀ l, n ≤ l → l ≤ m → m - n < f → jGo rp p m f n B (p + l) ≤ B p + rp) ∧ ((∀ k, 0 ≤ k → k ≤ c → K ≤ B k + G k) → (∀ l, n ≤ l → l ≤ m → K ≤ B p + rp + G (p + l)) → ∀ k, 0 ≤ k → k ≤ c → K ≤ jGo rp p m f n B k + G k)
  | 0, n, B, _ => ⟨fun k => Int.le_refl _, fun k _ => rfl, fun l h1 h2 h3 => by push_cast at h3; omega, fun h _ => h⟩
  | f + 1, n, B, hn => by
    unfold jGo
    by_cases h : m < n
    · rw [if_pos h]
      exact ⟨fun k => Int.le_refl _, fun k _ => rfl, fun l h1 h2 _ => by omega, fun h _ => h⟩
    · rw [if_neg h]
      obtain ⟨g1, g2, g3, g4⟩ := jGo_c (rp := rp) (p := p) (m := m) (K := K) (c := c) (G := G) f (n + 1) (upI B (p + n) (min (B (p + n)) (B p + rp))) (by omega)
      have hup : ∀ k, upI B (p + n) (min (B (p + n)) (B p + rp)) k ≤ B k := fun k => by
        by_cases hk : k = p + n
        · rw [hk, upI_s]; omega
        · rw [upI_n hk]; omega
      have hpp : upI B (p + n) (min (B (p + n)) (B p + rp)) p = B p := upI_n (by omega)
      refine ⟨fun k => Int.le_trans (g1 k) (hup k), fun k hk => ?_, fun l q1 q2 q3 => ?_, fun hK hL k k0 k1 => ?_⟩
      · rw [g2 k hk, upI_n (by omega)]
      · by_cases hl : l = n
        · subst hl
          have := g1 (p + l)
          rw [upI_s] at this
          omega
        · have := g3 l (by omega) q2 (by push_cast at q3; omega)
          rw [hpp] at this
          exact this
      · refine g4 (fun k k0 k1 => ?_) (fun l q1 q2 => by rw [hpp]; exact hL l (by omega) q2) k k0 k1
        by_cases hk : k = p + n
        · rw [hk, upI_s]
          have a1 := hK (p + n) (by omega) (by omega)
          have a2 := hL n (by omega) (by omega)
          omega
        · rw [upI_n hk]; exact hK k k0 k1
theorem gGo_K {Lg : Int → Int} {lp rp s c K : Int} {G : Int → Int} (hs : 1 ≤ s) (hL9 : ∀ p, Lg p - s < 10) (hL : ∀ p, 0 ≤ p → p < c → p + Lg p ≤ c) (r1 : ∀ p, 0 ≤ p → p < c → G p ≤ lp + G (p + 1)) (r2 : ∀ p l, 0 ≤ p → p < c → s ≤ l → l ≤ Lg p → G p ≤ rp + G (p + l)) (r3 : ∀ p, 0 ≤ p → p < c → G p = lp + G (p + 1) ∨ ∃ l, s ≤ l ∧ l ≤ Lg p ∧ G p = rp + G (p + l)) : ∀ (f : Nat) (p : Int) (B : Int → Int), 0 ≤ p → p ≤ c → c - p ≤ f → (∀ k, 0 ≤ k → k ≤ c → K ≤ B k + G k) → (∃ k, p ≤ k ∧ k ≤ c ∧ B k + G k ≤ K) → gGo Lg lp rp s c f p B c + G c = K
  | 0, p, B, h0, h1, h2, hK, ⟨k, k0, k1, k2⟩ => by
    have : k = c := by push_cast at h2; omega
    subst this
    have := hK k (by omega) (by omega)
    show B k + G k = K
    omega
  | f + 1, p, B, h0, h1, h2, hK, ⟨k, k0, k1, k2⟩ => by
    unfold gGo
    by_cases h : c ≤ p
    · rw [if_pos h]
      have : k = c := by omega
      subst this
      have := hK k (by omega) (by omega)
      omega
    · rw [if_neg h]
      have hK1 : ∀ j, 0 ≤ j → j ≤ c → K ≤ upI B (p + 1) (min (B (p + 1)) (B p + lp)) j + G j := fun j j0 j1 => by
        by_cases hj : j = p + 1
        · rw [hj, upI_s]
          have a1 := hK (p + 1) (by omega) (by omega)
          have a2 := hK p h0 (by omega)
          have a3 := r1 p h0 (by omega)
          omega
        · rw [upI_n hj]; exact hK j j0 j1
      have hpp : upI B (p + 1) (min (B (p + 1)) (B p + lp)) p = B p := upI_n (by omega)
      have hle : ∀ j, upI B (p + 1) (min (B (p + 1)) (B p + lp)) j ≤ B j := fun j => by
        by_cases hj : j = p + 1
        · rw [hj, upI_s]; omega
        · rw [upI_n hj]; omega
      obtain ⟨g1, g2, g3, g4⟩ := jGo_c (rp := rp) (p := p) (m := Lg p) (K := K) (c := c) (G := G) 10 s (upI B (p + 1) (min (B (p + 1)) (B p + lp))) hs
      refine gGo_K hs hL9 hL r1 r2 r3 f (p + 1) _ (by omega) (by omega) (by push_cast at h2; omega) (g4 hK1 (fun l q1 q2 => ?_)) ?_
      · rw [hpp]
        have a1 := hK p h0 (by omega)
        have a2 := r2 p l h0 (by omega) q1 q2
        omega
      · by_cases hk : k = p
        · subst hk
          rcases r3 k h0 (by omega) with e | ⟨l, q1, q2, q3⟩
          · refine ⟨k + 1, by omega, by omega, ?_⟩
            have a1 := g1 (k + 1)
            rw [upI_s] at a1
            omega
          · refine ⟨k + l, by omega, ?_, ?_⟩
            · have := hL k h0 (by omega); omega
            · have a1 := g3 l q1 q2 (by have := hL9 k; push_cast; omega)
              rw [hpp] at a1
              omega
        · exact ⟨k, by omega, k1, by have a1 := g1 k; have a2 := hle k; omega⟩
theorem fbg_cst {v : Int → Int} (hW : WF v) : fbg v = cst v (v 1) 0 := by
  have h0 := wf_0 hW
  have h1 := wf_1 hW
  have h2 := wf_2 hW
  have h3 := wf_3 hW
  have key := gGo_K (Lg := fun p => lng v p (v 1)) (lp := v 4) (rp := v 5) (s := v 2) (c := v 0) (K := cst v (v 1) 0) (G := cst v (v 1)) (by omega) (fun p => ?_) (fun p p0 p1 => lng_e hW p0 (by omega)) (fun p p0 p1 => ?_) (fun p l p0 p1 l0 l1 => ?_) (fun p p0 p1 => ?_) 41 0 (bG0 100000) (by omega) (by omega) (by push_cast; omega) (fun k k0 k1 => ?_) ⟨0, by omega, by omega, by
      show (if (0 : Int) = 0 then 0 else 100000) + cst v (v 1) 0 ≤ cst v (v 1) 0
      rw [if_pos rfl]; omega⟩
  · rw [cst_n] at key
    show gGo (fun p => lng v p (v 1)) (v 4) (v 5) (v 2) (v 0) 41 0 (bG0 100000) (v 0) = _
    omega
  · show lng v p (v 1) - v 2 < 10
    by_cases hp : 0 ≤ p
    · have := (lng_b hW (w := v 1) hp).2.1; omega
    · have : lng v p (v 1) = 0 := by
        unfold lng
        show (if v 1 < 1 ∨ p < 1 then (0 : Int) else _) = 0
        rw [if_pos (by omega)]
      omega
  · rw [cst_r hW p0 p1]; exact (iGo_c 10 (v 2) _).1
  · rw [cst_r hW p0 p1]
    have l9 := (lng_b hW (w := v 1) p0).2.1
    exact (iGo_c 10 (v 2) _).2.1 l l0 l1 (by push_cast; omega)
  · have := (iGo_c (B := cst v (v 1)) (rp := v 5) (p := p) (m := lng v p (v 1)) 10 (v 2) (v 4 + cst v (v 1) (p + 1))).2.2
    rw [← cst_r hW p0 p1] at this
    exact this
  · have a1 := cst_b hW (v 1) (k := k) k0 k1
    have a2 := cst_b hW (v 1) (k := 0) (by omega) (by omega)
    by_cases hk : k = 0
    · rw [hk]
      show _ ≤ (if (0 : Int) = 0 then 0 else 100000) + cst v (v 1) 0
      rw [if_pos rfl]; omega
    · show _ ≤ (if k = 0 then 0 else 100000) + cst v (v 1) k
      rw [if_neg hk]; omega
/-! the most frequent pair -/
theorem mfGo_m (C : Int → Int) : ∀ (f : Nat) (x b : Int), C b ≤ C (mfGo C f x b) ∧ ∀ y, x ≤ y → y < 16 → 16 - x ≤ f → C y ≤ C (mfGo C f x b)
  | 0, x, b => ⟨Int.le_refl _, fun y h1 h2 h3 => by push_cast at h3; omega⟩
  | f + 1, x, b => by
    unfold mfGo
    by_cases h : 16 ≤ x
    · rw [if_pos h]
      exact ⟨Int.le_refl _, fun y h1 h2 _ => by omega⟩
    · rw [if_neg h]
      by_cases hc : C b < C x
      · rw [if_pos hc]
        obtain ⟨g1, g2⟩ := mfGo_m C f (x + 1) x
        refine ⟨by omega, fun y q1 q2 q3 => ?_⟩
        by_cases hy : y = x
        · rw [hy]; exact g1
        · exact g2 y (by omega) q2 (by push_cast at q3; omega)
      · rw [if_neg hc]
        obtain ⟨g1, g2⟩ := mfGo_m C f (x + 1) b
        refine ⟨g1, fun y q1 q2 q3 => ?_⟩
        by_cases hy : y = x
        · rw [hy]; omega
        · exact g2 y (by omega) q2 (by push_cast at q3; omega)
theorem cP_mono (v : Int → Int) (x : Int) : ∀ n m : Nat, n ≤ m → cP v x n ≤ cP v x m
  | n, 0, h => by
    have : n = 0 := by omega
    subst this; exact Int.le_refl _
  | n, m + 1, h => by
    by_cases hn : n = m + 1
    · rw [hn]; exact Int.le_refl _
    · have := cP_mono v x n m (by omega)
      show _ ≤ cP v x m + (if pr v m = x then 1 else 0)
      split <;> omega
theorem mfr_pos {v : Int → Int} (hW : WF v) (h : 2 ≤ v 0) : 1 ≤ ofn v (mfr v) := by
  have hp := pr_b hW (p := 0) (by omega) (by omega)
  have h1 : 1 ≤ ofn v (pr v 0) := by
    have := cP_mono v (pr v 0) 1 (nP v) (by unfold nP; omega)
    have e : cP v (pr v 0) 1 = 1 := by
      show (0 : Int) + (if pr v (0 : Int) = pr v 0 then 1 else 0) = 1
      rw [if_pos rfl]; rfl
    unfold ofn
    omega
  obtain ⟨g1, g2⟩ := mfGo_m (ofn v) 20 1 0
  unfold mfr
  by_cases h0 : pr v 0 = 0
  · rw [h0] at h1; omega
  · have := g2 (pr v 0) (by omega) (by omega) (by omega)
    omega
/-! a row's price and letters -/
theorem csm_ext {v D E : Int → Int} : ∀ n : Nat, (∀ j : Int, 0 ≤ j → j < n → D j = E j) → csm v D n = csm v E n
  | 0, _ => rfl
  | n + 1, h => by
    show csm v D n + _ = csm v E n + _
    rw [csm_ext n (fun j h0 h1 => h j h0 (by push_cast; omega)), h n (by omega) (by push_cast; omega)]
theorem csm_up {v D : Int → Int} {k x : Int} (h0 : 0 ≤ k) : csm v (upI D k x) (k + 1).toNat = csm v D k.toNat + (if x = 0 then v 4 else v 5) := by
  rw [show (k + 1).toNat = k.toNat + 1 by omega]
  show csm v (upI D k x) k.toNat + (if upI D k x (k.toNat : Int) = 0 then v 4 else v 5) = _
  rw [csm_ext k.toNat (fun j j0 j1 => upI_n (by omega)), upI_at (by omega)]
theorem agr_ext {U X : Int → Int} : ∀ (f : Nat) (j : Int), agr U X f j = 1 ↔ ∀ k, j ≤ k → k < j + f → U k = X k
  | 0, j => ⟨fun _ k h1 h2 => by push_cast at h2; omega, fun _ => rfl⟩
  | f + 1, j => by
    unfold agr
    by_cases h : U j = X j
    · rw [if_pos h, agr_ext f (j + 1)]
      constructor
      · intro g k h1 h2
        by_cases hk : k = j
        · rw [hk]; exact h
        · exact g k (by omega) (by push_cast at h2; omega)
      · intro g k h1 h2
        exact g k (by omega) (by push_cast; omega)
    · rw [if_neg h]
      exact ⟨fun g => by omega, fun g => absurd (g j (by omega) (by push_cast; omega)) h⟩
/-! rests and quotients -/
theorem and_ii (x : Int32) : ∃ a : Int, 0 ≤ a ∧ a < 2147483648 ∧ x &&& 2147483647 = ii a := by
  have h : (x &&& (2147483647 : Int32)).toBitVec.toNat ≤ 2147483647 := by
    rw [Int32.toBitVec_and, BitVec.toNat_and]
    exact Nat.and_le_right
  have h2 : (x &&& (2147483647 : Int32)).toInt = ((x &&& (2147483647 : Int32)).toBitVec.toNat : Int) := by
    rw [← Int32.toInt_toBitVec]
    exact BitVec.toInt_eq_toNat_of_lt (by omega)
  exact ⟨(x &&& (2147483647 : Int32)).toInt, by omega, by omega, (ii_of _).symm⟩
theorem div_ii {a n : Int} (h0 : 0 ≤ a) (h1 : a < 2147483648) (h2 : 0 < n) (h3 : n < 2147483648) : ii a / ii n = ii (a / n) := by
  have e1 : Int32.minValue.toInt = -2147483648 := by decide
  have e2 : Int32.maxValue.toInt = 2147483647 := by decide
  unfold ii
  rw [← Int32.ofInt_tdiv (by omega) (by omega) (by omega) (by omega), Int.tdiv_eq_ediv_of_nonneg h0]
theorem dDiv_at {a n : Int} (h0 : 0 ≤ a) (h1 : a < 2147483648) (h2 : 0 < n) (h3 : n < 2147483648) : dDiv (ii a) (ii n) = some (ii (a / n)) := by
  unfold dDiv
  rw [if_neg (by rw [k0, ii_eq (by omega) (by omega) (by omega) (by omega)]; omega), div_ii h0 h1 h2 h3]
theorem dRem_at {a n : Int} (h0 : 0 ≤ a) (h1 : a < 2147483648) (h2 : 0 < n) (h3 : n < 2147483648) : dRem (ii a) (ii n) = some (ii (a % n)) := by
  unfold dRem
  rw [if_neg (by rw [k0, ii_eq (by omega) (by omega) (by omega) (by omega)]; omega), div_ii h0 h1 h2 h3, ii_mul, ii_sub, Int.emod_def, Int.mul_comm]
theorem low_at (x : Int32) {n : Int} (h2 : 0 < n) (h3 : n < 2147483648) : ∃ r, 0 ≤ r ∧ r < n ∧ fL_low x (ii n) = some (ii r) := by
  obtain ⟨a, h0, h1, e⟩ := and_ii x
  refine ⟨a % n, Int.emod_nonneg _ (by omega), Int.emod_lt_of_pos _ h2, ?_⟩
  unfold fL_low
  rw [e, dRem_at h0 h1 h2 h3]
  rfl
