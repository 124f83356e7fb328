/-! One minute in both: together. -/
theorem gxWg_row (S : SS) (N G : Nat) {a : Nat} (ha : a < 7 ∨ a = 8) : ∀ n, gxWg S N G n a = gxLg S N G a := by
  intro n
  induction n with
  | zero => rfl
  | succ n ih => exact (gxWo_r _ n ha N).trans ih
theorem wt_uni {T : SS} {k g g' : Nat} (hg : g < 4) (hg' : g' < 4) (h : ¬ gxWt T k (nI g) = 0) (h' : ¬ gxWt T k (nI g') = 0) : g = g' := by
  have e := (gxWt_1 h).2.symm.trans (gxWt_1 h').2
  exact (nI_eq (by omega) (by omega)).mp e
theorem wt_sc {T X : SS} {k : Nat} {g : Int32} (h9 : X 9 k = sc (co T k) 9) (h10 : X 10 k = sc (co T k) 10) (h : ¬ gxWt X k g = 0) : ¬ gxWt T k g = 0 := by
  obtain ⟨a, b⟩ := gxWt_1 h
  unfold sc at h9 h10
  by_cases hp : (0 : Int32) < co T k 13 - 1
  · rw [if_pos hp] at h9 h10
    have e9 : X 9 k = T 9 k := h9
    have e10 : X 10 k = T 10 k := h10
    rw [← wt_congr e9 e10]
    exact h
  · rw [if_neg hp] at h9
    have e9 : X 9 k = 0 := h9
    exact (n01 e9 a).elim
section WG
variable {S : SS} {N G : Nat}
theorem gxWg_col (hG4 : G ≤ 4) : ∀ n, n ≤ G → ∀ k, k < N → ((∃ g, g < n ∧ ¬ gxWt (gxLg S N G) k (nI g) = 0) → ∀ a, 8 ≤ a → gxWg S N G n a k = sc (co (gxLg S N G) k) a) ∧ ((∀ g, g < n → gxWt (gxLg S N G) k (nI g) = 0) → ∀ a, 8 ≤ a → gxWg S N G n a k = gxLg S N G a k) := by
  intro n
  induction n with
  | zero => intro _ k _; exact ⟨fun ⟨g, h, _⟩ => by omega, fun _ a _ => rfl⟩
  | succ n ih =>
    intro hn k hk
    obtain ⟨i1, i2⟩ := ih (by omega) k hk
    have step : ∀ a, 8 ≤ a → gxWg S N G (n + 1) a k = if k < N ∧ ¬ gxWt (gxWg S N G n) k (nI n) = 0 then sc (co (gxWg S N G n) k) a else gxWg S N G n a k := fun a ha => gxWo_col _ n N k a ha
    constructor
    · rintro ⟨g, hg, hw⟩ a ha
      rw [step a ha]
      by_cases hgn : g < n
      · have col := i1 ⟨g, hgn, hw⟩
        have w0 : gxWt (gxWg S N G n) k (nI n) = 0 := by
          by_cases z : gxWt (gxWg S N G n) k (nI n) = 0
          · exact z
          · have := wt_uni (by omega) (by omega) hw (wt_sc (col 9 (by omega)) (col 10 (by omega)) z)
            omega
        rw [if_neg (fun z => z.2 w0)]
        exact col a ha
      · have e : g = n := by omega
        subst e
        have col := i2 (fun g' hg' => by
          by_cases z : gxWt (gxLg S N G) k (nI g') = 0
          · exact z
          · have := wt_uni (by omega) (by omega) hw z
            omega)
        rw [if_pos ⟨hk, by rw [wt_congr (col 9 (by omega)) (col 10 (by omega))]; exact hw⟩]
        exact sc_congr col ha
    · intro h a ha
      have col := i2 (fun g hg => h g (by omega))
      rw [step a ha, if_neg (fun z => z.2 (by rw [wt_congr (col 9 (by omega)) (col 10 (by omega))]; exact h n (by omega)))]
      exact col a ha
theorem gxWg_7 (hG4 : G ≤ 4) : ∀ n, n ≤ G → ∀ x, gxWg S N G n 7 x = if x < n then gxLg S N G 7 x + isum (fun k => if gxWt (gxLg S N G) k (nI x) = 0 then 0 else dS (co (gxLg S N G) k)) N else gxLg S N G 7 x := by
  intro n
  induction n with
  | zero => intro _ x; rw [if_neg (by omega)]; rfl
  | succ n ih =>
    intro hn x
    have i := ih (by omega)
    have e := gxWo_7 (gxWg S N G n) n N x
    show gxWo (gxWg S N G n) n N 7 x = _
    rw [e]
    by_cases hx : x = n
    · subst hx
      rw [if_pos rfl, if_pos (by omega), i x, if_neg (by omega)]
      congr 1
      refine isum_congr N (fun k hk => ?_)
      obtain ⟨i1, i2⟩ := gxWg_col (S := S) (N := N) hG4 x (by omega) k hk
      by_cases hex : ∃ g, g < x ∧ ¬ gxWt (gxLg S N G) k (nI g) = 0
      · have col := i1 hex
        obtain ⟨g, hg, hw⟩ := hex
        have w1 : gxWt (gxLg S N G) k (nI x) = 0 := by
          by_cases z : gxWt (gxLg S N G) k (nI x) = 0
          · exact z
          · have := wt_uni (by omega) (by omega) hw z
            omega
        have w0 : gxWt (gxWg S N G x) k (nI x) = 0 := by
          by_cases z : gxWt (gxWg S N G x) k (nI x) = 0
          · exact z
          · exact absurd w1 (wt_sc (col 9 (by omega)) (col 10 (by omega)) z)
        rw [if_pos w0, if_pos w1]
      · have col := i2 (fun g hg => Classical.byContradiction (fun z => hex ⟨g, hg, z⟩))
        rw [wt_congr (col 9 (by omega)) (col 10 (by omega)), show dS (co (gxWg S N G x) k) = dS (co (gxLg S N G) k) from by unfold dS; rw [show co (gxWg S N G x) k 13 = co (gxLg S N G) k 13 from col 13 (by omega)]]
    · rw [if_neg hx, i x]
      have e : (x < n) = (x < n + 1) := by apply propext; omega
      simp only [e]
end WG
-- the reference
theorem mWaT_col (M : SS) (k a : Nat) (ha : a < 8 ∨ a = 11) : mWaT M k a k = wc (co M k) a := by
  have e5 : mWaA M k 5 k = M 5 k + 1 := by unfold mWaA; rw [up2_at, if_neg (by omega), up2_s]
  unfold mWaT wc
  by_cases h : M 0 k = 1
  · rw [if_neg (fun z => (mIs0 M k 1).mp z h), e5]
    show (if M 4 k ≤ M 5 k + 1 then up2 (up2 (mWaA M k) 0 k 0) 8 2 (M 8 2 + 1) else mWaA M k) a k = if M 0 k = 1 then (if a = 5 then M 5 k + 1 else if a = 6 then M 6 k + 1 else if a = 0 then (if M 4 k ≤ M 5 k + 1 then 0 else 1) else M a k) else M a k
    rw [if_pos h]
    by_cases hd : M 4 k ≤ M 5 k + 1
    · rw [if_pos hd, if_pos hd]
      unfold mWaA
      simp only [up2_at]
      by_cases h5 : a = 5
      · subst h5; simp
      · by_cases h6 : a = 6
        · subst h6; simp
        · by_cases h0 : a = 0
          · subst h0; simp
          · have h8 : ¬ a = 8 := by omega
            simp [h5, h6, h0, h8]
    · rw [if_neg hd, if_neg hd]
      unfold mWaA
      simp only [up2_at]
      by_cases h5 : a = 5
      · subst h5; simp
      · by_cases h6 : a = 6
        · subst h6; simp
        · by_cases h0 : a = 0
          · subst h0; simp [h]
          · simp [h5, h6, h0]
  · rw [if_pos ((mIs0 M k 1).mpr h)]
    show M a k = if M 0 k = 1 then _ else M a k
    rw [if_neg h]
theorem mWaT_k (M : SS) {i k a : Nat} (hk : k ≠ i) (ha : a < 8 ∨ a = 11) : mWaT M i a k = M a k := by
  unfold mWaT mWaA
  split
  · rfl
  · split
    · rw [up2_at, if_neg (by omega), up2_at, if_neg (fun z => hk z.2), up2_at, if_neg (fun z => hk z.2), up2_at, if_neg (fun z => hk z.2)]
    · rw [up2_at, if_neg (fun z => hk z.2), up2_at, if_neg (fun z => hk z.2)]
theorem mWaT_8 (M : SS) (i c : Nat) : mWaT M i 8 c = if c = 2 then M 8 2 + dM (co M i) else M 8 c := by
  have e5 : mWaA M i 5 i = M 5 i + 1 := by unfold mWaA; rw [up2_at, if_neg (by omega), up2_s]
  have e8 : mWaA M i 8 = M 8 := by unfold mWaA; rw [up2_r _ _ _ _ (by omega), up2_r _ _ _ _ (by omega)]
  unfold mWaT dM
  by_cases h : M 0 i = 1
  · rw [if_neg (fun z => (mIs0 M i 1).mp z h), e5]
    show (if M 4 i ≤ M 5 i + 1 then up2 (up2 (mWaA M i) 0 i 0) 8 2 (M 8 2 + 1) else mWaA M i) 8 c = if c = 2 then M 8 2 + (if M 0 i = 1 then (if M 4 i ≤ M 5 i + 1 then 1 else 0) else 0) else M 8 c
    rw [if_pos h]
    by_cases hd : M 4 i ≤ M 5 i + 1
    · rw [if_pos hd, if_pos hd, up2_at, up2_r _ _ _ _ (show (8 : Nat) ≠ 0 by omega), e8]
      by_cases hc : c = 2
      · rw [if_pos ⟨rfl, hc⟩, if_pos hc]
      · rw [if_neg (fun z => hc z.2), if_neg hc]
    · rw [if_neg hd, if_neg hd, e8]
      by_cases hc : c = 2
      · rw [if_pos hc, hc, Int32.add_zero]
      · rw [if_neg hc]
  · rw [if_pos ((mIs0 M i 1).mpr h)]
    show M 8 c = if c = 2 then M 8 2 + (if M 0 i = 1 then (if M 4 i ≤ M 5 i + 1 then 1 else 0) else 0) else M 8 c
    rw [if_neg h]
    by_cases hc : c = 2
    · rw [if_pos hc, hc, Int32.add_zero]
    · rw [if_neg hc]
theorem wc_congr {m m' : Nat → Int32} (h : ∀ a, a < 8 ∨ a = 11 → m a = m' a) {a : Nat} (ha : a < 8 ∨ a = 11) : wc m a = wc m' a := by
  unfold wc
  rw [h 0 (by omega), h 4 (by omega), h 5 (by omega), h 6 (by omega), h a ha]
theorem dM_congr {m m' : Nat → Int32} (h : ∀ a, a < 8 ∨ a = 11 → m a = m' a) : dM m = dM m' := by
  unfold dM
  rw [h 0 (by omega), h 4 (by omega), h 5 (by omega)]
theorem mWa_col (M : SS) : ∀ n k a, a < 8 ∨ a = 11 → mWa M n a k = if k < n then wc (co M k) a else M a k := by
  intro n
  induction n with
  | zero => intro k a _; rw [if_neg (by omega)]; rfl
  | succ n ih =>
    intro k a ha
    show mWaT (mWa M n) n a k = _
    by_cases hk : k = n
    · subst hk
      rw [mWaT_col _ _ _ ha, if_pos (by omega)]
      exact wc_congr (fun b hb => by show mWa M k b k = M b k; rw [ih k b hb, if_neg (by omega)]) ha
    · rw [mWaT_k _ hk ha, ih k a ha]
      have e : (k < n) = (k < n + 1) := by apply propext; omega
      simp only [e]
theorem mWa_8 (M : SS) : ∀ n c, mWa M n 8 c = if c = 2 then M 8 2 + isum (fun k => dM (co M k)) n else M 8 c := by
  intro n
  induction n with
  | zero =>
    intro c
    show M 8 c = _
    by_cases hc : c = 2
    · rw [if_pos hc, hc]; exact (Int32.add_zero _).symm
    · rw [if_neg hc]
  | succ n ih =>
    intro c
    show mWaT (mWa M n) n 8 c = _
    have ed : dM (co (mWa M n) n) = dM (co M n) := dM_congr (fun b hb => by show mWa M n b n = M b n; rw [mWa_col M n n b hb, if_neg (by omega)])
    rw [mWaT_8, ed, ih 2, ih c, if_pos rfl]
    by_cases hc : c = 2
    · rw [if_pos hc, if_pos hc, Int32.add_assoc]
      rfl
    · rw [if_neg hc, if_neg hc, if_neg hc]
section GW
variable {G N : Nat} {S M : SS}
theorem rj_wc0 {s m : Nat → Int32} (h : gr G s m) (h9 : ¬ s 9 = 1) : gr G s (wc m) := by
  refine rj_congr (fun _ _ _ => rfl) (fun a _ => ?_) h
  unfold wc
  rw [if_neg (fun z => h9 (h.1.symm.trans z))]
theorem rj_wc1 {s m : Nat → Int32} (h : gr G s m) (h9 : s 9 = 1) : gr G (sc s) (wc m) := by
  have h0 : m 0 = 1 := h.1.trans h9
  obtain ⟨_, h11, h6, ⟨x, x1, x2, ex⟩, hh⟩ := h
  rcases hh with hh | hh | hh
  · exact (n01 hh.1 h9).elim
  · obtain ⟨_, e1, e2, e3, e7, ⟨g, hg, eg⟩, a, b, c, c1, c2, c3, c4, f1, f2, f3, f4, f5⟩ := hh
    obtain ⟨d, rfl⟩ : ∃ d, b = a + (d + 1) := ⟨b - a - 1, by omega⟩
    have f13 : s 13 - 1 = nI d := by rw [f4, show a + (d + 1) - a = d + 1 by omega]; exact nI_pred d
    have f5' : m 5 + 1 = nI (a + 1) := by rw [f2]; exact nI_1 a
    have f15 : s 15 + 1 = nI (a + 1) := by rw [f1]; exact nI_1 a
    cases d with
    | zero =>
      have hp : ¬ (0 : Int32) < s 13 - 1 := by rw [f13]; decide
      have hq : m 4 ≤ m 5 + 1 := by rw [f3, f5']; exact nI_le (by omega) (by omega)
      refine ⟨?_, ?_, ?_, ⟨x, x1, x2, ?_⟩, Or.inl ⟨?_, ?_, ?_, ?_⟩⟩ <;> simp [sc, wc, scA, hp, hq, h0, h11, h6, ex]
    | succ d =>
      have hp : (0 : Int32) < s 13 - 1 := by rw [f13]; exact (nI_ltI (a := 0) (b := d + 1) (by decide) (by omega)).mpr (by omega)
      have hq : ¬ m 4 ≤ m 5 + 1 := by rw [f3, f5']; exact nI_ge (by omega) (by omega)
      have f13' : s 13 - 1 = nI (a + (d + 1 + 1) - (a + 1)) := by rw [f13, show a + (d + 1 + 1) - (a + 1) = d + 1 by omega]
      have es : ∀ z, sc s z = scA s z := fun z => if_pos hp
      have em : ∀ z, wc m z = if z = 5 then m 5 + 1 else if z = 6 then m 6 + 1 else if z = 0 then 1 else m z := fun z => by unfold wc; rw [if_pos h0, if_neg hq]
      refine ⟨?_, ?_, ?_, ⟨x, x1, x2, ?_⟩, Or.inr (Or.inl ⟨?_, ?_, ?_, ?_, ?_, ⟨g, hg, ?_⟩, ⟨a + 1, a + (d + 1 + 1), c, by omega, c2, c3, c4, ?_, ?_, ?_, ?_, ?_⟩⟩)⟩
      · rw [es, em]; exact h9.symm
      · rw [es, em]; exact h11
      · rw [es, em]; show m 6 + 1 = s 16 + 1; rw [h6]
      · rw [es]; exact ex
      · rw [es]; exact h9
      · rw [es, em]; exact e1
      · rw [es, em]; exact e2
      · rw [es, em]; exact e3
      · rw [es, em]; exact e7
      · rw [es]; exact eg
      · rw [es]; exact f15
      · rw [em]; exact f5'
      · rw [em]; exact f3
      · rw [es]; exact f13'
      · rw [es]; exact f5
  · exact (n12 h9 hh.1).elim
theorem dM_dS {s m : Nat → Int32} (h : gr G s m) : dM m = if s 9 = 1 then dS s else 0 := by
  unfold dM dS
  rw [h.1]
  by_cases h9 : s 9 = 1
  · rw [if_pos h9, if_pos h9]
    rcases h.2.2.2.2 with hh | hh | hh
    · exact (n01 hh.1 h9).elim
    · obtain ⟨_, _, _, _, _, _, a, b, c, c1, c2, c3, c4, f1, f2, f3, f4, f5⟩ := hh
      obtain ⟨d, rfl⟩ : ∃ d, b = a + (d + 1) := ⟨b - a - 1, by omega⟩
      have f13 : s 13 - 1 = nI d := by rw [f4, show a + (d + 1) - a = d + 1 by omega]; exact nI_pred d
      have f5' : m 5 + 1 = nI (a + 1) := by rw [f2]; exact nI_1 a
      rw [f3, f5', f13]
      cases d with
      | zero => rw [if_pos (nI_le (by omega) (by omega)), if_neg (by decide)]
      | succ d => rw [if_neg (nI_ge (by omega) (by omega)), if_pos (show (0 : Int32) < nI (d + 1) from (nI_ltI (a := 0) (b := d + 1) (by decide) (by omega)).mpr (by omega))]
    · exact (n12 h9 hh.1).elim
  · rw [if_neg h9, if_neg h9]
/-- the class's and the reference's state are the same -/
def Rel (G N : Nat) (S M : SS) : Prop := grs G N S M ∧ gts G S M ∧ hd3 S M ∧ M 8 2 = gxGiv S G
theorem giv_congr {S T : SS} {G : Nat} (h : ∀ g, g < G → S 7 g = T 7 g) : gxGiv S G = gxGiv T G := by
  rw [giv_isum, giv_isum]
  exact isum_congr G h
theorem mOpI_82 (g : Nat) : ∀ i, mOpI M g N i 8 2 = M 8 2 := by
  intro i
  induction i with
  | zero => rfl
  | succ i ih => exact ih
theorem mOp_82 : ∀ n, mOp M N n 8 2 = M 8 2 := by
  intro n
  induction n with
  | zero => show mSt M N 8 2 = M 8 2; rw [mSt_8]
  | succ n ih => exact (mOpI_82 n _).trans ih
theorem gxLg_r {a : Nat} (h1 : 0 < a) (h2 : a < 9) : ∀ n, gxLg S N n a = S a := by
  intro n
  induction n with
  | zero => exact gxLv_r (by omega) N
  | succ n ih => exact (gxLiI_r _ n N h1 h2 _).trans ih
theorem wt_at {T : SS} {k j : Nat} (h9 : T 9 k = 1) (h10 : T 10 k = nI j) : ¬ gxWt T k (nI j) = 0 := by
  unfold gxWt
  rw [if_pos h9, if_pos h10]
  decide
theorem wt_no9 {T : SS} {k : Nat} {g : Int32} (h9 : ¬ T 9 k = 1) : gxWt T k g = 0 := by
  unfold gxWt
  rw [if_neg h9]
/-- the same minute passes -/
theorem r_min (h : Rel G N S M) (hN : N ≤ 12) (hG4 : G ≤ 4) : Rel G N (gxMin S G N) (mMin M G N) := by
  obtain ⟨h1, h2, h3, h4⟩ := h
  obtain ⟨o1, o2, o3⟩ := r_op h1 h2 h3 hN G (Nat.le_refl G)
  have o4 : mOp M N G 8 2 = gxGiv (gxLg S N G) G := by
    rw [mOp_82, h4]
    exact giv_congr (fun g _ => by rw [gxLg_r (by omega) (by omega)])
  have cols : ∀ k, k < N → gr G (co (gxWg S N G G) k) (co (mWa (mOp M N G) N) k) := by
    intro k hk
    have hr := o1 k hk
    obtain ⟨i1, i2⟩ := gxWg_col (S := S) (N := N) hG4 G (Nat.le_refl G) k hk
    have mc : ∀ a, a < 8 ∨ a = 11 → co (mWa (mOp M N G) N) k a = wc (co (mOp M N G) k) a := fun a ha => by show mWa (mOp M N G) N a k = _; rw [mWa_col _ _ _ _ ha, if_pos hk]
    by_cases h9 : gxLg S N G 9 k = 1
    · obtain ⟨_, _, _, _, ⟨j, hj, ej⟩, _⟩ := rj_1 hr h9
      exact rj_congr (fun a ha _ => i1 ⟨j, hj, wt_at h9 ej⟩ a ha) mc (rj_wc1 hr h9)
    · exact rj_congr (fun a ha _ => i2 (fun g _ => wt_no9 h9) a ha) mc (rj_wc0 hr h9)
  refine ⟨fun k hk => rj_congr (fun a h1 h2 => ?_) (fun a ha => ?_) (cols k hk), ?_, ?_, ?_⟩
  · show gxMin S G N a k = gxWg S N G G a k
    unfold gxMin
    rw [up2_at, if_neg (by omega)]
  · show mMin M G N a k = mWg M N G N a k
    unfold mMin
    rw [up2_at, if_neg (by omega)]
  · refine gts_congr (S := gxLg S N G) (M := mOp M N G) (fun a ha => ?_) (fun a ha => ?_) o2
    · unfold gxMin
      rw [up2_r _ _ _ _ (by omega)]
      exact gxWg_row S N G (by omega) G
    · unfold mMin
      rw [up2_r _ _ _ _ (by omega)]
      exact mWa_r _ (by omega) N
  · obtain ⟨a, b, c⟩ := o3
    have w0 : gxWg S N G G 0 = gxLg S N G 0 := gxWg_row S N G (by omega) G
    have m8 : ∀ c, c ≠ 2 → mWg M N G N 8 c = mOp M N G 8 c := fun c hc => by show mWa (mOp M N G) N 8 c = _; rw [mWa_8, if_neg hc]
    refine ⟨?_, ?_, ?_⟩
    · unfold mMin gxMin
      rw [up2_s, up2_s, w0, m8 0 (by omega), a]
    · unfold mMin gxMin
      rw [up2_c _ _ _ _ (by omega), up2_c _ _ _ _ (by omega), w0, m8 1 (by omega), b]
    · unfold mMin gxMin
      rw [up2_c _ _ _ _ (by omega), up2_c _ _ _ _ (by omega), w0, m8 3 (by omega), c]
  · have e1 : mMin M G N 8 2 = mWa (mOp M N G) N 8 2 := by unfold mMin; rw [up2_c _ _ _ _ (by omega)]; rfl
    have e2 : gxGiv (gxMin S G N) G = isum (fun g => gxLg S N G 7 g + isum (fun k => if gxWt (gxLg S N G) k (nI g) = 0 then 0 else dS (co (gxLg S N G) k)) N) G := by
      rw [giv_isum]
      refine isum_congr G (fun g hg => ?_)
      have e : gxMin S G N 7 g = gxWg S N G G 7 g := by unfold gxMin; rw [up2_at, if_neg (by omega)]
      rw [e, gxWg_7 hG4 G (Nat.le_refl G), if_pos hg]
    rw [e1, mWa_8, if_pos rfl, e2, isum_add, o4, giv_isum, isum_swap (fun g k => if gxWt (gxLg S N G) k (nI g) = 0 then 0 else dS (co (gxLg S N G) k)) N G]
    congr 1
    refine isum_congr N (fun k hk => ?_)
    have hr := o1 k hk
    rw [dM_dS hr]
    by_cases h9 : gxLg S N G 9 k = 1
    · obtain ⟨_, _, _, _, ⟨j, hj, ej⟩, _⟩ := rj_1 hr h9
      rw [if_pos (show co (gxLg S N G) k 9 = 1 from h9)]
      refine (isum_one (j := j) (by rw [if_neg (wt_at h9 ej)]) G hj (fun g hg hne => ?_)).symm
      rw [if_pos]
      by_cases z : gxWt (gxLg S N G) k (nI g) = 0
      · exact z
      · exact absurd (wt_uni (by omega) (by omega) z (wt_at h9 ej)) hne
    · rw [if_neg (show ¬ co (gxLg S N G) k 9 = 1 from h9)]
      exact (isum_no G (fun g _ => by rw [if_pos (wt_no9 h9)])).symm
end GW
