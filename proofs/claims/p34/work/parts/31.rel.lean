/-! One minute in both: who leaves, who is let in. -/
theorem rj_congr {G : Nat} {s s' m m' : Nat → Int32} (hs : ∀ a, 8 ≤ a → a < 17 → s' a = s a) (hm : ∀ a, a < 8 ∨ a = 11 → m' a = m a) (h : gr G s m) : gr G s' m' := by
  unfold gr at h ⊢
  rw [hs 8 (by omega) (by omega), hs 9 (by omega) (by omega), hs 10 (by omega) (by omega), hs 11 (by omega) (by omega), hs 12 (by omega) (by omega), hs 13 (by omega) (by omega), hs 14 (by omega) (by omega), hs 15 (by omega) (by omega), hs 16 (by omega) (by omega), hm 0 (by omega), hm 1 (by omega), hm 2 (by omega), hm 3 (by omega), hm 4 (by omega), hm 5 (by omega), hm 6 (by omega), hm 7 (by omega), hm 11 (by omega)]
  exact h
theorem gts_congr {G : Nat} {S S' M M' : SS} (hs : ∀ a, a = 5 ∨ a = 6 → S' a = S a) (hm : ∀ a, a = 9 ∨ a = 10 → M' a = M a) (h : gts G S M) : gts G S' M' := by
  unfold gts at h ⊢
  rw [hs 5 (by omega), hs 6 (by omega), hm 9 (by omega), hm 10 (by omega)]
  exact h
theorem gxRest_k (S : SS) {i k : Nat} (h : k ≠ i) (a : Nat) : gxRest S i a k = S a k := by simp [gxRest, up2_at, h]
theorem gxLvT_k (T : SS) {i k : Nat} (h : k ≠ i) (a : Nat) : gxLvT T i a k = T a k := by
  unfold gxLvT
  split
  · split
    · rw [up2_at, if_neg (fun z => h z.2)]
    · rw [gxRest_k _ h, up2_at, if_neg (fun z => h z.2)]
  · rfl
theorem mStT_k (M : SS) {i k : Nat} (h : k ≠ i) (a : Nat) : mStT M i a k = M a k := by
  unfold mStT
  split
  · rfl
  · split
    · rw [up2_at, if_neg (fun z => h z.2), up2_at, if_neg (fun z => h z.2)]
    · rw [up2_at, if_neg (fun z => h z.2)]
theorem gxLvT_r (T : SS) (i : Nat) {a : Nat} (h : a < 9 ∨ a = 16) : gxLvT T i a = T a := by
  have e : ∀ X : SS, gxRest X i a = X a := fun X => by
    unfold gxRest
    rw [up2_r _ _ _ _ (by omega), up2_r _ _ _ _ (by omega), up2_r _ _ _ _ (by omega), up2_r _ _ _ _ (by omega)]
  unfold gxLvT
  split
  · split
    · rw [up2_r _ _ _ _ (by omega)]
    · rw [e, up2_r _ _ _ _ (by omega)]
  · rfl
theorem mStT_8 (M : SS) (i : Nat) : mStT M i 8 = M 8 := by
  unfold mStT
  split
  · rfl
  · split
    · rw [up2_r _ _ _ _ (by omega), up2_r _ _ _ _ (by omega)]
    · rw [up2_r _ _ _ _ (by omega)]
section LV
variable {G N : Nat} {S M : SS}
/-- one goat may leave -/
theorem r_lvT {k : Nat} (h : gr G (co S k) (co M k)) : gr G (co (gxLvT S k) k) (co (mStT M k) k) := by
  by_cases h9 : S 9 k = 2
  · obtain ⟨e1, e2, e15, ⟨g, hg, eg⟩, c, c1, c2, e13, e3⟩ := rj_2 h h9
    have h0 := rj_st h
    have h11 := rj_hn h
    have h6 := rj_to h
    obtain ⟨x, x1, x2, ex⟩ := rj_h h
    cases c with
    | zero => omega
    | succ c =>
      have f13 : S 13 k - 1 = nI c := by rw [e13]; exact nI_pred c
      have f3 : M 3 k - 1 = nI c := by rw [e3]; exact nI_pred c
      unfold gxLvT mStT
      rw [if_pos h9, if_neg (fun z => (mIs0 M k 2).mp z (h0.trans h9)), up2_s, up2_s, f13, f3]
      cases c with
      | zero =>
        rw [if_neg (by decide), if_pos (by decide)]
        refine ⟨?_, ?_, ?_, ⟨x, x1, x2, ?_⟩, Or.inl ⟨?_, ?_, ?_, ?_⟩⟩ <;> simp [co, gxRest, up2_at, h11, h6, ex]
      | succ c =>
        rw [if_pos (show (0 : Int32) < nI (c + 1) from (nI_ltI (a := 0) (b := c + 1) (by decide) (by omega)).mpr (by omega)), if_neg (nI_ne0 (n := c + 1) (by omega) (by omega))]
        refine ⟨?_, ?_, ?_, ⟨x, x1, x2, ?_⟩, Or.inr (Or.inr ⟨?_, ?_, ?_, ?_, ⟨g, hg, ?_⟩, ⟨c + 1, by omega, by omega, ?_, ?_⟩⟩)⟩ <;> simp [co, up2_at, h11, h6, ex, h0, h9, e1, e2, e15, eg]
  · unfold gxLvT mStT
    rw [if_neg h9, if_pos ((mIs0 M k 2).mpr (fun z => h9 ((rj_st h).symm.trans z)))]
    exact h
theorem r_lv (h : grs G N S M) : ∀ n, grs G N (gxLv S n) (mSt M n) := by
  intro n
  induction n with
  | zero => exact h
  | succ n ih =>
    intro k hk
    by_cases e : k = n
    · subst e
      exact r_lvT (ih k hk)
    · exact rj_congr (fun a _ _ => gxLvT_k _ e a) (fun a _ => mStT_k _ e a) (ih k hk)
theorem gxLv_r {a : Nat} (h : a < 9 ∨ a = 16) : ∀ n, gxLv S n a = S a := by
  intro n
  induction n with
  | zero => rfl
  | succ n ih => exact (gxLvT_r _ n h).trans ih
theorem mSt_8 : ∀ n, mSt M n 8 = M 8 := by
  intro n
  induction n with
  | zero => rfl
  | succ n ih => exact (mStT_8 _ n).trans ih
end LV
-- who is next waits at the gate
theorem mFst_at {M : SS} {g : Nat} : ∀ n, mFst M g n = -1 ∨ ∃ j, j < n ∧ mFst M g n = nI j ∧ ¬ mAt M j (nI g) = 0 := by
  intro n
  induction n with
  | zero => exact Or.inl rfl
  | succ n ih =>
    have keep : mFst M g n = -1 ∨ ∃ j, j < n + 1 ∧ mFst M g n = nI j ∧ ¬ mAt M j (nI g) = 0 := by
      rcases ih with h | ⟨j, h1, h2⟩
      · exact Or.inl h
      · exact Or.inr ⟨j, by omega, h2⟩
    show (if mAt M n (nI g) = 0 then mFst M g n else (if mFst M g n = -1 then nI n else (if M 7 (mFst M g n).toNatClampNeg ≤ M 7 n then mFst M g n else nI n))) = -1 ∨ ∃ j, j < n + 1 ∧ (if mAt M n (nI g) = 0 then mFst M g n else (if mFst M g n = -1 then nI n else (if M 7 (mFst M g n).toNatClampNeg ≤ M 7 n then mFst M g n else nI n))) = nI j ∧ ¬ mAt M j (nI g) = 0
    split
    · exact keep
    · rename_i hw
      split
      · exact Or.inr ⟨n, by omega, rfl, hw⟩
      · split
        · exact keep
        · exact Or.inr ⟨n, by omega, rfl, hw⟩
theorem mNb_at {M : SS} {fr : Int32} {g : Nat} : ∀ n, mNb M fr g n = -1 ∨ ∃ j, j < n ∧ mNb M fr g n = nI j ∧ ¬ mAt M j (nI g) = 0 := by
  intro n
  induction n with
  | zero => exact Or.inl rfl
  | succ n ih =>
    have keep : mNb M fr g n = -1 ∨ ∃ j, j < n + 1 ∧ mNb M fr g n = nI j ∧ ¬ mAt M j (nI g) = 0 := by
      rcases ih with h | ⟨j, h1, h2⟩
      · exact Or.inl h
      · exact Or.inr ⟨j, by omega, h2⟩
    show (if mAt M n (nI g) = 0 then mNb M fr g n else (if M 2 n ≤ fr then (if mNb M fr g n = -1 then nI n else (if mSeem M (mNb M fr g n).toNatClampNeg < mSeem M n then nI n else (if mSeem M n = mSeem M (mNb M fr g n).toNatClampNeg then (if M 7 (mNb M fr g n).toNatClampNeg ≤ M 7 n then mNb M fr g n else nI n) else mNb M fr g n))) else mNb M fr g n)) = -1 ∨ ∃ j, j < n + 1 ∧ (if mAt M n (nI g) = 0 then mNb M fr g n else (if M 2 n ≤ fr then (if mNb M fr g n = -1 then nI n else (if mSeem M (mNb M fr g n).toNatClampNeg < mSeem M n then nI n else (if mSeem M n = mSeem M (mNb M fr g n).toNatClampNeg then (if M 7 (mNb M fr g n).toNatClampNeg ≤ M 7 n then mNb M fr g n else nI n) else mNb M fr g n))) else mNb M fr g n)) = nI j ∧ ¬ mAt M j (nI g) = 0
    split
    · exact keep
    · rename_i hw
      have me : ∃ j, j < n + 1 ∧ nI n = nI j ∧ ¬ mAt M j (nI g) = 0 := ⟨n, by omega, rfl, hw⟩
      split
      · split
        · exact Or.inr me
        · split
          · exact Or.inr me
          · split
            · split
              · exact keep
              · exact Or.inr me
            · exact keep
      · exact keep
theorem mNx_at {M : SS} {g N : Nat} : mNx M g N = -1 ∨ ∃ j, j < N ∧ mNx M g N = nI j ∧ ¬ mAt M j (nI g) = 0 := by
  unfold mNx
  split
  · unfold mNfR
    split
    · exact Or.inl rfl
    · split
      · exact mFst_at N
      · exact Or.inl rfl
  · exact mNb_at N
theorem mAt_1 {M : SS} {k : Nat} {g : Int32} (h : ¬ mAt M k g = 0) : M 0 k = 1 ∧ M 1 k = g := by
  unfold mAt at h
  by_cases h0 : mIs M k 1 = 0
  · rw [if_pos h0] at h; exact absurd rfl h
  · rw [if_neg h0] at h
    by_cases h1 : M 1 k = g
    · exact ⟨Classical.byContradiction (fun z => h0 ((mIs0 M k 1).mpr z)), h1⟩
    · rw [if_neg h1] at h; exact absurd rfl h
/-- how many wait -/
def mCt (M : SS) : Nat → Nat
  | 0 => 0
  | n + 1 => mCt M n + (if M 0 n = 1 then 1 else 0)
theorem mCt_le (M : SS) : ∀ n, mCt M n ≤ n := by
  intro n
  induction n with
  | zero => exact Nat.le_refl 0
  | succ n ih =>
    show mCt M n + (if M 0 n = 1 then 1 else 0) ≤ n + 1
    split <;> omega
theorem mCt_congr {M X : SS} : ∀ n, (∀ k, k < n → X 0 k = M 0 k) → mCt X n = mCt M n := by
  intro n
  induction n with
  | zero => intro _; rfl
  | succ n ih =>
    intro h
    show mCt X n + (if X 0 n = 1 then 1 else 0) = mCt M n + (if M 0 n = 1 then 1 else 0)
    rw [ih (fun k hk => h k (by omega)), h n (by omega)]
theorem mCt_dec {M X : SS} {j : Nat} (h1 : M 0 j = 1) (hx : X 0 j = 2) (ho : ∀ k, k ≠ j → X 0 k = M 0 k) : ∀ n, j < n → mCt X n + 1 = mCt M n := by
  intro n
  induction n with
  | zero => intro h; omega
  | succ n ih =>
    intro h
    show mCt X n + (if X 0 n = 1 then 1 else 0) + 1 = mCt M n + (if M 0 n = 1 then 1 else 0)
    by_cases e : j = n
    · subst e
      rw [mCt_congr j (fun k hk => ho k (by omega)), hx, h1, if_neg (by decide), if_pos rfl]
    · have := ih (by omega)
      rw [ho n (by omega)]
      omega
theorem mOpS_at (M : SS) (g N : Nat) {j : Nat} (h : mNx M g N = nI j) (hj : j < 12) (a k : Nat) (ha : a < 8) : mOpS M g N a k = if a = 0 ∧ k = j then 2 else M a k := by
  unfold mOpS
  rw [h, cl_nI hj, up2_at, if_neg (by omega), up2_at]
theorem mOpI_ct {M : SS} {g N : Nat} (hN : N ≤ 12) : ∀ i, (∀ x, x < i → ¬ mNx (mOpI M g N x) g N = -1) → mCt (mOpI M g N i) N + i = mCt M N := by
  intro i
  induction i with
  | zero => intro _; rfl
  | succ i ih =>
    intro h
    have e := ih (fun x hx => h x (by omega))
    rcases mNx_at (M := mOpI M g N i) (g := g) (N := N) with hn | ⟨j, h1, h2, h3⟩
    · exact absurd hn (h i (by omega))
    · have := mCt_dec (M := mOpI M g N i) (X := mOpS (mOpI M g N i) g N) (j := j) (mAt_1 h3).1 (by rw [mOpS_at _ g N h2 (by omega) _ _ (by omega), if_pos ⟨rfl, rfl⟩]) (fun k hk => by rw [mOpS_at _ g N h2 (by omega) _ _ (by omega), if_neg (fun z => hk z.2)]) N h1
      show mCt (mOpS (mOpI M g N i) g N) N + (i + 1) = mCt M N
      omega
theorem mOpN_no {M : SS} {g N i : Nat} (h : i < mOpN M g N) : ¬ mNx (mOpI M g N i) g N = -1 := of_decide_eq_false (gxF_no (fun i => decide (mNx (mOpI M g N i) g N = -1)) 13 i h)
theorem mOpN_le {M : SS} {g N : Nat} (hN : N ≤ 12) : mOpN M g N ≤ N := by
  have h := mOpI_ct (M := M) (g := g) hN (mOpN M g N) (fun x hx => mOpN_no hx)
  have := mCt_le M N
  omega
theorem mOpN_lt {N : Nat} (hN : N ≤ 12) (X : SS) (g : Nat) : mOpN X g N < 13 := by
  have := mOpN_le (M := X) (g := g) hN
  omega
theorem mOpN_yes {M : SS} {g N : Nat} (hN : N ≤ 12) : mNx (mOpI M g N (mOpN M g N)) g N = -1 := of_decide_eq_true (gxF_yes (fun i => decide (mNx (mOpI M g N i) g N = -1)) 13 (mOpN_lt hN M g))
section LI
variable {G N : Nat} {S M : SS}
/-- what goes along: the minute, the let in, the turns -/
def hd3 (S M : SS) : Prop := M 8 0 = S 0 0 ∧ M 8 1 = S 0 4 ∧ M 8 3 = S 0 3
theorem gxLiS_at (T : SS) (g N : Nat) {j : Nat} (h : gxFiR T g N = nI j) (hj : j < 12) (a k : Nat) : gxLiS T g N a k = if a = 0 ∧ k = 4 then T 0 4 + 1 else (if k = j then (if a = 9 then 2 else if a = 10 then nI g else if a = 11 then T 11 j else if a = 13 then T 12 j else if a = 15 then 0 else T a k) else T a k) := by
  unfold gxLiS gxEnt
  rw [h, cl_nI hj]
  simp only [up2_at]
  by_cases h0 : a = 0
  · subst h0; simp
  · by_cases hk : k = j
    · subst hk
      simp only [h0, false_and, if_false, and_true, if_true]
      by_cases h9 : a = 9
      · subst h9; simp
      · by_cases h10 : a = 10
        · subst h10; simp
        · by_cases h11 : a = 11
          · subst h11; simp
          · by_cases h13 : a = 13
            · subst h13; simp
            · by_cases h15 : a = 15
              · subst h15; simp
              · simp [h9, h10, h11, h13, h15]
    · simp [h0, hk]
theorem r_liS (h : grs G N S M) (hN : N ≤ 12) {g j : Nat} (hgG : g < G) (hS : gxFiR S g N = nI j) (hM : mNx M g N = nI j) (hj : j < N) (hw : ¬ mAt M j (nI g) = 0) : grs G N (gxLiS S g N) (mOpS M g N) := by
  intro k hk
  by_cases e : k = j
  · subst e
    have hk' := h k hk
    have hw' : ¬ gxWt S k (nI g) = 0 := by rw [← rj_wt hk']; exact hw
    obtain ⟨h9, h10⟩ := gxWt_1 hw'
    obtain ⟨e1, e2, e3, e7, _, a, b, c, c1, c2, c3, c4, f1, f2, f3, f4, f5⟩ := rj_1 hk' h9
    obtain ⟨x, x1, x2, ex⟩ := rj_h hk'
    have h6 := rj_to hk'
    have h11 := rj_hn hk'
    have m0 : ∀ a, a < 8 → mOpS M g N a k = if a = 0 ∧ k = k then 2 else M a k := fun a ha => mOpS_at M g N hM (by omega) a k ha
    have m11 : mOpS M g N 11 k = M 11 k := by rw [mOpS_r _ _ _ (by omega)]
    have s0 := fun a => gxLiS_at S g N hS (by omega) a k
    refine ⟨?_, ?_, ?_, ⟨x, x1, x2, ?_⟩, Or.inr (Or.inr ⟨?_, ?_, ?_, ?_, ⟨g, hgG, ?_⟩, ⟨c, c3, c4, ?_, ?_⟩⟩)⟩ <;> simp [co, m0, m11, s0, h6, h11, ex, e1, e2, e3, h10, f5]
  · refine rj_congr (s := co S k) (m := co M k) (fun a h1 h2 => ?_) (fun a ha => ?_) (h k hk)
    · show gxLiS S g N a k = S a k
      rw [gxLiS_at S g N hS (by omega), if_neg (by omega), if_neg e]
    · show mOpS M g N a k = M a k
      rcases ha with ha | ha
      · rw [mOpS_at M g N hM (by omega) a k ha, if_neg (fun z => e z.2)]
      · subst ha
        rw [mOpS_r _ _ _ (by omega)]
theorem gxLiS_r (T : SS) (g N : Nat) {a : Nat} (h1 : 0 < a) (h2 : a < 9) : gxLiS T g N a = T a := by
  unfold gxLiS gxEnt
  rw [up2_r _ _ _ _ (by omega), up2_r _ _ _ _ (by omega), up2_r _ _ _ _ (by omega), up2_r _ _ _ _ (by omega), up2_r _ _ _ _ (by omega), up2_r _ _ _ _ (by omega)]
theorem gxLiI_r (T : SS) (g N : Nat) {a : Nat} (h1 : 0 < a) (h2 : a < 9) : ∀ i, gxLiI T g N i a = T a := by
  intro i
  induction i with
  | zero => rfl
  | succ i ih => exact (gxLiS_r _ g N h1 h2).trans ih
theorem r_liI (h : grs G N S M) (hg : gts G S M) (hN : N ≤ 12) {g : Nat} (hgG : g < G) : ∀ i, i ≤ mOpN M g N → grs G N (gxLiI S g N i) (mOpI M g N i) ∧ gts G (gxLiI S g N i) (mOpI M g N i) := by
  intro i
  induction i with
  | zero => intro _; exact ⟨h, hg⟩
  | succ i ih =>
    intro hi
    obtain ⟨h1, h2⟩ := ih (by omega)
    have hn := r_nx h1 h2 hN hgG
    rcases mNx_at (M := mOpI M g N i) (g := g) (N := N) with hx | ⟨j, hj, e, hw⟩
    · exact absurd hx (mOpN_no (by omega))
    · exact ⟨r_liS h1 hN hgG (hn.symm.trans e) e hj hw, gts_congr (fun a ha => gxLiS_r _ g N (by omega) (by omega)) (fun a ha => mOpS_r _ g N (by omega)) h2⟩
theorem r_liK (h : grs G N S M) (hg : gts G S M) (hN : N ≤ 12) {g : Nat} (hgG : g < G) : gxLiK g N N S = mOpN M g N := by
  have hle := mOpN_le (M := M) (g := g) hN
  have hle2 := gxLiK_le g N N S
  have rel := r_liI h hg hN hgG
  rcases Nat.lt_trichotomy (gxLiK g N N S) (mOpN M g N) with hlt | heq | hgt
  · exfalso
    obtain ⟨h1, h2⟩ := rel _ (Nat.le_of_lt hlt)
    have hy := gxLiK_yes (g := g) (N := N) N S (by omega)
    rw [← r_nx h1 h2 hN hgG] at hy
    rcases mNx_at (M := mOpI M g N (gxLiK g N N S)) (g := g) (N := N) with hx | ⟨j, hj, e, _⟩
    · exact mOpN_no hlt hx
    · rw [e] at hy; exact nI_pos (by omega) hy
  · exact heq
  · exfalso
    obtain ⟨h1, h2⟩ := rel _ (Nat.le_refl _)
    have hy := gxLiK_no N S _ hgt
    rw [← r_nx h1 h2 hN hgG, mOpN_yes hN] at hy
    exact hy m1_neg
theorem r_liF (h : grs G N S M) (hg : gts G S M) (hN : N ≤ 12) {g : Nat} (hgG : g < G) : grs G N (gxLiF S g N) (mOpF M g N) ∧ gts G (gxLiF S g N) (mOpF M g N) := by
  unfold gxLiF mOpF
  rw [r_liK h hg hN hgG]
  exact r_liI h hg hN hgG _ (Nat.le_refl _)
theorem liI_hd (hh : hd3 S M) (g : Nat) : ∀ i, hd3 (gxLiI S g N i) (mOpI M g N i) := by
  intro i
  induction i with
  | zero => exact hh
  | succ i ih =>
    obtain ⟨a, b, c⟩ := ih
    refine ⟨?_, ?_, ?_⟩
    · show mOpS (mOpI M g N i) g N 8 0 = gxLiS (gxLiI S g N i) g N 0 0
      rw [gxLiS_0 _ _ _ (by decide), ← a]
      rfl
    · show mOpS (mOpI M g N i) g N 8 1 = gxLiS (gxLiI S g N i) g N 0 4
      unfold mOpS gxLiS
      rw [up2_s, up2_s, b]
    · show mOpS (mOpI M g N i) g N 8 3 = gxLiS (gxLiI S g N i) g N 0 3
      rw [gxLiS_0 _ _ _ (by decide), ← c]
      rfl
theorem r_op (h : grs G N S M) (hg : gts G S M) (hh : hd3 S M) (hN : N ≤ 12) : ∀ n, n ≤ G → grs G N (gxLg S N n) (mOp M N n) ∧ gts G (gxLg S N n) (mOp M N n) ∧ hd3 (gxLg S N n) (mOp M N n) := by
  intro n
  induction n with
  | zero =>
    intro _
    refine ⟨r_lv h N, gts_congr (fun a ha => gxLv_r (by omega) N) (fun a ha => mSt_r M (by omega) N) hg, ?_⟩
    obtain ⟨a, b, c⟩ := hh
    show hd3 (gxLv S N) (mSt M N)
    unfold hd3
    rw [mSt_8, gxLv_0]
    exact ⟨a, b, c⟩
  | succ n ih =>
    intro hn
    obtain ⟨h1, h2, h3⟩ := ih (by omega)
    obtain ⟨h4, h5⟩ := r_liF h1 h2 hN (show n < G by omega)
    refine ⟨h4, h5, ?_⟩
    show hd3 (gxLiF (gxLg S N n) n N) (mOpF (mOp M N n) n N)
    unfold gxLiF mOpF
    rw [r_liK h1 h2 hN (show n < G by omega)]
    exact liI_hd h3 n _
end LI
