/-! The answers agree. -/
section QR
variable {G N : Nat} {S M : SS}
theorem rel_gu (h : Rel G N S M) {j : Nat} (p o : Int32) (ho : o = 0 ∨ o = 1) : Rel G N (gxGuS S j p o) (up2 (up2 M 9 j p) 10 j o) := by
  obtain ⟨h1, h2, h3, h4⟩ := h
  refine ⟨fun k hk => rj_congr (fun a a1 a2 => ?_) (fun a ha => ?_) (h1 k hk), ?_, ?_, ?_⟩
  · show gxGuS S j p o a k = S a k
    unfold gxGuS
    rw [up2_at, if_neg (by omega), up2_at, if_neg (by omega)]
  · show up2 (up2 M 9 j p) 10 j o a k = M a k
    rw [up2_at, if_neg (by omega), up2_at, if_neg (by omega)]
  · intro g hg
    obtain ⟨b1, b2, b3⟩ := h2 g hg
    unfold gxGuS
    simp only [up2_at]
    by_cases e : g = j
    · subst e; simp [ho]
    · simp [e, b1, b2, b3]
  · exact h3
  · rw [giv_congr (S := gxGuS S j p o) (T := S) (fun g _ => rfl)]
    exact h4
theorem gxWat_n (S : SS) (g : Int32) : ∀ n, ∃ c, c ≤ n ∧ gxWat S g n = nI c ∧ (c = 0 → ∀ k, k < n → gxWt S k g = 0) := by
  intro n
  induction n with
  | zero => exact ⟨0, Nat.le_refl 0, rfl, fun _ k hk => by omega⟩
  | succ n ih =>
    obtain ⟨c, h1, h2, h3⟩ := ih
    have e : gxWat S g (n + 1) = if gxWt S n g = 0 then gxWat S g n else gxWat S g n + 1 := rfl
    rw [e]
    by_cases hw : gxWt S n g = 0
    · rw [if_pos hw]
      refine ⟨c, by omega, h2, fun hc k hk => ?_⟩
      by_cases hkn : k = n
      · rw [hkn]; exact hw
      · exact h3 hc k (by omega)
    · rw [if_neg hw, h2, nI_1]
      exact ⟨c + 1, by omega, rfl, fun hc => by omega⟩
theorem r_still (h : Rel G N S M) (hN : N ≤ 12) (hG4 : G ≤ 4) {j : Nat} (hj : j < G) (hz : ∀ k, k < N → mAt M k (nI j) = 0) : ∀ n, gxIt S G N n 7 j = S 7 j ∧ ∀ k, k < N → mAt (mIt M G N n) k (nI j) = 0 := by
  intro n
  induction n with
  | zero => exact ⟨rfl, hz⟩
  | succ n ih =>
    obtain ⟨i1, i2⟩ := ih
    have hr := r_it h hN hG4 n
    constructor
    · show gxMin (gxIt S G N n) G N 7 j = _
      rw [r_give hr hN hG4 hj, i1, isum_no N (fun k hk => if_pos (i2 k hk)), Int32.add_zero]
    · intro k hk
      obtain ⟨q1, q2, _⟩ := mMin_st (G := G) (M := mIt M G N n) hN hk
      by_cases z : mAt (mIt M G N (n + 1)) k (nI j) = 0
      · exact z
      · obtain ⟨z0, z1⟩ := mAt_1 z
        have y := i2 k hk
        unfold mAt at y
        rw [if_neg (fun u => (mIs0 _ k 1).mp u (q2 z0)), if_pos (q1.symm.trans z1)] at y
        exact absurd y (by decide)
theorem gxIt_add (S : SS) (G N a : Nat) : ∀ b, gxIt (gxIt S G N a) G N b = gxIt S G N (a + b) := by
  intro b
  induction b with
  | zero => rfl
  | succ b ih =>
    show gxMin (gxIt (gxIt S G N a) G N b) G N = gxMin (gxIt S G N (a + b)) G N
    rw [ih]
theorem r_gu (h : Rel G N S M) (hN : N ≤ 12) (hG4 : G ≤ 4) {j : Nat} (hj : j < G) (p o : Int32) (ho : o = 0 ∨ o = 1) : gxGu S G N j p o = mLost (up2 (up2 M 9 j p) 10 j o) G N j := by
  have hr := rel_gu (j := j) h p o ho
  have e7 : gxGuS S j p o 7 j = S 7 j := rfl
  have e60 : gxGuT S G N j p o 7 j = gxIt (gxGuS S j p o) G N 60 7 j := by
    unfold gxGuT
    have hle : gxGuN S G N j p o ≤ 60 := gxF_le _ 60
    rcases Nat.lt_or_ge (gxGuN S G N j p o) 60 with hlt | hge
    · have hy : gxWat (gxIt (gxGuS S j p o) G N (gxGuN S G N j p o)) (nI j) N ≤ 0 := of_decide_eq_true (gxF_yes (fun i => decide (gxWat (gxIt (gxGuS S j p o) G N i) (nI j) N ≤ 0)) 60 hlt)
      obtain ⟨c, c1, c2, c3⟩ := gxWat_n (gxIt (gxGuS S j p o) G N (gxGuN S G N j p o)) (nI j) N
      rw [c2] at hy
      have c0 : c = 0 := by
        rcases Nat.eq_zero_or_pos c with z | z
        · exact z
        · exact absurd hy (nI_nle z (by omega))
      have hr2 := r_it hr hN hG4 (gxGuN S G N j p o)
      have key := (r_still hr2 hN hG4 hj (fun k hk => by rw [rj_wt (hr2.1 k hk)]; exact c3 c0 k hk) (60 - gxGuN S G N j p o)).1
      rw [gxIt_add, show gxGuN S G N j p o + (60 - gxGuN S G N j p o) = 60 by omega] at key
      exact key.symm
    · rw [show gxGuN S G N j p o = 60 by omega]
  unfold gxGu mLost
  rw [e60, (r_lo hr hN hG4 hj 60).1, e7, Int32.add_comm, Int32.add_sub_cancel]
theorem mWm_s (M : SS) (g : Nat) : ∀ i, mWm M g (i + 1) = up2 M 9 g (M 9 g + nI i) := by
  intro i
  induction i with
  | zero => rfl
  | succ i ih =>
    have e : mWm M g (i + 1 + 1) = up2 (mWm M g (i + 1)) 9 g (M 9 g + nI (i + 1)) := by rw [mWm]
    rw [e, ih, up2_up2]
theorem r_pw (h : Rel G N S M) (hN : N ≤ 12) (hG4 : G ≤ 4) {j : Nat} (hj : j < G) : gxPw S G N j = mWan M G N j := by
  obtain ⟨h5, h6, h7⟩ := h.2.1 j hj
  have eN : gxPwN S G N j = mWf M G N j := by
    have ef : (fun i => decide (gxGu S G N j (S 5 j + nI i) (S 6 j) = 0)) = (fun i => decide (mLost (mWm M j (i + 1)) G N j = 0)) := by
      funext i
      have e10 : up2 (up2 M 9 j (M 9 j + nI i)) 10 j (up2 M 9 j (M 9 j + nI i) 10 j) = up2 M 9 j (M 9 j + nI i) := up2_id _ 10 j
      have e10' : up2 M 9 j (M 9 j + nI i) 10 j = M 10 j := by rw [up2_r _ _ _ _ (by omega)]
      rw [e10'] at e10
      rw [r_gu h hN hG4 hj _ _ h7, mWm_s, ← h6, ← h5, e10]
    unfold gxPwN mWf
    rw [ef]
  have hle : mWf M G N j ≤ 10 := gxF_le _ 10
  unfold gxPw mWan mWn
  rw [eN]
  by_cases hf : mWf M G N j < 10
  · rw [if_pos hf, if_pos hf]
    show _ = if mLost (mWm M j (mWf M G N j + 1)) G N j = 0 then nI (mWf M G N j) else mWb M G N j (mWf M G N j)
    rw [if_pos (mWf_yes hf)]
  · rw [if_neg hf, if_neg hf, mWb_m1 10 (by omega)]
theorem r_bo (h : Rel G N S M) (hN : N ≤ 12) (hG4 : G ≤ 4) {j : Nat} (hj : j < G) : gxBo S G N j = mBet M G N j := by
  obtain ⟨h5, _, _⟩ := h.2.1 j hj
  unfold gxBo mBet
  rw [r_gu h hN hG4 hj _ 0 (Or.inl rfl), r_gu h hN hG4 hj _ 1 (Or.inr rfl), ← h5, up2_id]
-- until when a goat waits
theorem mSt_5 (M : SS) : ∀ n, mSt M n 5 = M 5 := by
  intro n
  induction n with
  | zero => rfl
  | succ n ih =>
    refine Eq.trans ?_ ih
    show mStT (mSt M n) n 5 = mSt M n 5
    unfold mStT
    split
    · rfl
    · split
      · rfl
      · rfl
theorem mOpI_5 (M : SS) (g N : Nat) : ∀ i, mOpI M g N i 5 = M 5 := by
  intro i
  induction i with
  | zero => rfl
  | succ i ih => exact ih
theorem mOp_5 (M : SS) (N : Nat) : ∀ n, mOp M N n 5 = M 5 := by
  intro n
  induction n with
  | zero => exact mSt_5 M N
  | succ n ih => exact (mOpI_5 _ n N _).trans ih
theorem mMin_5 (hN : N ≤ 12) {k : Nat} (hk : k < N) (h : mMin M G N 0 k = 1) : mMin M G N 5 k = M 5 k + 1 := by
  obtain ⟨_, _, w0, _⟩ := mMin_st (G := G) (M := M) hN hk
  have h1 : mOp M N G 0 k = 1 := by
    by_cases z : mOp M N G 0 k = 1
    · exact z
    · exact (w0 z).symm.trans h
  have e : mMin M G N 5 k = wc (co (mOp M N G) k) 5 := by
    unfold mMin
    rw [up2_at, if_neg (by omega)]
    show mWa (mOp M N G) N 5 k = _
    rw [mWa_col _ _ _ _ (by omega), if_pos hk]
  rw [e]
  unfold wc
  rw [if_pos (show co (mOp M N G) k 0 = 1 from h1), if_pos rfl]
  show mOp M N G 5 k + 1 = M 5 k + 1
  rw [mOp_5]
theorem mIt_5 (hN : N ≤ 12) {k : Nat} (hk : k < N) : ∀ n, (∀ i, i ≤ n → mIt M G N i 0 k = 1) → mIt M G N n 5 k = M 5 k + nI n := by
  intro n
  induction n with
  | zero => intro _; exact (Int32.add_zero _).symm
  | succ n ih =>
    intro h
    show mMin (mIt M G N n) G N 5 k = _
    rw [mMin_5 hN hk (h (n + 1) (Nat.le_refl _)), ih (fun i hi => h i (by omega)), Int32.add_assoc, nI_1]
theorem r_hu (h : Rel G N S M) (hN : N ≤ 12) (hG4 : G ≤ 4) {k : Nat} (hk : k < N) : mUnN M G N k < 61 := by
  rcases Nat.lt_or_ge (mUnN M G N k) 61 with hlt | hge
  · exact hlt
  · exfalso
    have hw : ∀ i, i ≤ 60 → mIt M G N i 0 k = 1 := by
      intro i hi
      have := of_decide_eq_false (gxF_no (fun i => decide (mIs (mIt M G N i) k 1 = 0)) 61 i (by show i < mUnN M G N k; omega))
      exact Classical.byContradiction (fun z => this ((mIs0 _ k 1).mpr z))
    have e := mIt_5 (G := G) (M := M) hN hk 60 hw
    have h0 := h.1 k hk
    have h6 := (r_it h hN hG4 60).1 k hk
    obtain ⟨_, _, _, _, _, a, b, c, c1, c2, _, _, _, f2, _⟩ := rj_1 h0 ((rj_st h0).symm.trans (hw 0 (by omega)))
    obtain ⟨_, _, _, _, _, a', b', c', d1, d2, _, _, _, g2, _⟩ := rj_1 h6 ((rj_st h6).symm.trans (hw 60 (by omega)))
    rw [f2, g2, nI_add] at e
    have := (nI_eq (by omega) (by omega)).mp e
    omega
theorem r_un (h : Rel G N S M) (hN : N ≤ 12) (hG4 : G ≤ 4) {k : Nat} (hk : k < N) : gxUn S G N k = mUn M G N k := by
  have hu := r_hu h hN hG4 hk
  have ep : (fun i => decide (gxIt S G N i 9 k ≠ 1)) = (fun i => decide (mIs (mIt M G N i) k 1 = 0)) := by
    funext i
    apply decide_eq_decide.mpr
    rw [mIs0, rj_st ((r_it h hN hG4 i).1 k hk)]
  have eN : gxUnN S G N k = mUnN M G N k := by
    unfold gxUnN
    rw [ep]
    unfold mUnN at hu ⊢
    generalize (fun i => decide (mIs (mIt M G N i) k 1 = 0)) = p at hu ⊢
    have e61 : gxF p 61 = if gxF p 60 < 60 then gxF p 60 else (if p 60 = true then 60 else 61) := rfl
    have hle := gxF_le p 60
    rw [e61] at hu ⊢
    by_cases h1 : gxF p 60 < 60
    · rw [if_pos h1]
    · rw [if_neg h1] at hu ⊢
      by_cases h2 : p 60 = true
      · rw [if_pos h2]; omega
      · rw [if_neg h2] at hu; omega
  have h0 := h.1 k hk
  unfold gxUn mUn mUnR
  rw [eN]
  by_cases h9 : S 9 k = 1
  · have hn : 0 < mUnN M G N k := by
      rcases Nat.eq_zero_or_pos (mUnN M G N k) with z | z
      · exfalso
        have hy := of_decide_eq_true (gxF_yes (fun i => decide (mIs (mIt M G N i) k 1 = 0)) 61 (show mUnN M G N k < 61 by omega))
        have hy' : mIs (mIt M G N (mUnN M G N k)) k 1 = 0 := hy
        rw [z] at hy'
        exact (mIs0 M k 1).mp hy' ((rj_st h0).trans h9)
      · exact z
    rw [if_neg (nI_nle hn (by omega)), if_neg (fun z => (mIs0 M k 1).mp z ((rj_st h0).trans h9))]
    have hx := (r_it h hN hG4 (mUnN M G N k)).1 k hk
    by_cases h2 : gxIt S G N (mUnN M G N k) 9 k = 2
    · rw [if_pos h2, if_neg (fun z => (mIs0 _ k 2).mp z ((rj_st hx).trans h2))]
    · rw [if_neg h2, if_pos ((mIs0 _ k 2).mpr (fun z => h2 ((rj_st hx).symm.trans z)))]
  · have hn : mUnN M G N k = 0 := by
      rcases Nat.eq_zero_or_pos (mUnN M G N k) with z | z
      · exact z
      · exfalso
        have hy := of_decide_eq_false (gxF_no (fun i => decide (mIs (mIt M G N i) k 1 = 0)) 61 0 z)
        exact hy ((mIs0 M k 1).mpr (fun y => h9 ((rj_st h0).symm.trans y)))
    rw [hn, if_pos (by decide), if_pos ((mIs0 M k 1).mpr (fun y => h9 ((rj_st h0).symm.trans y)))]
-- the other answers
theorem ifadd {q : Prop} [Decidable q] (c : Int32) : c + (if q then 0 else 1) = if q then c else c + 1 := by
  split
  · exact Int32.add_zero _
  · rfl
theorem r_cnt (h : grs G N S M) (w : Int32) : ∀ n, n ≤ N → mMany M w n = gxCnt S w n := by
  intro n
  induction n with
  | zero => intro _; rfl
  | succ n ih =>
    intro hn
    show mMany M w n + (if mIs M n w = 0 then 0 else 1) = if S 9 n = w then gxCnt S w n + 1 else gxCnt S w n
    rw [ih (by omega), ifadd]
    have e := rj_st (h n (by omega))
    by_cases h9 : S 9 n = w
    · rw [if_pos h9, if_neg (fun z => (mIs0 M n w).mp z (e.trans h9))]
    · rw [if_neg h9, if_pos ((mIs0 M n w).mpr (fun z => h9 (e.symm.trans z)))]
theorem r_stv (h : grs G N S M) : ∀ n, n ≤ N → mStv M n = gxStv S n := by
  intro n
  induction n with
  | zero => intro _; rfl
  | succ n ih =>
    intro hn
    have hk := h n (by omega)
    show mStv M n + (if mIs M n 1 = 0 then 0 else (if M 5 n ≤ 7 then 0 else 1)) = if S 9 n = 1 then (if S 15 n < 8 then gxStv S n else gxStv S n + 1) else gxStv S n
    rw [ih (by omega)]
    by_cases h9 : S 9 n = 1
    · rw [if_pos h9, if_neg (fun z => (mIs0 M n 1).mp z ((rj_st hk).trans h9)), ifadd]
      obtain ⟨_, _, _, _, _, a, b, c, c1, c2, _, _, f1, f2, _⟩ := rj_1 hk h9
      rw [f1, f2]
      have e8 : (nI a < 8) ↔ a < 8 := nI_ltI (b := 8) (by omega) (by decide)
      have e7 : (nI a ≤ 7) ↔ a ≤ 7 := nI_leI (b := 7) (by omega) (by decide)
      by_cases ha : a < 8
      · rw [if_pos (e8.mpr ha), if_pos (e7.mpr (by omega))]
      · rw [if_neg (fun z => ha (e8.mp z)), if_neg (fun z => ha (by have := e7.mp z; omega))]
    · rw [if_neg h9, if_pos ((mIs0 M n 1).mpr (fun z => h9 ((rj_st hk).symm.trans z))), Int32.add_zero]
theorem r_wat (h : grs G N S M) (g : Int32) : ∀ n, n ≤ N → mMat M g n = gxWat S g n := by
  intro n
  induction n with
  | zero => intro _; rfl
  | succ n ih =>
    intro hn
    show mMat M g n + (if mAt M n g = 0 then 0 else 1) = if gxWt S n g = 0 then gxWat S g n else gxWat S g n + 1
    rw [ih (by omega), ifadd, rj_wt (h n (by omega))]
theorem r_sum (h : grs G N S M) : ∀ n, n ≤ N → mSum M n = gxSum S n := by
  intro n
  induction n with
  | zero => intro _; rfl
  | succ n ih =>
    intro hn
    show mSum M n + M 6 n = gxSum S n + S 16 n
    rw [ih (by omega), rj_to (h n (by omega))]
theorem r_pl (h : grs G N S M) {k : Nat} (hk : k < N) : mPl M N k = gxPl S N k := by
  have h0 := h k hk
  unfold mPl gxPl
  by_cases h9 : S 9 k = 1
  · rw [if_pos h9, if_neg (fun z => (mIs0 M k 1).mp z ((rj_st h0).trans h9))]
    obtain ⟨e1, _, _, e7, _⟩ := rj_1 h0 h9
    have key : ∀ n, n ≤ N → mPlL M k n = gxAhd S k n := by
      intro n
      induction n with
      | zero => intro _; rfl
      | succ n ih =>
        intro hn
        have hn' := h n (by omega)
        show mPlL M k n + (if mAt M n (M 1 k) = 0 then 0 else (if M 7 k ≤ M 7 n then 0 else 1)) = if gxWt S n (S 10 k) = 0 then gxAhd S k n else (if S 14 k ≤ S 14 n then gxAhd S k n else gxAhd S k n + 1)
        rw [ih (by omega), e1, rj_wt hn']
        by_cases hw : gxWt S n (S 10 k) = 0
        · rw [if_pos hw, if_pos hw, Int32.add_zero]
        · rw [if_neg hw, if_neg hw, ifadd, e7, (rj_1 hn' (gxWt_1 hw).1).2.2.2.1]
    exact key N (Nat.le_refl N)
  · rw [if_neg h9, if_pos ((mIs0 M k 1).mpr (fun z => h9 ((rj_st h0).symm.trans z)))]
theorem r_held {k : Nat} (h : gr G (co S k) (co M k)) : mHeld M k = gxHeld S k := by
  unfold mHeld gxHeld
  by_cases h9 : S 9 k = 2
  · rw [if_pos h9, if_neg (fun z => (mIs0 M k 2).mp z ((rj_st h).trans h9)), (rj_2 h h9).2.1]
  · rw [if_neg h9, if_pos ((mIs0 M k 2).mpr (fun z => h9 ((rj_st h).symm.trans z)))]
theorem r_where {k : Nat} (h : gr G (co S k) (co M k)) : mWhere M k = S 10 k := by
  unfold mWhere
  rcases rj_z h with h9 | h9 | h9
  · rw [if_neg (fun z => (mIs0 M k 0).mp z ((rj_st h).trans h9)), (rj_0 h h9).1]
  · rw [if_pos ((mIs0 M k 0).mpr (fun z => n01 ((rj_st h).symm.trans z) h9)), (rj_1 h h9).1]
  · rw [if_pos ((mIs0 M k 0).mpr (fun z => n02 ((rj_st h).symm.trans z) h9)), (rj_2 h h9).1]
theorem nI_sub {a b : Nat} (h : a ≤ b) : nI b - nI a = nI (b - a) := by
  rw [Int32.sub_eq_iff_eq_add, nI_add, show b - a + a = b by omega]
theorem r_left {k : Nat} (h : gr G (co S k) (co M k)) : mLeft M k = S 13 k := by
  unfold mLeft
  rcases rj_z h with h9 | h9 | h9
  · rw [if_pos ((mIs0 M k 1).mpr (fun z => n01 h9 ((rj_st h).symm.trans z))), if_pos ((mIs0 M k 2).mpr (fun z => n02 h9 ((rj_st h).symm.trans z))), (rj_0 h h9).2.1]
  · obtain ⟨_, _, _, _, _, a, b, c, c1, _, _, _, _, f2, f3, f4, _⟩ := rj_1 h h9
    rw [if_neg (fun z => (mIs0 M k 1).mp z ((rj_st h).trans h9)), f2, f3, f4, nI_sub (by omega)]
  · obtain ⟨_, _, _, _, c, _, _, f1, f2⟩ := rj_2 h h9
    rw [if_pos ((mIs0 M k 1).mpr (fun z => n12 ((rj_st h).symm.trans z) h9)), if_neg (fun z => (mIs0 M k 2).mp z ((rj_st h).trans h9)), f1, f2]
end QR
