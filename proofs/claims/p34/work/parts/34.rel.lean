/-! What would be: how many give up at a gate. -/
-- one minute of the reference, goat by goat: who waits after it has waited before it, at the same gate
theorem mStT_st (M : SS) (i k : Nat) : (mStT M i 0 k = 1 ↔ M 0 k = 1) ∧ mStT M i 1 k = M 1 k := by
  by_cases hk : k = i
  · subst hk
    unfold mStT
    by_cases h : M 0 k = 2
    · rw [if_neg (fun z => (mIs0 M k 2).mp z h)]
      split
      · refine ⟨⟨fun z => ?_, fun z => (n12 z h).elim⟩, ?_⟩
        · rw [up2_s] at z; exact absurd z (by decide)
        · rw [up2_at, if_neg (by omega), up2_at, if_neg (by omega)]
      · refine ⟨?_, ?_⟩
        · rw [up2_at, if_neg (by omega)]
        · rw [up2_at, if_neg (by omega)]
    · rw [if_pos ((mIs0 M k 2).mpr h)]
      exact ⟨Iff.rfl, rfl⟩
  · rw [mStT_k M hk, mStT_k M hk]
    exact ⟨Iff.rfl, rfl⟩
theorem mSt_st (M : SS) (k : Nat) : ∀ n, (mSt M n 0 k = 1 ↔ M 0 k = 1) ∧ mSt M n 1 k = M 1 k := by
  intro n
  induction n with
  | zero => exact ⟨Iff.rfl, rfl⟩
  | succ n ih => exact ⟨(mStT_st _ n k).1.trans ih.1, (mStT_st _ n k).2.trans ih.2⟩
/-- let in or not: X is M, or some who waited are inside -/
def lin (M X : SS) : Prop := ∀ k, X 1 k = M 1 k ∧ (X 0 k = M 0 k ∨ (M 0 k = 1 ∧ X 0 k = 2))
theorem lin_rfl (M : SS) : lin M M := fun _ => ⟨rfl, Or.inl rfl⟩
theorem lin_trans {M X Y : SS} (h1 : lin M X) (h2 : lin X Y) : lin M Y := by
  intro k
  obtain ⟨a1, b1⟩ := h1 k
  obtain ⟨a2, b2⟩ := h2 k
  refine ⟨a2.trans a1, ?_⟩
  rcases b2 with b2 | ⟨b2, b3⟩
  · rcases b1 with b1 | ⟨b1, b4⟩
    · exact Or.inl (b2.trans b1)
    · exact Or.inr ⟨b1, b2.trans b4⟩
  · rcases b1 with b1 | ⟨b1, b4⟩
    · exact Or.inr ⟨b1.symm.trans b2, b3⟩
    · exact (n12 b2 b4).elim
theorem lin_S {M : SS} {g N : Nat} (hN : N ≤ 12) (h : ¬ mNx M g N = -1) : lin M (mOpS M g N) := by
  intro k
  rcases mNx_at (M := M) (g := g) (N := N) with hx | ⟨j, hj, e, hw⟩
  · exact absurd hx h
  · rw [mOpS_at M g N e (by omega) 1 k (by omega), if_neg (by omega), mOpS_at M g N e (by omega) 0 k (by omega)]
    refine ⟨rfl, ?_⟩
    by_cases hk : k = j
    · subst hk
      rw [if_pos ⟨rfl, rfl⟩]
      exact Or.inr ⟨(mAt_1 hw).1, rfl⟩
    · rw [if_neg (fun z => hk z.2)]
      exact Or.inl rfl
theorem lin_I {M : SS} {g N : Nat} (hN : N ≤ 12) : ∀ i, i ≤ mOpN M g N → lin M (mOpI M g N i) := by
  intro i
  induction i with
  | zero => intro _; exact lin_rfl M
  | succ i ih => intro h; exact lin_trans (ih (by omega)) (lin_S hN (mOpN_no (by omega)))
theorem lin_op {M : SS} {N : Nat} (hN : N ≤ 12) : ∀ n, lin (mSt M N) (mOp M N n) := by
  intro n
  induction n with
  | zero => exact lin_rfl _
  | succ n ih => exact lin_trans ih (lin_I hN _ (Nat.le_refl _))
section LO
variable {G N : Nat} {S M : SS}
theorem mMin_st (hN : N ≤ 12) {k : Nat} (hk : k < N) : mMin M G N 1 k = M 1 k ∧ (mMin M G N 0 k = 1 → M 0 k = 1) ∧ (¬ mOp M N G 0 k = 1 → mMin M G N 0 k = mOp M N G 0 k) ∧ (mOp M N G 0 k = 1 → M 0 k = 1) ∧ mOp M N G 1 k = M 1 k ∧ (M 0 k = 1 → mOp M N G 0 k = 1 ∨ mOp M N G 0 k = 2) := by
  obtain ⟨s0, s1⟩ := mSt_st M k N
  obtain ⟨o1, o0⟩ := lin_op (M := M) hN G k
  have e : ∀ a, a < 8 → mMin M G N a k = wc (co (mOp M N G) k) a := fun a ha => by
    unfold mMin
    rw [up2_at, if_neg (by omega)]
    show mWa (mOp M N G) N a k = _
    rw [mWa_col _ _ _ _ (by omega), if_pos hk]
  have p1 : mOp M N G 0 k = 1 → M 0 k = 1 := by
    intro h
    rcases o0 with o0 | ⟨_, o2⟩
    · exact s0.mp (o0.symm.trans h)
    · exact (n12 h o2).elim
  have w0 : ¬ mOp M N G 0 k = 1 → mMin M G N 0 k = mOp M N G 0 k := by
    intro h
    rw [e 0 (by omega)]
    unfold wc
    rw [if_neg (show ¬ co (mOp M N G) k 0 = 1 from h)]
  refine ⟨?_, ?_, w0, p1, o1.trans s1, ?_⟩
  · rw [e 1 (by omega)]
    unfold wc
    split
    · rw [if_neg (by omega), if_neg (by omega), if_neg (by omega)]
      exact o1.trans s1
    · exact o1.trans s1
  · intro h
    by_cases h1 : mOp M N G 0 k = 1
    · exact p1 h1
    · rw [w0 h1] at h
      exact absurd h h1
  · intro h
    rcases o0 with o0 | ⟨_, o2⟩
    · exact Or.inl (o0.trans (s0.mpr h))
    · exact Or.inr o2
/-- who gives up at gate j in the next minute -/
theorem r_give (h : Rel G N S M) (hN : N ≤ 12) (hG4 : G ≤ 4) {j : Nat} (hj : j < G) : gxMin S G N 7 j = S 7 j + isum (fun k => if mAt M k (nI j) = 0 then 0 else (if mMin M G N 0 k = 0 then 1 else 0)) N := by
  obtain ⟨h1, h2, h3, _⟩ := h
  obtain ⟨o1, _, _⟩ := r_op h1 h2 h3 hN G (Nat.le_refl G)
  have e : gxMin S G N 7 j = gxWg S N G G 7 j := by unfold gxMin; rw [up2_at, if_neg (by omega)]
  rw [e, gxWg_7 hG4 G (Nat.le_refl G), if_pos hj, gxLg_r (by omega) (by omega)]
  congr 1
  refine isum_congr N (fun k hk => ?_)
  have hr := o1 k hk
  rw [← rj_wt hr]
  obtain ⟨q1, q2, q3, q4, q5, q6⟩ := mMin_st (G := G) (M := M) hN hk
  by_cases hw : mAt M k (nI j) = 0
  · rw [if_pos hw, if_pos]
    by_cases z : mAt (mOp M N G) k (nI j) = 0
    · exact z
    · obtain ⟨z0, z1⟩ := mAt_1 z
      exfalso
      apply (show ¬ mAt M k (nI j) = 0 from ?_) hw
      unfold mAt
      rw [if_neg (fun y => (mIs0 M k 1).mp y (q4 z0)), if_pos (q5.symm.trans z1)]
      decide
  · obtain ⟨w0, w1⟩ := mAt_1 hw
    rw [if_neg hw]
    rcases q6 w0 with q | q
    · have z : ¬ mAt (mOp M N G) k (nI j) = 0 := by
        unfold mAt
        rw [if_neg (fun y => (mIs0 _ k 1).mp y q), if_pos (q5.trans w1)]
        decide
      rw [if_neg z]
      have ed := dM_dS hr
      rw [if_pos (show co (gxLg S N G) k 9 = 1 from (rj_st hr).symm.trans q)] at ed
      rw [← ed]
      have e0 : mMin M G N 0 k = wc (co (mOp M N G) k) 0 := by
        unfold mMin
        rw [up2_at, if_neg (by omega)]
        show mWa (mOp M N G) N 0 k = _
        rw [mWa_col _ _ _ _ (by omega), if_pos hk]
      have qc : co (mOp M N G) k 0 = 1 := q
      have ew : wc (co (mOp M N G) k) 0 = if co (mOp M N G) k 4 ≤ co (mOp M N G) k 5 + 1 then 0 else 1 := by
        unfold wc
        rw [if_pos qc]
        rfl
      have eD : dM (co (mOp M N G) k) = if co (mOp M N G) k 4 ≤ co (mOp M N G) k 5 + 1 then 1 else 0 := by
        unfold dM
        rw [if_pos qc]
      rw [e0, ew, eD]
      by_cases hd : co (mOp M N G) k 4 ≤ co (mOp M N G) k 5 + 1
      · rw [if_pos hd, if_pos hd, if_pos rfl]
      · rw [if_neg hd, if_neg hd, if_neg (by decide)]
    · have q' : ¬ mOp M N G 0 k = 1 := fun z => n12 z q
      have z : mAt (mOp M N G) k (nI j) = 0 := by
        unfold mAt
        rw [if_pos ((mIs0 _ k 1).mpr q')]
      rw [if_pos z, q3 q', q, if_neg (by decide)]
theorem r_it (h : Rel G N S M) (hN : N ≤ 12) (hG4 : G ≤ 4) : ∀ n, Rel G N (gxIt S G N n) (mIt M G N n) := by
  intro n
  induction n with
  | zero => exact h
  | succ n ih => exact r_min ih hN hG4
end LO
-- bits
def tb (x : Int32) (k : Nat) : Bool := x.toBitVec.getLsbD k
theorem tb_sh : ∀ k, k < 12 → ((nI k &&& 31).toBitVec.smod 32).toNat = k := by decide +kernel
theorem bit1 (y : BitVec 32) : (y &&& 1#32 = 0#32) ↔ y.getLsbD 0 = false := by
  constructor
  · intro h
    have e := congrArg (fun z => z.getLsbD 0) h
    simpa using e
  · intro h
    apply BitVec.eq_of_getLsbD_eq
    intro i hi
    by_cases h0 : i = 0
    · subst h0; rw [BitVec.getLsbD_and, h]; simp
    · rw [BitVec.getLsbD_and]
      have : (1#32).getLsbD i = false := by simp [BitVec.getLsbD_one, h0]
      rw [this]; simp
theorem tb_test (x : Int32) {k : Nat} (hk : k < 12) : ((x >>> (nI k &&& 31)) &&& 1 = 0) ↔ tb x k = false := by
  rw [← Int32.toBitVec_inj, Int32.toBitVec_and, Int32.toBitVec_shiftRight]
  show (x.toBitVec.sshiftRight' ((nI k &&& 31).toBitVec.smod 32)) &&& 1#32 = 0#32 ↔ _
  rw [bit1, BitVec.getLsbD_sshiftRight', tb_sh k hk]
  simp [tb, show k < 32 by omega]
theorem tb_or (x y : Int32) (k : Nat) : tb (x ||| y) k = (tb x k || tb y k) := by
  unfold tb
  rw [Int32.toBitVec_or, BitVec.getLsbD_or]
theorem tb_zero (k : Nat) : tb 0 k = false := by
  unfold tb
  rw [Int32.toBitVec_zero]
  simp
theorem tb_one : ∀ j, j < 12 → ∀ k, k < 12 → tb ((1 : Int32) <<< (nI j &&& 31)) k = decide (j = k) := by decide +kernel
theorem tb_not : ∀ j, j < 12 → ∀ k, k < 12 → tb (((1 : Int32) <<< (nI j &&& 31)) ^^^ (-1)) k = decide (¬ j = k) := by decide +kernel
theorem tb_and (x y : Int32) (k : Nat) : tb (x &&& y) k = (tb x k && tb y k) := by
  unfold tb
  rw [Int32.toBitVec_and, BitVec.getLsbD_and]
section LQ
variable {G N : Nat} {S M : SS}
theorem tb_mk (M : SS) (g : Nat) : ∀ n, n ≤ 12 → ∀ k, k < 12 → tb (mMk M g n) k = decide (k < n ∧ ¬ mAt M k (nI g) = 0) := by
  intro n
  induction n with
  | zero => intro _ k _; rw [show mMk M g 0 = 0 from rfl, tb_zero]; simp
  | succ n ih =>
    intro hn k hk
    show tb (mMk M g n ||| (if mAt M n (nI g) = 0 then (0 : Int32) else ((1 : Int32) <<< (nI n &&& 31)))) k = _
    rw [tb_or, ih (by omega) k hk]
    by_cases hw : mAt M n (nI g) = 0
    · rw [if_pos hw, tb_zero, Bool.or_false]
      apply decide_eq_decide.mpr
      constructor
      · rintro ⟨a, b⟩; exact ⟨by omega, b⟩
      · rintro ⟨a, b⟩
        refine ⟨?_, b⟩
        have : k ≠ n := fun z => b (by rw [z]; exact hw)
        omega
    · rw [if_neg hw, tb_one n (by omega) k hk]
      by_cases hkn : n = k
      · subst hkn; simp [hw]
      · have e : (k < n + 1) = (k < n) := by apply propext; omega
        simp [hkn, e]
/-- one look over the goats -/
theorem mLi_at (X : SS) (z : Int32 × Int32) : ∀ n, n ≤ 12 → (mLi X z n).1 = z.1 + isum (fun k => if tb z.2 k = true ∧ ¬ X 0 k = 1 then (if X 0 k = 0 then 1 else 0) else 0) n ∧ ∀ k, k < 12 → tb (mLi X z n).2 k = (tb z.2 k && decide (¬ (k < n ∧ ¬ X 0 k = 1))) := by
  intro n
  induction n with
  | zero => intro _; exact ⟨(Int32.add_zero _).symm, fun k _ => by show tb z.2 k = _; simp⟩
  | succ n ih =>
    intro hn
    obtain ⟨i1, i2⟩ := ih (by omega)
    have hb : tb (mLi X z n).2 n = tb z.2 n := by rw [i2 n (by omega)]; simp
    have eL : mLi X z (n + 1) = mLiS X n (mLi X z n) := rfl
    have eI : ∀ f : Nat → Int32, isum f (n + 1) = isum f n + f n := fun _ => rfl
    rw [eL, eI, ← Int32.add_assoc, ← i1]
    unfold mLiS
    by_cases ht : tb z.2 n = true
    · rw [if_neg (fun y => by rw [(tb_test _ (by omega)).mp y] at hb; rw [ht] at hb; cases hb)]
      by_cases h1 : X 0 n = 1
      · rw [if_neg (fun y => (mIs0 X n 1).mp y h1), if_neg (fun y => y.2 h1)]
        refine ⟨(Int32.add_zero _).symm, fun k hk => ?_⟩
        rw [i2 k hk]
        congr 1
        apply decide_eq_decide.mpr
        constructor
        · intro y q
          by_cases hkn : k = n
          · subst hkn; exact q.2 h1
          · exact y ⟨by omega, q.2⟩
        · intro y q; exact y ⟨by omega, q.2⟩
      · rw [if_pos ((mIs0 X n 1).mpr h1), if_pos (show tb z.2 n = true ∧ ¬ X 0 n = 1 from ⟨ht, h1⟩)]
        constructor
        · show (mLi X z n).1 + (if mIs X n 0 = 0 then 0 else 1) = (mLi X z n).1 + (if X 0 n = 0 then 1 else 0)
          by_cases h0 : X 0 n = 0
          · rw [if_neg (fun y => (mIs0 X n 0).mp y h0), if_pos h0]
          · rw [if_pos ((mIs0 X n 0).mpr h0), if_neg h0]
        · intro k hk
          show tb ((mLi X z n).2 &&& (((1 : Int32) <<< (nI n &&& 31)) ^^^ (-1))) k = _
          rw [tb_and, i2 k hk, tb_not n (by omega) k hk]
          by_cases hkn : k = n
          · subst hkn; simp [h1]
          · have e : (k < n + 1) = (k < n) := by apply propext; omega
            have hnk : ¬ n = k := fun z => hkn z.symm
            simp [e, hnk]
    · have ht' : tb z.2 n = false := by simpa using ht
      rw [if_pos ((tb_test _ (by omega)).mpr (hb.trans ht')), if_neg (fun y => ht y.1)]
      refine ⟨(Int32.add_zero _).symm, fun k hk => ?_⟩
      rw [i2 k hk]
      by_cases hkn : k = n
      · subst hkn; rw [ht']; simp
      · have e : (k < n + 1) = (k < n) := by apply propext; omega
        simp only [e]
/-- how many are lost, minute by minute -/
theorem r_lo (h : Rel G N S M) (hN : N ≤ 12) (hG4 : G ≤ 4) {j : Nat} (hj : j < G) : ∀ n, gxIt S G N n 7 j = S 7 j + (mLo M G N j n).1 ∧ ∀ k, k < N → tb (mLo M G N j n).2 k = decide (¬ mAt (mIt M G N n) k (nI j) = 0) := by
  intro n
  induction n with
  | zero =>
    refine ⟨(Int32.add_zero _).symm, fun k hk => ?_⟩
    show tb (mMk M j N) k = decide (¬ mAt M k (nI j) = 0)
    rw [tb_mk M j N hN k (by omega)]
    simp [hk]
  | succ n ih =>
    obtain ⟨i1, i2⟩ := ih
    have hr := r_it h hN hG4 n
    have eL : mLo M G N j (n + 1) = mLi (mIt M G N (n + 1)) (mLo M G N j n) N := rfl
    obtain ⟨l1, l2⟩ := mLi_at (mIt M G N (n + 1)) (mLo M G N j n) N hN
    rw [eL]
    constructor
    · show gxMin (gxIt S G N n) G N 7 j = _
      rw [r_give hr hN hG4 hj, i1, l1, Int32.add_assoc]
      congr 2
      refine isum_congr N (fun k hk => ?_)
      rw [i2 k hk]
      show (if mAt (mIt M G N n) k (nI j) = 0 then 0 else (if mIt M G N (n + 1) 0 k = 0 then 1 else 0)) = _
      by_cases hw : mAt (mIt M G N n) k (nI j) = 0
      · rw [if_pos hw, if_neg (by simp [hw])]
      · rw [if_neg hw]
        by_cases h0 : mIt M G N (n + 1) 0 k = 0
        · rw [if_pos h0, if_pos ⟨by simp [hw], fun z => n01 h0 z⟩]
        · rw [if_neg h0]
          split
          · rfl
          · rfl
    · intro k hk
      rw [l2 k (by omega), i2 k hk, ← Bool.decide_and]
      obtain ⟨q1, q2, _⟩ := mMin_st (G := G) (M := mIt M G N n) hN hk
      apply decide_eq_decide.mpr
      constructor
      · rintro ⟨a, b⟩ z
        obtain ⟨a0, a1⟩ := mAt_1 a
        by_cases h1 : mIt M G N (n + 1) 0 k = 1
        · unfold mAt at z
          rw [if_neg (fun y => (mIs0 _ k 1).mp y h1), if_pos (show mIt M G N (n + 1) 1 k = nI j from q1.trans a1)] at z
          exact absurd z (by decide)
        · exact b ⟨hk, h1⟩
      · intro z
        obtain ⟨z0, z1⟩ := mAt_1 z
        refine ⟨fun y => ?_, fun y => y.2 z0⟩
        unfold mAt at y
        rw [if_neg (fun u => (mIs0 _ k 1).mp u (q2 z0)), if_pos (q1.symm.trans z1)] at y
        exact absurd y (by decide)
end LQ
