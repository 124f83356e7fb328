/-! What the law asks after a minute (pure). -/
section PM
variable {T G N : Nat} {S M : SS} {Ls : Nat → List Nat}
theorem it_succ (M : SS) (G N : Nat) : ∀ n, mIt (mMin M G N) G N n = mIt M G N (n + 1) := by
  intro n
  induction n with
  | zero => rfl
  | succ n ih =>
    show mMin (mIt (mMin M G N) G N n) G N = mMin (mIt M G N (n + 1)) G N
    rw [ih]
theorem opI_81 (M : SS) (g N : Nat) : ∀ i, mOpI M g N i 8 1 = M 8 1 + nI i := by
  intro i
  induction i with
  | zero => exact (Int32.add_zero _).symm
  | succ i ih =>
    have e : mOpI M g N (i + 1) 8 1 = mOpI M g N i 8 1 + 1 := by
      show mOpS (mOpI M g N i) g N 8 1 = _
      unfold mOpS
      rw [up2_at, if_pos ⟨rfl, rfl⟩]
    rw [e, ih, Int32.add_assoc, nI_1]
theorem op_81 (hN : N ≤ 12) : ∀ n, mOp M N n 8 1 = M 8 1 + nI (mCt M N - mCt (mOp M N n) N) ∧ mCt (mOp M N n) N ≤ mCt M N := by
  intro n
  induction n with
  | zero =>
    have e : mOp M N 0 = mSt M N := rfl
    rw [e, mCt_st, mSt_8, Nat.sub_self]
    exact ⟨(Int32.add_zero _).symm, Nat.le_refl _⟩
  | succ n ih =>
    have e : mOp M N (n + 1) = mOpI (mOp M N n) n N (mOpN (mOp M N n) n N) := rfl
    have hc := mCt_op M N hN n (mOpN (mOp M N n) n N) (Nat.le_refl _)
    have i2 := ih.2
    rw [e, opI_81, ih.1, Int32.add_assoc, nI_add]
    refine ⟨?_, by omega⟩
    exact congrArg (fun z => M 8 1 + nI z) (by omega)
theorem ct_diff {X : SS} (h : ∀ k, k < N → X 0 k = 1 → M 0 k = 1) : ∀ n, n ≤ N → mCt X n ≤ mCt M n ∧ nI (mCt M n - mCt X n) = isum (fun k => if M 0 k = 1 ∧ ¬ X 0 k = 1 then 1 else 0) n := by
  intro n
  induction n with
  | zero => intro _; exact ⟨Nat.le_refl _, rfl⟩
  | succ n ih =>
    intro hn
    obtain ⟨i1, i2⟩ := ih (by omega)
    have eX : mCt X (n + 1) = mCt X n + (if X 0 n = 1 then 1 else 0) := rfl
    have eM : mCt M (n + 1) = mCt M n + (if M 0 n = 1 then 1 else 0) := rfl
    have eI : isum (fun k => if M 0 k = 1 ∧ ¬ X 0 k = 1 then (1 : Int32) else 0) (n + 1) = isum (fun k => if M 0 k = 1 ∧ ¬ X 0 k = 1 then 1 else 0) n + (if M 0 n = 1 ∧ ¬ X 0 n = 1 then 1 else 0) := rfl
    rw [eX, eM, eI, ← i2]
    by_cases hm : M 0 n = 1
    · by_cases hx : X 0 n = 1
      · rw [if_pos hm, if_pos hx, if_neg (fun z => z.2 hx), Int32.add_zero]
        refine ⟨by omega, ?_⟩
        congr 1
        omega
      · rw [if_pos hm, if_neg hx, if_pos ⟨hm, hx⟩, nI_1]
        refine ⟨by omega, ?_⟩
        congr 1
        omega
    · have hx : ¬ X 0 n = 1 := fun z => hm (h n (by omega) z)
      rw [if_neg hm, if_neg hx, if_neg (fun z => hm z.1), Int32.add_zero]
      exact ⟨by omega, rfl⟩
/-- what becomes of a goat that waits, in the minute -/
theorem min_0 (hN : N ≤ 12) {k : Nat} (hk : k < N) : mMin M G N 0 k = wc (co (mOp M N G) k) 0 := by
  unfold mMin
  rw [up2_r _ _ _ _ (by decide)]
  show mWa (mOp M N G) N 0 k = _
  rw [mWa_col _ _ _ _ (by omega), if_pos hk]
theorem min_w (hN : N ≤ 12) {k : Nat} (hk : k < N) (h1 : M 0 k = 1) : (mOp M N G 0 k = 2 ∧ mMin M G N 0 k = 2 ∧ dM (co (mOp M N G) k) = 0) ∨ (mOp M N G 0 k = 1 ∧ ((mMin M G N 0 k = 0 ∧ dM (co (mOp M N G) k) = 1) ∨ (mMin M G N 0 k = 1 ∧ dM (co (mOp M N G) k) = 0))) := by
  obtain ⟨-, -, w0, -, -, w5⟩ := mMin_st (G := G) (M := M) hN hk
  have hm := min_0 (G := G) (M := M) hN hk
  rcases w5 h1 with e | e
  · refine Or.inr ⟨e, ?_⟩
    have e' : co (mOp M N G) k 0 = 1 := e
    have ew : wc (co (mOp M N G) k) 0 = if co (mOp M N G) k 4 ≤ co (mOp M N G) k 5 + 1 then 0 else 1 := by
      unfold wc
      rw [if_pos e']
      rfl
    rw [ew] at hm
    unfold dM
    rw [if_pos e']
    by_cases c : co (mOp M N G) k 4 ≤ co (mOp M N G) k 5 + 1
    · rw [if_pos c] at hm ⊢
      exact Or.inl ⟨hm, rfl⟩
    · rw [if_neg c] at hm ⊢
      exact Or.inr ⟨hm, rfl⟩
  · have e' : ¬ co (mOp M N G) k 0 = 1 := by show ¬ mOp M N G 0 k = 1; rw [e]; decide
    refine Or.inl ⟨e, (w0 e').trans e, ?_⟩
    unfold dM
    rw [if_neg e']
/-- who is let in, who gives up, in a minute, of the first goats -/
def inC (S S' : SS) : Nat → Int32 := isum (fun k => if S 9 k = 1 then (if S' 9 k = 2 then 1 else 0) else 0)
def loC (S S' : SS) : Nat → Int32 := isum (fun k => if S 9 k = 1 then (if S' 9 k = 0 then 1 else 0) else 0)
theorem LI.told (h : LI T G N S M Ls) : gxIt S G N 1 0 4 - S 0 4 = inC S (gxMin S G N) N := by
  have hN := h.1.1
  have hG4 := h.1.2.1
  have hr := r_min h.rel hN hG4
  have e1 : gxIt S G N 1 0 4 = mMin M G N 8 1 := hr.2.2.1.2.1.symm
  have e2 : mMin M G N 8 1 = mOp M N G 8 1 := by
    unfold mMin
    rw [up2_c _ _ _ _ (by decide)]
    show mWa (mOp M N G) N 8 1 = _
    rw [mWa_8, if_neg (by decide)]
  rw [e1, e2, (op_81 hN G).1, ← h.rel.2.2.1.2.1]
  obtain ⟨-, d2⟩ := ct_diff (M := M) (X := mOp M N G) (N := N) (fun k hk z => (mMin_st (G := G) (M := M) hN hk).2.2.2.1 z) N (Nat.le_refl N)
  rw [d2]
  have e3 : ∀ a b : Int32, a + b - a = b := fun a b => by rw [Int32.add_comm, Int32.add_sub_cancel]
  rw [e3]
  refine isum_congr N (fun k hk => ?_)
  have hs' := rj_st (hr.1 k hk)
  by_cases h1 : M 0 k = 1
  · rw [if_pos ((h.st hk).symm.trans h1), ← hs']
    rcases min_w (G := G) hN hk h1 with ⟨a1, a2, -⟩ | ⟨a1, ⟨a2, -⟩ | ⟨a2, -⟩⟩
    · rw [if_pos ⟨h1, by rw [a1]; decide⟩, if_pos a2]
    · rw [if_neg (fun z => z.2 a1), if_neg (by rw [a2]; decide)]
    · rw [if_neg (fun z => z.2 a1), if_neg (by rw [a2]; decide)]
  · rw [if_neg (fun z => h1 z.1), if_neg (fun z => h1 ((h.st hk).trans z))]
theorem LI.gone (h : LI T G N S M Ls) : gxGiv (gxMin S G N) G = gxGiv S G + loC S (gxMin S G N) N := by
  have hN := h.1.1
  have hG4 := h.1.2.1
  have hr := r_min h.rel hN hG4
  have e2 : mMin M G N 8 2 = M 8 2 + isum (fun k => dM (co (mOp M N G) k)) N := by
    unfold mMin
    rw [up2_c _ _ _ _ (by decide)]
    show mWa (mOp M N G) N 8 2 = _
    rw [mWa_8, if_pos rfl, mOp_82]
  rw [← hr.2.2.2, e2, h.rel.2.2.2]
  congr 1
  refine isum_congr N (fun k hk => ?_)
  have hs' := rj_st (hr.1 k hk)
  by_cases h1 : M 0 k = 1
  · rw [if_pos ((h.st hk).symm.trans h1), ← hs']
    rcases min_w (G := G) hN hk h1 with ⟨a1, a2, a3⟩ | ⟨a1, ⟨a2, a3⟩ | ⟨a2, a3⟩⟩
    · rw [a3, if_neg (by rw [a2]; decide)]
    · rw [a3, if_pos a2]
    · rw [a3, if_neg (by rw [a2]; decide)]
  · rw [if_neg (fun z => h1 ((h.st hk).trans z))]
    unfold dM
    refine if_neg (fun z => h1 ?_)
    exact (mMin_st (G := G) (M := M) hN hk).2.2.2.1 z
theorem LI.next (h : LI T G N S M Ls) {k : Nat} (hk : k < N) (h9 : S 9 k = 1) : (gxMin S G N 9 k = 2 ∧ gxUn S G N k = 1) ∨ (gxMin S G N 9 k = 0 ∧ ¬ gxUn S G N k = 1) ∨ (gxMin S G N 9 k = 1 ∧ ¬ gxUn S G N k = 1 ∧ ((gxUn S G N k = -1 ∧ gxUn (gxMin S G N) G N k = -1) ∨ ∃ a, a ≤ 60 ∧ gxUn S G N k = nI (a + 1) ∧ gxUn (gxMin S G N) G N k = nI a)) := by
  have hN := h.1.1
  have hG4 := h.1.2.1
  have hr := r_min h.rel hN hG4
  have h0 : M 0 k = 1 := (h.st hk).trans h9
  have hs' : mMin M G N 0 k = gxMin S G N 9 k := rj_st (hr.1 k hk)
  rw [r_un h.rel hN hG4 hk, r_un hr hN hG4 hk, ← hs']
  have hu := r_hu h.rel hN hG4 hk
  have hu' := r_hu hr hN hG4 hk
  have hy := unN_yes hu
  have hy' := unN_yes hu'
  have e0 : mUn M G N k = mUnR M G N k := if_neg (show ¬ mIs M k 1 = 0 from by rw [show mIs M k 1 = 1 from if_pos h0]; decide)
  have hpos : 0 < mUnN M G N k := by
    rcases Nat.eq_zero_or_pos (mUnN M G N k) with z | z
    · rw [z] at hy; exact absurd h0 hy
    · exact z
  have e1 : mIt M G N 1 = mMin M G N := rfl
  have one : ∀ (_ : ¬ mMin M G N 0 k = 1), mUnN M G N k = 1 := fun z => by
    have := unN_first (M := M) (G := G) (N := N) (k := k) (i := 1) z
    omega
  have res : mUn M G N k = if mIt M G N (mUnN M G N k) 0 k = 2 then nI (mUnN M G N k) else -1 := by
    rw [e0]
    unfold mUnR
    by_cases c : mIt M G N (mUnN M G N k) 0 k = 2
    · rw [if_pos c, if_neg (show ¬ mIs (mIt M G N (mUnN M G N k)) k 2 = 0 from by rw [show mIs (mIt M G N (mUnN M G N k)) k 2 = 1 from if_pos c]; decide)]
    · rw [if_neg c, if_pos (show mIs (mIt M G N (mUnN M G N k)) k 2 = 0 from if_neg c)]
  rcases min_w (G := G) hN hk h0 with ⟨-, a2, -⟩ | ⟨-, ⟨a2, -⟩ | ⟨a2, -⟩⟩
  · refine Or.inl ⟨a2, ?_⟩
    rw [res, one (by rw [a2]; decide), e1, if_pos a2]
    rfl
  · refine Or.inr (Or.inl ⟨a2, ?_⟩)
    rw [res, one (by rw [a2]; decide), e1, if_neg (by rw [a2]; decide)]
    decide
  · have h2 : mUnN M G N k ≠ 1 := fun z => by rw [z, e1] at hy; exact hy a2
    have e3 : mUnN (mMin M G N) G N k + 1 = mUnN M G N k := by
      have l1 : mUnN (mMin M G N) G N k ≤ mUnN M G N k - 1 := unN_first (by rw [it_succ, Nat.sub_add_cancel hpos]; exact hy)
      have l2 : mUnN M G N k ≤ mUnN (mMin M G N) G N k + 1 := unN_first (by rw [← it_succ]; exact hy')
      omega
    have res' : mUn (mMin M G N) G N k = if mIt M G N (mUnN M G N k) 0 k = 2 then nI (mUnN (mMin M G N) G N k) else -1 := by
      unfold mUn
      rw [if_neg (show ¬ mIs (mMin M G N) k 1 = 0 from by rw [show mIs (mMin M G N) k 1 = 1 from if_pos a2]; decide)]
      unfold mUnR
      rw [it_succ, e3]
      by_cases c : mIt M G N (mUnN M G N k) 0 k = 2
      · rw [if_pos c, if_neg (show ¬ mIs (mIt M G N (mUnN M G N k)) k 2 = 0 from by rw [show mIs (mIt M G N (mUnN M G N k)) k 2 = 1 from if_pos c]; decide)]
      · rw [if_neg c, if_pos (show mIs (mIt M G N (mUnN M G N k)) k 2 = 0 from if_neg c)]
    refine Or.inr (Or.inr ⟨a2, ?_⟩)
    rw [res, res']
    by_cases c : mIt M G N (mUnN M G N k) 0 k = 2
    · rw [if_pos c, if_pos c]
      refine ⟨fun z => ?_, Or.inr ⟨mUnN (mMin M G N) G N k, by omega, by rw [e3], rfl⟩⟩
      exact h2 ((nI_eq (a := mUnN M G N k) (b := 1) (by omega) (by omega)).mp z)
    · rw [if_neg c, if_neg c]
      exact ⟨by decide, Or.inl ⟨rfl, rfl⟩⟩
end PM
