/-! A minute's steps and the lines (pure). -/
theorem mStT_7 (M : SS) (i : Nat) : mStT M i 7 = M 7 := by
  unfold mStT
  split
  · rfl
  · split
    · rw [up2_r _ _ _ _ (by decide), up2_r _ _ _ _ (by decide)]
    · rw [up2_r _ _ _ _ (by decide)]
theorem mSt_7 (M : SS) : ∀ n, mSt M n 7 = M 7 := by
  intro n
  induction n with
  | zero => rfl
  | succ n ih => exact (mStT_7 _ n).trans ih
/-- how many wait, when one leaves -/
theorem mCt_less {M X : SS} {j : Nat} (h1 : M 0 j = 1) (hx : ¬ X 0 j = 1) (ho : ∀ k, k ≠ j → X 0 k = M 0 k) : ∀ n, j < n → mCt X n + 1 = mCt M n := by
  intro n
  induction n with
  | zero => intro h; exact absurd h (Nat.not_lt_zero j)
  | succ n ih =>
    intro h
    have eX : mCt X (n + 1) = mCt X n + (if X 0 n = 1 then 1 else 0) := rfl
    have eM : mCt M (n + 1) = mCt M n + (if M 0 n = 1 then 1 else 0) := rfl
    rw [eX, eM]
    by_cases hj : j = n
    · subst hj
      rw [if_neg hx, if_pos h1, mCt_congr (M := M) (X := X) j (fun k hk => ho k (by omega))]
    · have := ih (by omega)
      rw [ho n (fun e => hj e.symm)]
      omega
section LS
variable {G N : Nat} {M : SS} {Ls : Nat → List Nat}
theorem Ln.st (h : Ln G N M Ls) (n : Nat) : Ln G N (mSt M n) Ls := h.congr (fun k _ => ⟨(mSt_st M k n).1, fun _ => ⟨(mSt_st M k n).2, by rw [mSt_7]⟩⟩)
theorem mCt_st (M : SS) (n N : Nat) : mCt (mSt M n) N = mCt M N := by
  induction N with
  | zero => rfl
  | succ N ih =>
    show mCt (mSt M n) N + (if mSt M n 0 N = 1 then 1 else 0) = mCt M N + (if M 0 N = 1 then 1 else 0)
    rw [ih]
    by_cases h : M 0 N = 1
    · rw [if_pos h, if_pos ((mSt_st M N n).1.mpr h)]
    · rw [if_neg h, if_neg (fun z => h ((mSt_st M N n).1.mp z))]
/-- who is let in: where it stood -/
theorem nx_at (hN : N ≤ 12) {g : Nat} (h : ¬ mNx M g N = -1) : ∃ j, j < N ∧ mNx M g N = nI j ∧ M 0 j = 1 ∧ M 1 j = nI g := by
  rcases mNx_at (M := M) (g := g) (N := N) with e | ⟨j, h1, h2, h3⟩
  · exact absurd e h
  · obtain ⟨h4, h5⟩ := mAt_1 h3
    exact ⟨j, h1, h2, h4, h5⟩
theorem Ln.opS (h : Ln G N M Ls) (hN : N ≤ 12) (hG4 : G ≤ 4) {g j : Nat} (hg : g < G) (hj : j < N) (hn : mNx M g N = nI j) (h1 : M 1 j = nI g) : Ln G N (mOpS M g N) (lsU Ls g (wo (Ls g) j)) := by
  have at_ := fun a k (ha : a < 8) => mOpS_at M g N hn (by omega) a k ha
  refine h.leave hG4 hg h1 ?_ (fun k _ hkj => ?_) (fun k _ => ⟨?_, ?_⟩)
  · rw [at_ 0 j (by decide), if_pos ⟨rfl, rfl⟩]; decide
  · rw [at_ 0 k (by decide), if_neg (fun z => hkj z.2)]
  · rw [at_ 1 k (by decide), if_neg (fun z => absurd z.1 (by decide))]
  · rw [at_ 7 k (by decide), if_neg (fun z => absurd z.1 (by decide))]
theorem mCt_opS (hN : N ≤ 12) {g j : Nat} (hj : j < N) (hn : mNx M g N = nI j) (h1 : M 0 j = 1) : mCt (mOpS M g N) N + 1 = mCt M N := by
  have at_ := fun a k (ha : a < 8) => mOpS_at M g N hn (by omega) a k ha
  refine mCt_less h1 ?_ (fun k hkj => ?_) N hj
  · rw [at_ 0 j (by decide), if_pos ⟨rfl, rfl⟩]; decide
  · rw [at_ 0 k (by decide), if_neg (fun z => hkj z.2)]
/-- one waits on: it still waits, or gives up -/
theorem Ln.waT (h : Ln G N M Ls) {k : Nat} (hs : mWaT M k 0 k = M 0 k) : Ln G N (mWaT M k) Ls := by
  have r1 : mWaT M k 1 = M 1 := by
    unfold mWaT mWaA
    split
    · rfl
    · split
      · rw [up2_r _ _ _ _ (by decide), up2_r _ _ _ _ (by decide), up2_r _ _ _ _ (by decide), up2_r _ _ _ _ (by decide)]
      · rw [up2_r _ _ _ _ (by decide), up2_r _ _ _ _ (by decide)]
  have r7 : mWaT M k 7 = M 7 := by
    unfold mWaT mWaA
    split
    · rfl
    · split
      · rw [up2_r _ _ _ _ (by decide), up2_r _ _ _ _ (by decide), up2_r _ _ _ _ (by decide), up2_r _ _ _ _ (by decide)]
      · rw [up2_r _ _ _ _ (by decide), up2_r _ _ _ _ (by decide)]
  refine h.congr (fun i _ => ?_)
  have e0 : mWaT M k 0 i = M 0 i := by
    by_cases hi : i = k
    · rw [hi]; exact hs
    · exact mWaT_k M hi (Or.inl (by decide))
  rw [e0, r1, r7]
  exact ⟨Iff.rfl, fun _ => ⟨rfl, rfl⟩⟩
end LS
