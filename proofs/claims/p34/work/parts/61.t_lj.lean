/-! Permits held stay within the gates' permits (pure). -/
def hsN (M : SS) (g : Nat) : Nat → Nat
  | 0 => 0
  | n + 1 => hsN M g n + (if M 0 n = 2 ∧ M 1 n = nI g then (M 2 n).toNatClampNeg else 0)
def LJ (G N : Nat) (M : SS) : Prop := (∀ k, k < N → ¬ M 0 k = 0 → ∃ w, 1 ≤ w ∧ w ≤ 9 ∧ M 2 k = nI w) ∧ ∀ g, g < G → ∀ p, p ≤ 9 → M 9 g = nI p → hsN M g N ≤ p
theorem hs_mono {M X : SS} {g : Nat} : ∀ n, (∀ k, k < n → X 0 k = 2 → X 1 k = nI g → M 0 k = 2 ∧ M 1 k = nI g ∧ X 2 k = M 2 k) → hsN X g n ≤ hsN M g n := by
  intro n
  induction n with
  | zero => intro _; exact Nat.le_refl 0
  | succ n ih =>
    intro h
    have h1 := ih (fun k hk => h k (by omega))
    show hsN X g n + (if X 0 n = 2 ∧ X 1 n = nI g then (X 2 n).toNatClampNeg else 0) ≤ hsN M g n + (if M 0 n = 2 ∧ M 1 n = nI g then (M 2 n).toNatClampNeg else 0)
    by_cases hc : X 0 n = 2 ∧ X 1 n = nI g
    · obtain ⟨a1, a2, a3⟩ := h n (by omega) hc.1 hc.2
      rw [if_pos hc, if_pos ⟨a1, a2⟩, a3]
      omega
    · rw [if_neg hc]
      omega
theorem hs_add {M X : SS} {g j w : Nat} (hj : X 0 j = 2 → X 1 j = nI g → (X 2 j).toNatClampNeg ≤ w) : ∀ n, (∀ k, k < n → k ≠ j → X 0 k = 2 → X 1 k = nI g → M 0 k = 2 ∧ M 1 k = nI g ∧ X 2 k = M 2 k) → hsN X g n ≤ hsN M g n + (if j < n then w else 0) := by
  intro n
  induction n with
  | zero => intro _; exact Nat.zero_le _
  | succ n ih =>
    intro h
    have h1 := ih (fun k hk => h k (by omega))
    show hsN X g n + (if X 0 n = 2 ∧ X 1 n = nI g then (X 2 n).toNatClampNeg else 0) ≤ hsN M g n + (if M 0 n = 2 ∧ M 1 n = nI g then (M 2 n).toNatClampNeg else 0) + (if j < n + 1 then w else 0)
    by_cases hn : n = j
    · subst hn
      rw [if_neg (Nat.lt_irrefl n)] at h1
      rw [if_pos (Nat.lt_succ_self n)]
      by_cases hc : X 0 n = 2 ∧ X 1 n = nI g
      · have := hj hc.1 hc.2
        rw [if_pos hc]
        omega
      · rw [if_neg hc]
        omega
    · have e : (if j < n + 1 then w else 0) = (if j < n then w else 0) := by
        by_cases hjn : j < n
        · rw [if_pos hjn, if_pos (by omega)]
        · rw [if_neg hjn, if_neg (by omega)]
      rw [e]
      by_cases hc : X 0 n = 2 ∧ X 1 n = nI g
      · obtain ⟨a1, a2, a3⟩ := h n (by omega) hn hc.1 hc.2
        rw [if_pos hc, if_pos ⟨a1, a2⟩, a3]
        omega
      · rw [if_neg hc]
        omega
theorem hs_zero {X : SS} {g : Nat} : ∀ n, (∀ k, k < n → X 0 k = 2 → ¬ X 1 k = nI g) → hsN X g n = 0 := by
  intro n
  induction n with
  | zero => intro _; rfl
  | succ n ih =>
    intro h
    show hsN X g n + (if X 0 n = 2 ∧ X 1 n = nI g then (X 2 n).toNatClampNeg else 0) = 0
    rw [ih (fun k hk => h k (by omega)), if_neg (fun z => h n (by omega) z.1 z.2)]
theorem fr_nat {M : SS} {N g p : Nat} (h : ∀ k, k < N → ¬ M 0 k = 0 → ∃ w, 1 ≤ w ∧ w ≤ 9 ∧ M 2 k = nI w) (hp : M 9 g = nI p) : ∀ n, n ≤ N → mFree M g n = nI p - nI (hsN M g n) := by
  intro n
  induction n with
  | zero => intro _; show M 9 g = _; rw [hp]; exact (Int32.sub_zero _).symm
  | succ n ih =>
    intro hn
    have h1 := ih (by omega)
    show (if mIs M n 2 = 0 then mFree M g n else (if M 1 n = nI g then mFree M g n - M 2 n else mFree M g n)) = nI p - nI (hsN M g n + (if M 0 n = 2 ∧ M 1 n = nI g then (M 2 n).toNatClampNeg else 0))
    by_cases h2 : M 0 n = 2
    · rw [if_neg (show ¬ mIs M n 2 = 0 from by rw [show mIs M n 2 = 1 from if_pos h2]; decide)]
      by_cases h3 : M 1 n = nI g
      · obtain ⟨w, w1, w2, w3⟩ := h n (by omega) (by rw [h2]; decide)
        rw [if_pos h3, if_pos ⟨h2, h3⟩, h1, w3, nI_clamp (show w < 2 ^ 31 by omega), ← nI_add]
        generalize nI (hsN M g n) = a
        generalize nI p = b
        generalize nI w = c
        rw [Int32.sub_eq_add_neg, Int32.sub_eq_add_neg, Int32.sub_eq_add_neg, Int32.neg_add, Int32.sub_eq_add_neg, Int32.add_assoc]
      · rw [if_neg h3, if_neg (fun z => h3 z.2), h1]
        rfl
    · rw [if_pos (show mIs M n 2 = 0 from if_neg h2), if_neg (fun z => h2 z.1), h1]
      rfl
theorem LJ.free {G N : Nat} {M : SS} (h : LJ G N M) {g p : Nat} (hg : g < G) (hp : p ≤ 9) (e : M 9 g = nI p) : mFree M g N = nI (p - hsN M g N) ∧ hsN M g N ≤ p := by
  have h1 := h.2 g hg p hp e
  refine ⟨?_, h1⟩
  rw [fr_nat h.1 e N (Nat.le_refl N), nI_sub h1]
theorem nx_fits {M : SS} {N g j : Nat} (hN : N ≤ 12) (hj : j < 12) (h : mNx M g N = nI j) : M 2 j ≤ mFree M g N := by
  have hne : ¬ (-1 : Int32) = nI j := fun z => nI_m1 hj z.symm
  unfold mNx at h
  split at h
  · unfold mNfR at h
    split at h
    · exact absurd h hne
    · split at h
      · rename_i h3
        rw [h, cl_nI hj] at h3
        exact h3
      · exact absurd h hne
  · rcases mNb_ch (M := M) (fr := mFree M g N) (g := g) N hN with ⟨e, -⟩ | ⟨i, h1, h2, h3, h4, -⟩
    · exact absurd (e.symm.trans h) hne
    · have : i = j := nI_inj12 (by omega) hj (h2.symm.trans h)
      rw [← this]; exact h4
theorem mStT_2 (M : SS) (i : Nat) : mStT M i 2 = M 2 ∧ mStT M i 9 = M 9 ∧ mStT M i 1 = M 1 ∧ ∀ k, mStT M i 0 k = M 0 k ∨ mStT M i 0 k = 0 := by
  unfold mStT
  split
  · exact ⟨rfl, rfl, rfl, fun _ => Or.inl rfl⟩
  · split
    · refine ⟨?_, ?_, ?_, fun k => ?_⟩
      · rw [up2_r _ _ _ _ (by decide), up2_r _ _ _ _ (by decide)]
      · rw [up2_r _ _ _ _ (by decide), up2_r _ _ _ _ (by decide)]
      · rw [up2_r _ _ _ _ (by decide), up2_r _ _ _ _ (by decide)]
      · rw [up2_at]
        split
        · exact Or.inr rfl
        · rw [up2_r _ _ _ _ (by decide)]; exact Or.inl rfl
    · refine ⟨?_, ?_, ?_, fun k => ?_⟩
      · rw [up2_r _ _ _ _ (by decide)]
      · rw [up2_r _ _ _ _ (by decide)]
      · rw [up2_r _ _ _ _ (by decide)]
      · rw [up2_r _ _ _ _ (by decide)]; exact Or.inl rfl
theorem mSt_2 (M : SS) : ∀ n, mSt M n 2 = M 2 ∧ mSt M n 9 = M 9 ∧ mSt M n 1 = M 1 ∧ ∀ k, mSt M n 0 k = M 0 k ∨ mSt M n 0 k = 0 := by
  intro n
  induction n with
  | zero => exact ⟨rfl, rfl, rfl, fun _ => Or.inl rfl⟩
  | succ n ih =>
    obtain ⟨a1, a2, a3, a4⟩ := mStT_2 (mSt M n) n
    obtain ⟨b1, b2, b3, b4⟩ := ih
    refine ⟨a1.trans b1, a2.trans b2, a3.trans b3, fun k => ?_⟩
    rcases a4 k with e | e
    · rcases b4 k with e2 | e2
      · exact Or.inl (e.trans e2)
      · exact Or.inr (e.trans e2)
    · exact Or.inr e
section LJS
variable {G N : Nat} {M : SS}
theorem LJ.less (h : LJ G N M) {X : SS} (h2 : ∀ k, k < N → X 2 k = M 2 k) (h9 : ∀ g, g < G → X 9 g = M 9 g) (hz : ∀ k, k < N → ¬ X 0 k = 0 → ¬ M 0 k = 0) (h0 : ∀ k, k < N → X 0 k = 2 → M 0 k = 2 ∧ X 1 k = M 1 k) : LJ G N X := by
  refine ⟨fun k hk hx => ?_, fun g hg p hp e => ?_⟩
  · rw [h2 k hk]; exact h.1 k hk (hz k hk hx)
  · rw [h9 g hg] at e
    exact Nat.le_trans (hs_mono N (fun k hk a b => ⟨(h0 k hk a).1, (h0 k hk a).2.symm.trans b, h2 k hk⟩)) (h.2 g hg p hp e)
theorem LJ.st (h : LJ G N M) (n : Nat) : LJ G N (mSt M n) := by
  obtain ⟨a1, a2, a3, a4⟩ := mSt_2 M n
  refine h.less (fun k _ => by rw [a1]) (fun g _ => by rw [a2]) (fun k _ hx z => ?_) (fun k _ hx => ?_)
  · rcases a4 k with e | e
    · exact hx (e.trans z)
    · exact hx e
  · rcases a4 k with e | e
    · exact ⟨e.symm.trans hx, by rw [a3]⟩
    · rw [e] at hx; exact absurd hx (by decide)
/-- one more is inside, and what it holds was free -/
theorem LJ.more (h : LJ G N M) {X : SS} {g j w : Nat} (hG4 : G ≤ 4) (hg : g < G) (w1 : 1 ≤ w) (w2 : w ≤ 9) (hf : nI w ≤ mFree M g N) (h1 : X 1 j = nI g) (h2 : X 2 j = nI w) (ho : ∀ k, k < N → k ≠ j → X 0 k = M 0 k ∧ X 1 k = M 1 k ∧ X 2 k = M 2 k) (h9 : ∀ g, g < G → X 9 g = M 9 g) : LJ G N X := by
  refine ⟨fun k hk hx => ?_, fun g' hg' p hp e => ?_⟩
  · by_cases hkj : k = j
    · rw [hkj, h2]; exact ⟨w, w1, w2, rfl⟩
    · obtain ⟨b1, b2, b3⟩ := ho k hk hkj
      rw [b3]; exact h.1 k hk (fun z => hx (b1.trans z))
  · rw [h9 g' hg'] at e
    by_cases hgg : g' = g
    · subst hgg
      obtain ⟨f1, f2⟩ := h.free hg hp e
      rw [f1] at hf
      have f3 := (nI_leI (by omega) (by omega)).mp hf
      have f4 := hs_add (M := M) (X := X) (g := g') (j := j) (w := w) (fun _ _ => by rw [h2, nI_clamp (by omega)]; exact Nat.le_refl w) N (fun k hk hkj a b => by
        obtain ⟨b1, b2, b3⟩ := ho k hk hkj
        exact ⟨b1.symm.trans a, b2.symm.trans b, b3⟩)
      split at f4
      · omega
      · omega
    · have f4 := hs_add (M := M) (X := X) (g := g') (j := j) (w := 0) (fun _ b => absurd (nI_inj12 (by omega) (by omega) (h1.symm.trans b)) (fun z => hgg z.symm)) N (fun k hk hkj a b => by
        obtain ⟨b1, b2, b3⟩ := ho k hk hkj
        exact ⟨b1.symm.trans a, b2.symm.trans b, b3⟩)
      have f5 := h.2 g' hg' p hp e
      split at f4
      · omega
      · omega
theorem LJ.opS (h : LJ G N M) (hN : N ≤ 12) (hG4 : G ≤ 4) {g : Nat} (hg : g < G) (hn : ¬ mNx M g N = -1) : LJ G N (mOpS M g N) := by
  obtain ⟨j, j1, j2, j3, j4⟩ := nx_at hN hn
  obtain ⟨w, w1, w2, w3⟩ := h.1 j j1 (by rw [j3]; decide)
  have hf := nx_fits hN (by omega) j2
  rw [w3] at hf
  have at8 := mOpS_at M g N j2 (by omega)
  refine h.more hG4 hg w1 w2 hf (j := j) ?_ ?_ (fun k hk hkj => ⟨?_, ?_, ?_⟩) (fun g' hg' => ?_)
  · rw [at8 1 j (by omega), if_neg (by omega)]; exact j4
  · rw [at8 2 j (by omega), if_neg (by omega)]; exact w3
  · rw [at8 0 k (by omega), if_neg (by omega)]
  · rw [at8 1 k (by omega), if_neg (by omega)]
  · rw [at8 2 k (by omega), if_neg (by omega)]
  · unfold mOpS
    rw [up2_r _ _ _ _ (by decide), up2_r _ _ _ _ (by decide)]
theorem LJ.opI (h : LJ G N M) (hN : N ≤ 12) (hG4 : G ≤ 4) {g : Nat} (hg : g < G) : ∀ i, i ≤ mOpN M g N → LJ G N (mOpI M g N i) := by
  intro i
  induction i with
  | zero => intro _; exact h
  | succ i ih => intro hi; exact (ih (by omega)).opS hN hG4 hg (mOpN_no (by omega))
theorem LJ.op (h : LJ G N M) (hN : N ≤ 12) (hG4 : G ≤ 4) : ∀ n, n ≤ G → LJ G N (mOp M N n) := by
  intro n
  induction n with
  | zero => intro _; exact h.st N
  | succ n ih => intro hn; exact (ih (by omega)).opI hN hG4 (by omega) _ (Nat.le_refl _)
theorem mWaT_9 (M : SS) (k : Nat) : mWaT M k 9 = M 9 := by
  unfold mWaT mWaA
  split
  · rfl
  · split
    · rw [up2_r _ _ _ _ (by decide), up2_r _ _ _ _ (by decide), up2_r _ _ _ _ (by decide), up2_r _ _ _ _ (by decide)]
    · rw [up2_r _ _ _ _ (by decide), up2_r _ _ _ _ (by decide)]
theorem mWa_9 (M : SS) : ∀ n, mWa M n 9 = M 9 := by
  intro n
  induction n with
  | zero => rfl
  | succ n ih => exact (mWaT_9 _ n).trans ih
theorem LJ.wa (h : LJ G N M) (n : Nat) : LJ G N (mWa M n) := by
  have hr : ∀ k a, a < 8 → mWa M n a k = if k < n then wc (co M k) a else M a k := fun k a ha => mWa_col M n k a (Or.inl ha)
  have h0 : ∀ k, M 0 k = 1 ∨ ¬ M 0 k = 1 := fun k => Decidable.em _
  refine h.less (fun k _ => ?_) (fun g _ => by rw [mWa_9]) (fun k _ hx z => hx ?_) (fun k _ hx => ?_)
  · rw [hr k 2 (by omega)]
    split
    · unfold wc; split <;> rfl
    · rfl
  · rw [hr k 0 (by omega)]
    split
    · unfold wc
      rw [if_neg (show ¬ co M k 0 = 1 from by show ¬ M 0 k = 1; rw [z]; decide)]; exact z
    · exact z
  · rw [hr k 0 (by omega)] at hx
    rw [hr k 1 (by omega)]
    split at hx
    · rename_i hk
      rw [if_pos hk]
      unfold wc at hx ⊢
      by_cases e : co M k 0 = 1
      · rw [if_pos e] at hx
        simp only [show ¬ (0 : Nat) = 5 from by decide, show ¬ (0 : Nat) = 6 from by decide, if_false, if_true] at hx
        split at hx
        · exact absurd hx (by decide)
        · exact absurd hx (by decide)
      · rw [if_neg e] at hx ⊢
        exact ⟨hx, rfl⟩
    · rename_i hk
      rw [if_neg hk]
      exact ⟨hx, rfl⟩
theorem LJ.min (h : LJ G N M) (hN : N ≤ 12) (hG4 : G ≤ 4) : LJ G N (mMin M G N) := by
  have h1 : LJ G N (mWg M N G N) := (h.op hN hG4 G (Nat.le_refl G)).wa N
  have hr : ∀ a, a ≠ 8 → mMin M G N a = mWg M N G N a := fun a ha => up2_r _ _ _ _ (fun z => ha z)
  exact h1.less (fun k _ => by rw [hr 2 (by decide)]) (fun g _ => by rw [hr 9 (by decide)]) (fun k _ hx => by rw [hr 0 (by decide)] at hx; exact hx) (fun k _ hx => by rw [hr 0 (by decide)] at hx; exact ⟨hx, by rw [hr 1 (by decide)]⟩)
theorem LJ.it (h : LJ G N M) (hN : N ≤ 12) (hG4 : G ≤ 4) : ∀ n, LJ G N (mIt M G N n) := by
  intro n
  induction n with
  | zero => exact h
  | succ n ih => exact ih.min hN hG4
theorem lj_Z0 : LJ 0 0 Z0 := ⟨fun k hk => absurd hk (Nat.not_lt_zero k), fun g hg => absurd hg (Nat.not_lt_zero g)⟩
variable {T : Nat} {S : SS} {Ls : Nat → List Nat}
theorem lj_addGate (h : LI T G N S M Ls) (hJ : LJ G N M) (hG : G < 4) {M' : SS} (hlow : ∀ c k, c < 9 ∨ c = 11 → M' c k = M c k) (hgt : ∀ g, g < G → M' 9 g = M 9 g ∧ M' 10 g = M 10 g) : LJ (G + 1) N M' := by
  refine ⟨fun k hk hx => ?_, fun g hg p hp e => ?_⟩
  · rw [hlow 2 k (by omega)]; rw [hlow 0 k (by omega)] at hx; exact hJ.1 k hk hx
  · by_cases hgG : g < G
    · rw [(hgt g hgG).1] at e
      exact Nat.le_trans (hs_mono N (fun k hk a b => ⟨(hlow 0 k (by omega)).symm.trans a, (hlow 1 k (by omega)).symm.trans b, hlow 2 k (by omega)⟩)) (hJ.2 g hgG p hp e)
    · obtain rfl : g = G := by omega
      rw [hs_zero N (fun k hk a b => ?_)]
      · exact Nat.zero_le p
      · rw [hlow 0 k (by omega)] at a
        rw [hlow 1 k (by omega)] at b
        have hgr := h.1.2.2.2.2.2.2.1.1 k hk
        obtain ⟨c1, -, -, ⟨g0, d1, d2⟩, -⟩ := rj_2 hgr ((h.st hk).symm.trans a)
        have := nI_inj12 (a := g0) (b := g) (by omega) (by omega) (d2.symm.trans (c1.symm.trans b))
        omega
theorem lj_addGoat (hJ : LJ G N M) {M' : SS} (hlow : ∀ c k, c < 11 → M' c k = M c k) (h0 : ∀ c, c < 8 → M' c N = 0) : LJ G (N + 1) M' := by
  refine ⟨fun k hk hx => ?_, fun g hg p hp e => ?_⟩
  · by_cases hkN : k = N
    · rw [hkN] at hx; exact absurd (h0 0 (by omega)) hx
    · rw [hlow 2 k (by omega)]; rw [hlow 0 k (by omega)] at hx; exact hJ.1 k (by omega) hx
  · rw [hlow 9 g (by omega)] at e
    have e1 : hsN M' g (N + 1) = hsN M' g N := by
      show hsN M' g N + (if M' 0 N = 2 ∧ M' 1 N = nI g then (M' 2 N).toNatClampNeg else 0) = hsN M' g N
      rw [if_neg (fun z => by rw [h0 0 (by omega)] at z; exact absurd z.1 (by decide))]
      omega
    rw [e1]
    exact Nat.le_trans (hs_mono N (fun k hk a b => ⟨(hlow 0 k (by omega)).symm.trans a, (hlow 1 k (by omega)).symm.trans b, hlow 2 k (by omega)⟩)) (hJ.2 g hg p hp e)
theorem lj_ask (hJ : LJ G N M) {k w : Nat} {g c d : Int32} (w1 : 1 ≤ w) (w2 : w ≤ 9) {M' : SS} (hrow : ∀ a b, a ≠ 7 → a < 12 → ¬ (a = 8 ∧ b = 3) → M' a b = askM M k g (nI w) c d a b) : LJ G N M' := by
  have e0 : M' 0 k = 1 := by rw [hrow 0 k (by omega) (by omega) (by omega)]; unfold askM; simp [up2_at]
  have e2 : M' 2 k = nI w := by rw [hrow 2 k (by omega) (by omega) (by omega)]; unfold askM; simp [up2_at]
  have eo : ∀ a b, a < 7 → b ≠ k → M' a b = M a b := fun a b ha hb => by rw [hrow a b (by omega) (by omega) (by omega)]; unfold askM; simp [up2_at, hb]
  have e9 : ∀ b, M' 9 b = M 9 b := fun b => by rw [hrow 9 b (by omega) (by omega) (by omega)]; unfold askM; simp [up2_at]
  refine ⟨fun i hi hx => ?_, fun g' hg p hp e => ?_⟩
  · by_cases hik : i = k
    · rw [hik, e2]; exact ⟨w, w1, w2, rfl⟩
    · rw [eo 2 i (by omega) hik]; rw [eo 0 i (by omega) hik] at hx; exact hJ.1 i hi hx
  · rw [e9] at e
    refine Nat.le_trans (hs_mono N (fun i hi a b => ?_)) (hJ.2 g' hg p hp e)
    by_cases hik : i = k
    · rw [hik, e0] at a; exact absurd a (by decide)
    · exact ⟨(eo 0 i (by omega) hik).symm.trans a, (eo 1 i (by omega) hik).symm.trans b, eo 2 i (by omega) hik⟩
theorem lj_barge (hJ : LJ G N M) (hG4 : G ≤ 4) {k w g : Nat} {c : Int32} (hg : g < G) (w1 : 1 ≤ w) (w2 : w ≤ 9) (hf : nI w ≤ mFree M g N) {M' : SS} (hrow : ∀ a b, a < 12 → M' a b = bargeM M k (nI g) (nI w) c a b) : LJ G N M' := by
  refine hJ.more hG4 hg w1 w2 hf (j := k) ?_ ?_ (fun i hi hik => ⟨?_, ?_, ?_⟩) (fun g' _ => ?_)
  · rw [hrow 1 k (by omega)]; unfold bargeM; simp [up2_at]
  · rw [hrow 2 k (by omega)]; unfold bargeM; simp [up2_at]
  · rw [hrow 0 i (by omega)]; unfold bargeM; simp [up2_at, hik]
  · rw [hrow 1 i (by omega)]; unfold bargeM; simp [up2_at, hik]
  · rw [hrow 2 i (by omega)]; unfold bargeM; simp [up2_at, hik]
  · rw [hrow 9 g' (by omega)]; unfold bargeM; simp [up2_at]
theorem lj_callBack (hJ : LJ G N M) {k : Nat} {M' : SS} (hrow : ∀ a b, a < 12 → M' a b = up2 M 0 k 0 a b) : LJ G N M' := by
  refine hJ.less (fun i _ => ?_) (fun g _ => ?_) (fun i _ hx z => hx ?_) (fun i _ hx => ?_)
  · rw [hrow 2 i (by omega), up2_r _ _ _ _ (by decide)]
  · rw [hrow 9 g (by omega), up2_r _ _ _ _ (by decide)]
  · rw [hrow 0 i (by omega), up2_at]
    split
    · rfl
    · exact z
  · rw [hrow 0 i (by omega), up2_at] at hx
    rw [hrow 1 i (by omega), up2_r _ _ _ _ (by decide)]
    split at hx
    · exact absurd hx (by decide)
    · exact ⟨hx, rfl⟩
end LJS
