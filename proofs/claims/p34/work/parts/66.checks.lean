/-! What the law asks of each goat and gate (pure). -/
theorem up2_o (S : SS) (k i : Nat) (v : Int32) {a : Nat} (h : a ≠ k) : up2 S k i v a = S a := by
  funext j
  rw [up2_at, if_neg (fun z => h z.1)]
/-- rows that a minute leaves -/
theorem min_o (M : SS) {G N a : Nat} (h0 : a ≠ 0) (h3 : a ≠ 3) (h5 : a ≠ 5) (h6 : a ≠ 6) (h8 : a ≠ 8) : mMin M G N a = M a := by
  have w7 : ∀ (X : SS) (k : Nat), mWaT X k a = X a := fun X k => by
    unfold mWaT mWaA
    split
    · rfl
    · split
      · rw [up2_o _ _ _ _ h8, up2_o _ _ _ _ h0, up2_o _ _ _ _ h6, up2_o _ _ _ _ h5]
      · rw [up2_o _ _ _ _ h6, up2_o _ _ _ _ h5]
  have w : ∀ (X : SS) n, mWa X n a = X a := fun X n => by
    induction n with
    | zero => rfl
    | succ n ih => exact (w7 _ n).trans ih
  have s7 : ∀ (X : SS) (k : Nat), mStT X k a = X a := fun X k => by
    unfold mStT
    split
    · rfl
    · split
      · rw [up2_o _ _ _ _ h0, up2_o _ _ _ _ h3]
      · rw [up2_o _ _ _ _ h3]
  have st : ∀ (X : SS) n, mSt X n a = X a := fun X n => by
    induction n with
    | zero => rfl
    | succ n ih => exact (s7 _ n).trans ih
  have o : ∀ (X : SS) g n, mOpI X g N n a = X a := fun X g n => by
    induction n with
    | zero => rfl
    | succ n ih =>
      have e : mOpI X g N (n + 1) = mOpS (mOpI X g N n) g N := rfl
      rw [e]
      unfold mOpS
      rw [up2_o _ _ _ _ h8, up2_o _ _ _ _ h0]
      exact ih
  have p : ∀ g, mOp M N g a = M a := fun g => by
    induction g with
    | zero => exact st M N
    | succ g ih => exact (o _ g _).trans ih
  unfold mMin
  rw [up2_o _ _ _ _ h8]
  exact (w _ N).trans (p G)
theorem it_o (M : SS) {G N a : Nat} (h0 : a ≠ 0) (h3 : a ≠ 3) (h5 : a ≠ 5) (h6 : a ≠ 6) (h8 : a ≠ 8) : ∀ n, mIt M G N n a = M a := by
  intro n
  induction n with
  | zero => rfl
  | succ n ih => exact (min_o _ h0 h3 h5 h6 h8).trans ih
section CK
variable {T G N : Nat} {S M : SS} {Ls : Nat → List Nat}
theorem LI.rel (h : LI T G N S M Ls) : Rel G N S M := h.1.2.2.2.2.2.2.1
theorem LI.at (h : LI T G N S M Ls) {k : Nat} (hk : k < N) : (S 9 k = 0 ∧ S 10 k = -1) ∨ (¬ S 9 k = 0 ∧ ∃ g, g < G ∧ S 10 k = nI g) := by
  have hgr := h.gr hk
  rcases rj_z hgr with e | e | e
  · exact Or.inl ⟨e, (rj_0 hgr e).1⟩
  · obtain ⟨-, -, -, -, hg, -⟩ := rj_1 hgr e
    exact Or.inr ⟨by rw [e]; decide, hg⟩
  · obtain ⟨-, -, -, hg, -⟩ := rj_2 hgr e
    exact Or.inr ⟨by rw [e]; decide, hg⟩
theorem LI.hd (h : LI T G N S M Ls) (hJ : LJ G N M) {k : Nat} (hk : k < N) : (¬ S 9 k = 2 ∧ gxHeld S k = 0) ∨ (S 9 k = 2 ∧ ∃ w, 1 ≤ w ∧ w ≤ 9 ∧ gxHeld S k = nI w) := by
  have hgr := h.gr hk
  by_cases e : S 9 k = 2
  · obtain ⟨w, w1, w2, w3⟩ := hJ.1 k hk (by rw [h.st hk, e]; decide)
    refine Or.inr ⟨e, w, w1, w2, ?_⟩
    rw [← r_held hgr, ← w3]
    exact if_neg (by rw [show mIs M k 2 = 1 from if_pos ((h.st hk).trans e)]; decide)
  · exact Or.inl ⟨e, if_neg e⟩
theorem LI.lf (h : LI T G N S M Ls) {k : Nat} (hk : k < N) : (S 9 k = 0 ∧ S 13 k = 0) ∨ (¬ S 9 k = 0 ∧ ∃ c, 1 ≤ c ∧ c ≤ 60 ∧ S 13 k = nI c) := by
  have hgr := h.gr hk
  rcases rj_z hgr with e | e | e
  · exact Or.inl ⟨e, (rj_0 hgr e).2.1⟩
  · obtain ⟨-, -, -, -, -, a, b, c, h1, h2, -, -, -, -, -, h3, -⟩ := rj_1 hgr e
    exact Or.inr ⟨by rw [e]; decide, b - a, by omega, by omega, h3⟩
  · obtain ⟨-, -, -, -, c, h1, h2, h3, -⟩ := rj_2 hgr e
    exact Or.inr ⟨by rw [e]; decide, c, h1, by omega, h3⟩
theorem ixo_lt {k : Nat} {l : List Nat} (h : k ∈ l) : ixo k l < l.length := by
  have := ixo_at h
  rcases Nat.lt_or_ge (ixo k l) l.length with z | z
  · exact z
  · rw [List.getElem?_eq_none z] at this; cases this
theorem LI.pc (h : LI T G N S M Ls) {k : Nat} (hk : k < N) : (¬ S 9 k = 1 ∧ gxPl S N k = -1) ∨ (S 9 k = 1 ∧ ∃ g, g < G ∧ S 10 k = nI g ∧ M 1 k = nI g ∧ k ∈ Ls g ∧ gxPl S N k = nI (ixo k (Ls g)) ∧ ixo k (Ls g) < (Ls g).length ∧ (Ls g).length ≤ 12) := by
  by_cases e : S 9 k = 1
  · have e0 : M 0 k = 1 := (h.st hk).trans e
    obtain ⟨g, g1, g2⟩ := h.2.1.1 k hk e0
    have hm := ((h.2.1.2 g g1).1 k).mpr ⟨hk, e0, g2⟩
    have e1 := h.pl hk (g := g) (fun _ => ⟨g2, g1⟩)
    refine Or.inr ⟨e, g, g1, (rj_1 (h.gr hk) e).1.symm.trans g2, g2, hm, ?_, ixo_lt hm, (h.2.1.lb h.1.1 g1).1⟩
    rw [← e1]
    exact if_pos e0
  · exact Or.inl ⟨e, if_neg e⟩
theorem LI.un (h : LI T G N S M Ls) {k : Nat} (hk : k < N) : gxUn S G N k = -1 ∨ (S 9 k = 1 ∧ ∃ m, 1 ≤ m ∧ m ≤ 60 ∧ gxUn S G N k = nI m ∧ ∃ c, m ≤ c ∧ c ≤ 60 ∧ S 13 k = nI c) := by
  have hN := h.1.1
  have hG4 := h.1.2.1
  have hr := h.rel
  have hu := r_hu hr hN hG4 hk
  rw [r_un hr hN hG4 hk]
  by_cases e : M 0 k = 1
  · unfold mUn
    rw [if_neg (show ¬ mIs M k 1 = 0 from by rw [show mIs M k 1 = 1 from if_pos e]; decide)]
    unfold mUnR
    split
    · exact Or.inl rfl
    · have e9 : S 9 k = 1 := (h.st hk).symm.trans e
      have hw : ∀ i, i < mUnN M G N k → mIt M G N i 0 k = 1 := fun i hi => unN_no hi
      have hpos : 0 < mUnN M G N k := by
        rcases Nat.eq_zero_or_pos (mUnN M G N k) with z | z
        · have := unN_yes hu
          rw [z] at this
          exact absurd e this
        · exact z
      have h5 := mIt_5 (G := G) (M := M) hN hk (mUnN M G N k - 1) (fun i hi => hw i (by omega))
      have hl := (r_it hr hN hG4 (mUnN M G N k - 1)).1 k hk
      obtain ⟨-, -, -, -, -, a, b, c, h1, h2, -, -, -, f2, f3, f4, -⟩ := rj_1 (h.gr hk) e9
      obtain ⟨-, -, -, -, -, a', b', c', d1, d2, -, -, -, g2, g3, -, -⟩ := rj_1 hl ((rj_st hl).symm.trans (hw _ (by omega)))
      rw [it_o M (a := 4) (by decide) (by decide) (by decide) (by decide) (by decide), f3] at g3
      rw [f2, g2, nI_add] at h5
      have e1 := (nI_eq (by omega) (by omega)).mp h5
      have e2 := (nI_eq (by omega) (by omega)).mp g3
      exact Or.inr ⟨e9, mUnN M G N k, hpos, by omega, rfl, b - a, by omega, by omega, f4⟩
  · exact Or.inl (if_pos (show mIs M k 1 = 0 from if_neg e))
/-- permits held at a gate, by the first goats -/
def hel (S : SS) : Nat → Nat → Int32
  | 0, _ => 0
  | n + 1, g => if S 10 n = nI g then hel S n g + gxHeld S n else hel S n g
/-- the places of those who wait at a gate, as bits -/
def lnm (S : SS) (N : Nat) : Nat → Nat → Int32
  | 0, _ => 0
  | n + 1, g => if S 9 n = 1 ∧ S 10 n = nI g then lnm S N n g ||| ((1 : Int32) <<< (gxPl S N n &&& 31)) else lnm S N n g
theorem hel_eq (S : SS) (g : Nat) : ∀ n, gxFree S g n = S 5 g - hel S n g := by
  intro n
  induction n with
  | zero => exact (Int32.sub_zero _).symm
  | succ n ih =>
    show (if S 9 n = 2 then (if S 10 n = nI g then gxFree S g n - S 11 n else gxFree S g n) else gxFree S g n) = S 5 g - (if S 10 n = nI g then hel S n g + (if S 9 n = 2 then S 11 n else 0) else hel S n g)
    rw [ih]
    by_cases h2 : S 9 n = 2
    · rw [if_pos h2, if_pos h2]
      by_cases h3 : S 10 n = nI g
      · rw [if_pos h3, if_pos h3]
        generalize hel S n g = a
        generalize S 5 g = b
        generalize S 11 n = c
        rw [Int32.sub_eq_add_neg, Int32.sub_eq_add_neg, Int32.sub_eq_add_neg, Int32.neg_add, Int32.sub_eq_add_neg, Int32.add_assoc]
      · rw [if_neg h3, if_neg h3]
    · rw [if_neg h2, if_neg h2, Int32.add_zero, ite_self]
theorem LI.fp (h : LI T G N S M Ls) (hJ : LJ G N M) {g : Nat} (hg : g < G) : ∃ a, a ≤ 9 ∧ gxFree S g N = nI a := by
  obtain ⟨p, p1, p2, p3⟩ := h.2.2.2.1 g hg
  obtain ⟨f1, f2⟩ := hJ.free hg p2 p3
  exact ⟨p - hsN M g N, by omega, (h.fr hg).symm.trans f1⟩
theorem tb_ext {x y : Int32} (h : ∀ k, k < 32 → tb x k = tb y k) : x = y := by
  rw [← Int32.toBitVec_inj]
  exact BitVec.eq_of_getLsbD_eq (fun i hi => h i hi)
theorem tb_one2 : ∀ j, j < 12 → ∀ k, k < 32 → tb ((1 : Int32) <<< (nI j &&& 31)) k = decide (j = k) := by decide +kernel
theorem tb_full : ∀ c, c < 13 → ∀ k, k < 32 → tb (((1 : Int32) <<< (nI c &&& 31)) - 1) k = decide (k < c) := by decide +kernel
theorem LI.ln (h : LI T G N S M Ls) {g : Nat} (hg : g < G) : lnm S N N g = ((1 : Int32) <<< (gxWat S (nI g) N &&& 31)) - 1 := by
  have hG4 := h.1.2.1
  rw [h.len hg]
  have hlb := (h.2.1.lb h.1.1 hg).1
  have key : ∀ n, n ≤ N → ∀ j, j < 32 → (tb (lnm S N n g) j = true ↔ ∃ k, k < n ∧ S 9 k = 1 ∧ S 10 k = nI g ∧ ixo k (Ls g) = j) := by
    intro n
    induction n with
    | zero =>
      intro _ j _
      rw [show lnm S N 0 g = 0 from rfl, tb_zero]
      constructor
      · intro z; cases z
      · rintro ⟨k, hk, -⟩; omega
    | succ n ih =>
      intro hn j hj
      have ihj := ih (by omega) j hj
      show tb (if S 9 n = 1 ∧ S 10 n = nI g then lnm S N n g ||| ((1 : Int32) <<< (gxPl S N n &&& 31)) else lnm S N n g) j = true ↔ _
      by_cases hc : S 9 n = 1 ∧ S 10 n = nI g
      · rw [if_pos hc]
        rcases h.pc (k := n) (by omega) with ⟨z, -⟩ | ⟨-, g', g1, g2, g3, g4, g5, g6, g7⟩
        · exact absurd hc.1 z
        · have : g' = g := nI_inj12 (by omega) (by omega) (g2.symm.trans hc.2)
          subst this
          rw [g5, tb_or, tb_one2 _ (by omega) j hj, Bool.or_eq_true, ihj, decide_eq_true_iff]
          constructor
          · rintro (⟨k, k1, k2⟩ | e)
            · exact ⟨k, by omega, k2⟩
            · exact ⟨n, by omega, hc.1, hc.2, e⟩
          · rintro ⟨k, k1, k2, k3, k4⟩
            by_cases hkn : k = n
            · subst hkn; exact Or.inr k4
            · exact Or.inl ⟨k, by omega, k2, k3, k4⟩
      · rw [if_neg hc, ihj]
        constructor
        · rintro ⟨k, k1, k2⟩; exact ⟨k, by omega, k2⟩
        · rintro ⟨k, k1, k2, k3, k4⟩
          refine ⟨k, ?_, k2, k3, k4⟩
          have : k ≠ n := fun e => hc (by rw [← e]; exact ⟨k2, k3⟩)
          omega
  refine tb_ext (fun j hj => ?_)
  rw [tb_full _ (by omega) j hj]
  apply Bool.eq_iff_iff.mpr
  rw [key N (Nat.le_refl N) j hj, decide_eq_true_iff]
  obtain ⟨hm, hp⟩ := h.2.1.2 g hg
  constructor
  · rintro ⟨k, k1, k2, k3, k4⟩
    have hk : k ∈ Ls g := (hm k).mpr ⟨k1, (h.st k1).trans k2, (rj_1 (h.gr k1) k2).1.trans k3⟩
    have := ixo_lt hk
    omega
  · intro hjl
    have hmem : (Ls g)[j] ∈ Ls g := List.getElem_mem hjl
    obtain ⟨k1, k2, k3⟩ := (hm _).mp hmem
    refine ⟨(Ls g)[j], k1, (h.st k1).symm.trans k2, ?_, ?_⟩
    · exact (rj_1 (h.gr k1) ((h.st k1).symm.trans k2)).1.symm.trans k3
    · have e1 := ixo_at hmem
      have e2 := ixo_lt hmem
      rw [List.getElem?_eq_getElem e2] at e1
      have e3 := Option.some.inj e1
      rcases Nat.lt_trichotomy (ixo (Ls g)[j] (Ls g)) j with z | z | z
      · have := List.pairwise_iff_getElem.mp hp _ _ e2 hjl z
        rw [e3] at this
        exact absurd this (Int32.lt_irrefl)
      · exact z
      · exact absurd rfl (ixo_no z (List.getElem?_eq_getElem hjl))
end CK
