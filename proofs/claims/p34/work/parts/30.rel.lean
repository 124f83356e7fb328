/-! The class and the reference side by side: their states and answers agree. -/
abbrev co (S : SS) (k : Nat) : Nat → Int32 := fun a => S a k
/-- one goat's numbers in the class and in the reference -/
def gr (G : Nat) (s m : Nat → Int32) : Prop := m 0 = s 9 ∧ m 11 = s 8 ∧ m 6 = s 16 ∧ (∃ h, 1 ≤ h ∧ h ≤ 9 ∧ s 8 = nI h) ∧ ((s 9 = 0 ∧ s 10 = -1 ∧ s 13 = 0 ∧ s 15 = 0) ∨ (s 9 = 1 ∧ m 1 = s 10 ∧ m 2 = s 11 ∧ m 3 = s 12 ∧ m 7 = s 14 ∧ (∃ g, g < G ∧ s 10 = nI g) ∧ (∃ a b c, a < b ∧ b ≤ 60 ∧ 1 ≤ c ∧ c ≤ 30 ∧ s 15 = nI a ∧ m 5 = nI a ∧ m 4 = nI b ∧ s 13 = nI (b - a) ∧ s 12 = nI c)) ∨ (s 9 = 2 ∧ m 1 = s 10 ∧ m 2 = s 11 ∧ s 15 = 0 ∧ (∃ g, g < G ∧ s 10 = nI g) ∧ (∃ c, 1 ≤ c ∧ c ≤ 30 ∧ s 13 = nI c ∧ m 3 = nI c)))
def gts (G : Nat) (S M : SS) : Prop := ∀ g, g < G → M 9 g = S 5 g ∧ M 10 g = S 6 g ∧ (S 6 g = 0 ∨ S 6 g = 1)
def grs (G N : Nat) (S M : SS) : Prop := ∀ k, k < N → gr G (co S k) (co M k)
theorem mIs0 (M : SS) (k : Nat) (w : Int32) : mIs M k w = 0 ↔ ¬ M 0 k = w := by
  unfold mIs
  split
  · rename_i h; exact ⟨fun z => absurd z (by decide), fun z => absurd h z⟩
  · rename_i h; exact ⟨fun _ => h, fun _ => rfl⟩
section GR
variable {G : Nat} {S M : SS} {k : Nat}
theorem rj_st (h : gr G (co S k) (co M k)) : M 0 k = S 9 k := h.1
theorem rj_hn (h : gr G (co S k) (co M k)) : M 11 k = S 8 k := h.2.1
theorem rj_to (h : gr G (co S k) (co M k)) : M 6 k = S 16 k := h.2.2.1
theorem rj_h (h : gr G (co S k) (co M k)) : ∃ a, 1 ≤ a ∧ a ≤ 9 ∧ S 8 k = nI a := h.2.2.2.1
theorem rj_z (h : gr G (co S k) (co M k)) : S 9 k = 0 ∨ S 9 k = 1 ∨ S 9 k = 2 := by
  rcases h.2.2.2.2 with h1 | h1 | h1
  · exact Or.inl h1.1
  · exact Or.inr (Or.inl h1.1)
  · exact Or.inr (Or.inr h1.1)
theorem n01 {x : Int32} (h : x = 0) (h1 : x = 1) : False := absurd (h.symm.trans h1) (by decide)
theorem n02 {x : Int32} (h : x = 0) (h1 : x = 2) : False := absurd (h.symm.trans h1) (by decide)
theorem n12 {x : Int32} (h : x = 1) (h1 : x = 2) : False := absurd (h.symm.trans h1) (by decide)
theorem rj_0 (h : gr G (co S k) (co M k)) (h9 : S 9 k = 0) : S 10 k = -1 ∧ S 13 k = 0 ∧ S 15 k = 0 := by
  rcases h.2.2.2.2 with h1 | h1 | h1
  · exact h1.2
  · exact (n01 h9 h1.1).elim
  · exact (n02 h9 h1.1).elim
theorem rj_1 (h : gr G (co S k) (co M k)) (h9 : S 9 k = 1) : M 1 k = S 10 k ∧ M 2 k = S 11 k ∧ M 3 k = S 12 k ∧ M 7 k = S 14 k ∧ (∃ g, g < G ∧ S 10 k = nI g) ∧ (∃ a b c, a < b ∧ b ≤ 60 ∧ 1 ≤ c ∧ c ≤ 30 ∧ S 15 k = nI a ∧ M 5 k = nI a ∧ M 4 k = nI b ∧ S 13 k = nI (b - a) ∧ S 12 k = nI c) := by
  rcases h.2.2.2.2 with h1 | h1 | h1
  · exact (n01 h1.1 h9).elim
  · exact h1.2
  · exact (n12 h9 h1.1).elim
theorem rj_2 (h : gr G (co S k) (co M k)) (h9 : S 9 k = 2) : M 1 k = S 10 k ∧ M 2 k = S 11 k ∧ S 15 k = 0 ∧ (∃ g, g < G ∧ S 10 k = nI g) ∧ (∃ c, 1 ≤ c ∧ c ≤ 30 ∧ S 13 k = nI c ∧ M 3 k = nI c) := by
  rcases h.2.2.2.2 with h1 | h1 | h1
  · exact (n02 h1.1 h9).elim
  · exact (n12 h1.1 h9).elim
  · exact h1.2
theorem rj_wt (h : gr G (co S k) (co M k)) (g : Int32) : mAt M k g = gxWt S k g := by
  unfold mAt gxWt
  by_cases h9 : S 9 k = 1
  · rw [if_neg (fun z => (mIs0 M k 1).mp z ((rj_st h).trans h9)), if_pos h9, (rj_1 h h9).1]
  · rw [if_pos ((mIs0 M k 1).mpr (fun z => h9 ((rj_st h).symm.trans z))), if_neg h9]
theorem gxWt_1 {g : Int32} (h : ¬ gxWt S k g = 0) : S 9 k = 1 ∧ S 10 k = g := by
  unfold gxWt at h
  by_cases h9 : S 9 k = 1
  · rw [if_pos h9] at h
    by_cases h10 : S 10 k = g
    · exact ⟨h9, h10⟩
    · rw [if_neg h10] at h; exact absurd rfl h
  · rw [if_neg h9] at h; exact absurd rfl h
theorem rj_se (h : gr G (co S k) (co M k)) : mSeem M k = gxSeem S k := by
  unfold mSeem gxSeem mSeI
  rw [rj_hn h]
  rcases rj_z h with h9 | h9 | h9
  · rw [if_pos ((mIs0 M k 1).mpr (fun z => n01 h9 ((rj_st h).symm.trans z))), (rj_0 h h9).2.2]
    rfl
  · obtain ⟨_, _, _, _, _, a, b, c, _, _, _, _, e1, e2, _⟩ := rj_1 h h9
    rw [if_neg (fun z => (mIs0 M k 1).mp z ((rj_st h).trans h9)), e1, e2]
  · rw [if_pos ((mIs0 M k 1).mpr (fun z => n12 ((rj_st h).symm.trans z) h9)), (rj_2 h h9).2.2.1]
    rfl
theorem div3 : ∀ a, a < 60 → nI a / 3 = nI (a / 3) := by decide +kernel
theorem rj_sp (h : gr G (co S k) (co M k)) : 0 < gxSeem S k := by
  obtain ⟨x, h1, h2, e⟩ := rj_h h
  unfold gxSeem
  rw [e]
  have key : ∀ a, a < 60 → (0 : Int32) < nI x + nI a / 3 := by
    intro a ha
    rw [div3 a ha, nI_add]
    exact (nI_ltI (a := 0) (by decide) (by omega)).mpr (by omega)
  rcases rj_z h with h9 | h9 | h9
  · rw [(rj_0 h h9).2.2]; exact key 0 (by decide)
  · obtain ⟨_, _, _, _, _, a, b, c, h3, h4, _, _, e1, _⟩ := rj_1 h h9
    rw [e1]; exact key a (by omega)
  · rw [(rj_2 h h9).2.2.1]; exact key 0 (by decide)
end GR
section RL
variable {G N : Nat} {S M : SS}
theorem r_free (h : grs G N S M) {g : Nat} (hp : M 9 g = S 5 g) : ∀ n, n ≤ N → mFree M g n = gxFree S g n := by
  intro n
  induction n with
  | zero => intro _; exact hp
  | succ n ih =>
    intro hn
    have e := ih (by omega)
    have hk := h n (by omega)
    show (if mIs M n 2 = 0 then mFree M g n else if M 1 n = nI g then mFree M g n - M 2 n else mFree M g n) = (if S 9 n = 2 then if S 10 n = nI g then gxFree S g n - S 11 n else gxFree S g n else gxFree S g n)
    by_cases h9 : S 9 n = 2
    · rw [if_neg (fun z => (mIs0 M n 2).mp z ((rj_st hk).trans h9)), if_pos h9, (rj_2 hk h9).1, (rj_2 hk h9).2.1, e]
    · rw [if_pos ((mIs0 M n 2).mpr (fun z => h9 ((rj_st hk).symm.trans z))), if_neg h9, e]
theorem cl_nI {j : Nat} (h : j < 12) : (nI j).toNatClampNeg = j := nI_clamp (by omega)
theorem nI_m1 {j : Nat} (h : j < 12) : ¬ nI j = -1 := fun z => nI_pos (n := j) (by omega) (by rw [z]; decide)
theorem m1_neg : (-1 : Int32) < 0 := by decide
/-- first come, first served: the first in the line -/
theorem r_fst (h : grs G N S M) (hN : N ≤ 12) (fr : Int32) (g : Nat) : ∀ n, n ≤ N → (gxFiL S fr 0 g n).2 = 0 ∧ mFst M g n = (gxFiL S fr 0 g n).1 ∧ ((gxFiL S fr 0 g n).1 = -1 ∨ ∃ j, j < n ∧ (gxFiL S fr 0 g n).1 = nI j ∧ S 9 j = 1) := by
  intro n
  induction n with
  | zero => intro _; exact ⟨rfl, rfl, Or.inl rfl⟩
  | succ n ih =>
    intro hn
    obtain ⟨e2, e1, e3⟩ := ih (by omega)
    have hk := h n (by omega)
    have eS : gxFiL S fr 0 g (n + 1) = gxFiS S fr 0 g n (gxFiL S fr 0 g n) := rfl
    have eM : mFst M g (n + 1) = if mAt M n (nI g) = 0 then mFst M g n else (if mFst M g n = -1 then nI n else (if M 7 (mFst M g n).toNatClampNeg ≤ M 7 n then mFst M g n else nI n)) := rfl
    rw [eS, eM, rj_wt hk, e1]
    generalize gxFiL S fr 0 g n = q at e1 e2 e3
    obtain ⟨f, b⟩ := q
    simp only at e1 e2 e3 ⊢
    subst e2
    have eL : gxLn S 0 n = 0 := if_pos rfl
    unfold gxFiS
    dsimp only
    by_cases hw : gxWt S n (nI g) = 0
    · have ec : gxCo S fr 0 g n = 0 := if_pos hw
      rw [if_pos ec, if_pos hw]
      refine ⟨rfl, rfl, ?_⟩
      rcases e3 with e3 | ⟨j, h1, h2, h3⟩
      · exact Or.inl e3
      · exact Or.inr ⟨j, by omega, h2, h3⟩
    · have ec : ¬ gxCo S fr 0 g n = 0 := by unfold gxCo; rw [if_neg hw, if_pos rfl]; decide
      rw [if_neg ec, if_neg hw, eL, if_neg (show ¬ (0 : Int32) < 0 by decide), if_pos (rfl : (0 : Int32) = 0)]
      have h9 := (gxWt_1 hw).1
      rcases e3 with e3 | ⟨j, h1, h2, h3⟩
      · have er : ¬ gxEr S f n = 0 := by unfold gxEr; rw [e3, if_pos m1_neg]; decide
        rw [if_neg er, if_pos e3]
        exact ⟨rfl, rfl, Or.inr ⟨n, by omega, rfl, h9⟩⟩
      · subst h2
        have er : gxEr S (nI j) n = if S 14 j ≤ S 14 n then 0 else 1 := by unfold gxEr; rw [if_neg (nI_pos (by omega)), cl_nI (by omega)]
        have hne : ¬ nI j = -1 := nI_m1 (by omega)
        rw [if_neg hne, cl_nI (by omega), (rj_1 hk h9).2.2.2.1, (rj_1 (h j (by omega)) h3).2.2.2.1]
        by_cases hq : S 14 j ≤ S 14 n
        · rw [if_pos (show gxEr S (nI j) n = 0 by rw [er, if_pos hq]), if_pos hq]
          exact ⟨rfl, rfl, Or.inr ⟨j, by omega, rfl, h3⟩⟩
        · rw [if_neg (show ¬ gxEr S (nI j) n = 0 by rw [er, if_neg hq]; decide), if_neg hq]
          exact ⟨rfl, rfl, Or.inr ⟨n, by omega, rfl, h9⟩⟩
/-- the biggest horns that fit -/
theorem r_nb (h : grs G N S M) (hN : N ≤ 12) (fr : Int32) (g : Nat) : ∀ n, n ≤ N → mNb M fr g n = (gxFiL S fr 1 g n).1 ∧ (((gxFiL S fr 1 g n).1 = -1 ∧ (gxFiL S fr 1 g n).2 = 0) ∨ ∃ j, j < n ∧ (gxFiL S fr 1 g n).1 = nI j ∧ (gxFiL S fr 1 g n).2 = gxSeem S j ∧ S 9 j = 1 ∧ ¬ fr < S 11 j) := by
  intro n
  induction n with
  | zero => intro _; exact ⟨rfl, Or.inl ⟨rfl, rfl⟩⟩
  | succ n ih =>
    intro hn
    obtain ⟨e1, e3⟩ := ih (by omega)
    have hk := h n (by omega)
    have eS : gxFiL S fr 1 g (n + 1) = gxFiS S fr 1 g n (gxFiL S fr 1 g n) := rfl
    have eM : mNb M fr g (n + 1) = if mAt M n (nI g) = 0 then mNb M fr g n else (if M 2 n ≤ fr then (if mNb M fr g n = -1 then nI n else (if mSeem M (mNb M fr g n).toNatClampNeg < mSeem M n then nI n else (if mSeem M n = mSeem M (mNb M fr g n).toNatClampNeg then (if M 7 (mNb M fr g n).toNatClampNeg ≤ M 7 n then mNb M fr g n else nI n) else mNb M fr g n))) else mNb M fr g n) := rfl
    rw [eS, eM, rj_wt hk, e1]
    generalize gxFiL S fr 1 g n = q at e1 e3
    obtain ⟨f, b⟩ := q
    simp only at e1 e3 ⊢
    have eL : gxLn S 1 n = gxSeem S n := if_neg (by decide)
    have keep : (f = -1 ∧ b = 0) ∨ ∃ j, j < n + 1 ∧ f = nI j ∧ b = gxSeem S j ∧ S 9 j = 1 ∧ ¬ fr < S 11 j := by
      rcases e3 with e3 | ⟨j, h1, h2⟩
      · exact Or.inl e3
      · exact Or.inr ⟨j, by omega, h2⟩
    unfold gxFiS
    dsimp only
    by_cases hw : gxWt S n (nI g) = 0
    · have ec : gxCo S fr 1 g n = 0 := if_pos hw
      rw [if_pos ec, if_pos hw]
      exact ⟨rfl, keep⟩
    · have h9 := (gxWt_1 hw).1
      have e11 := (rj_1 hk h9).2.1
      by_cases hf : fr < S 11 n
      · have ec : gxCo S fr 1 g n = 0 := by unfold gxCo; rw [if_neg hw, if_neg (by decide), if_pos hf]
        rw [if_pos ec, if_neg hw, e11, if_neg (Int32.not_le.mpr hf)]
        exact ⟨rfl, keep⟩
      · have ec : ¬ gxCo S fr 1 g n = 0 := by unfold gxCo; rw [if_neg hw, if_neg (by decide), if_neg hf]; decide
        rw [if_neg ec, if_neg hw, e11, if_pos (Int32.not_lt.mp hf), eL]
        rcases e3 with ⟨e3, e4⟩ | ⟨j, h1, h2, h3, h4, h5⟩
        · subst e4
          rw [if_pos e3, if_pos (rj_sp hk)]
          exact ⟨rfl, Or.inr ⟨n, by omega, rfl, rfl, h9, hf⟩⟩
        · have hj := h j (by omega)
          subst h2
          subst h3
          have er : gxEr S (nI j) n = if S 14 j ≤ S 14 n then 0 else 1 := by unfold gxEr; rw [if_neg (nI_pos (by omega)), cl_nI (by omega)]
          have hne : ¬ nI j = -1 := nI_m1 (by omega)
          rw [if_neg hne, cl_nI (by omega), rj_se hk, rj_se hj, (rj_1 hk h9).2.2.2.1, (rj_1 hj h4).2.2.2.1]
          by_cases hlt : gxSeem S j < gxSeem S n
          · rw [if_pos hlt, if_pos hlt]
            exact ⟨rfl, Or.inr ⟨n, by omega, rfl, rfl, h9, hf⟩⟩
          · rw [if_neg hlt, if_neg hlt]
            by_cases heq : gxSeem S n = gxSeem S j
            · rw [if_pos heq, if_pos heq]
              by_cases hq : S 14 j ≤ S 14 n
              · rw [if_pos (show gxEr S (nI j) n = 0 by rw [er, if_pos hq]), if_pos hq]
                exact ⟨rfl, Or.inr ⟨j, by omega, rfl, rfl, h4, h5⟩⟩
              · rw [if_neg (show ¬ gxEr S (nI j) n = 0 by rw [er, if_neg hq]; decide), if_neg hq]
                exact ⟨rfl, Or.inr ⟨n, by omega, rfl, heq.symm ▸ rfl, h9, hf⟩⟩
            · rw [if_neg heq, if_neg heq]
              exact ⟨rfl, Or.inr ⟨j, by omega, rfl, rfl, h4, h5⟩⟩
/-- who is let in next -/
theorem r_nx (h : grs G N S M) (hg : gts G S M) (hN : N ≤ 12) {g : Nat} (hgG : g < G) : mNx M g N = gxFiR S g N := by
  obtain ⟨h5, h6, h7⟩ := hg g hgG
  have ef := r_free h h5 N (Nat.le_refl N)
  unfold mNx gxFiR
  rw [h6]
  rcases h7 with h7 | h7
  · have eb : gxBh S g = 0 := by unfold gxBh; rw [h7]; rfl
    have eq : gxFiQ S g N = (gxFiL S (gxFree S g N) 0 g N).1 := by unfold gxFiQ; rw [eb]
    obtain ⟨_, e1, e3⟩ := r_fst h hN (gxFree S g N) g N (Nat.le_refl N)
    rw [if_pos h7, eq]
    unfold mNfR
    rw [e1, ef]
    rcases e3 with e3 | ⟨j, h1, h2, h3⟩
    · rw [e3, if_pos rfl, if_pos m1_neg]
    · rw [h2, if_neg (nI_m1 (by omega)), if_neg (nI_pos (by omega)), cl_nI (by omega), (rj_1 (h j h1) h3).2.1]
      by_cases hf : gxFree S g N < S 11 j
      · rw [if_pos hf, if_neg (Int32.not_le.mpr hf)]
      · rw [if_neg hf, if_pos (Int32.not_lt.mp hf)]
  · have eb : gxBh S g = 1 := by unfold gxBh; rw [h7]; rfl
    have eq : gxFiQ S g N = (gxFiL S (gxFree S g N) 1 g N).1 := by unfold gxFiQ; rw [eb]
    obtain ⟨e1, e3⟩ := r_nb h hN (gxFree S g N) g N (Nat.le_refl N)
    rw [if_neg (by rw [h7]; decide), eq, ef, e1]
    rcases e3 with ⟨e3, _⟩ | ⟨j, h1, h2, _, h4, h5⟩
    · rw [e3, if_pos m1_neg]
    · rw [h2, if_neg (nI_pos (by omega)), cl_nI (by omega), if_neg h5]
end RL
