/-! The lines: who stands in them, in the order of asking (pure). -/
def Ln (G N : Nat) (M : SS) (Ls : Nat → List Nat) : Prop := (∀ k, k < N → M 0 k = 1 → ∃ g, g < G ∧ M 1 k = nI g) ∧ ∀ g, g < G → (∀ k, k ∈ Ls g ↔ (k < N ∧ M 0 k = 1 ∧ M 1 k = nI g)) ∧ (Ls g).Pairwise (fun a b => M 7 a < M 7 b)
theorem mAt_iff {M : SS} {k : Nat} {g : Int32} : ¬ mAt M k g = 0 ↔ (M 0 k = 1 ∧ M 1 k = g) := by
  constructor
  · exact mAt_1
  · rintro ⟨h1, h2⟩
    unfold mAt
    rw [if_neg (fun z => (mIs0 M k 1).mp z h1), if_pos h2]
    decide
theorem nodup_len : ∀ (n : Nat) (l : List Nat), l.Nodup → (∀ x ∈ l, x < n) → l.length ≤ n := by
  intro n
  induction n with
  | zero =>
    intro l _ h
    cases l with
    | nil => exact Nat.le_refl _
    | cons a l => exact absurd (h a List.mem_cons_self) (Nat.not_lt_zero a)
  | succ n ih =>
    intro l hd h
    by_cases hn : n ∈ l
    · have h1 := List.length_erase_of_mem hn
      have h2 := ih (l.erase n) (hd.erase n) (fun x hx => by
        have hx2 := hd.mem_erase_iff.mp hx
        have := h x hx2.2
        have := hx2.1
        omega)
      omega
    · have := ih l hd (fun x hx => by
        have h1 := h x hx
        have h2 : x ≠ n := fun e => hn (e ▸ hx)
        omega)
      omega
theorem pw_nodup {M : SS} {l : List Nat} (h : l.Pairwise (fun a b => M 7 a < M 7 b)) : l.Nodup := h.imp (fun hab e => by rw [e] at hab; exact Int32.lt_irrefl hab)
theorem pw_inj {M : SS} : ∀ {l : List Nat}, l.Pairwise (fun a b => M 7 a < M 7 b) → ∀ a ∈ l, ∀ b ∈ l, M 7 a = M 7 b → a = b
  | [], _, a, ha, _, _, _ => absurd ha List.not_mem_nil
  | c :: l, h, a, ha, b, hb, e => by
    obtain ⟨h1, h2⟩ := List.pairwise_cons.mp h
    rcases List.mem_cons.mp ha with ea | ha' <;> rcases List.mem_cons.mp hb with eb | hb'
    · rw [ea, eb]
    · have := h1 b hb'
      rw [← ea, e] at this
      exact absurd this Int32.lt_irrefl
    · have := h1 a ha'
      rw [← eb, e] at this
      exact absurd this Int32.lt_irrefl
    · exact pw_inj h2 a ha' b hb' e
section LN
variable {G N : Nat} {M : SS} {Ls : Nat → List Nat}
theorem Ln.lb (h : Ln G N M Ls) (hN : N ≤ 12) {g : Nat} (hg : g < G) : (Ls g).length ≤ 12 ∧ (∀ c ∈ Ls g, c < N) ∧ ∀ c ∈ Ls g, c < 12 := by
  obtain ⟨h1, h2⟩ := h.2 g hg
  have h3 : ∀ c ∈ Ls g, c < N := fun c hc => ((h1 c).mp hc).1
  exact ⟨Nat.le_trans (nodup_len N _ (pw_nodup h2) h3) hN, h3, fun c hc => Nat.lt_of_lt_of_le (h3 c hc) hN⟩
theorem Ln.congr (h : Ln G N M Ls) {X : SS} (hX : ∀ k, k < N → (X 0 k = 1 ↔ M 0 k = 1) ∧ (M 0 k = 1 → X 1 k = M 1 k ∧ X 7 k = M 7 k)) : Ln G N X Ls := by
  refine ⟨fun k hk h1 => ?_, fun g hg => ⟨fun k => ?_, ?_⟩⟩
  · have h2 := (hX k hk).1.mp h1
    rw [((hX k hk).2 h2).1]
    exact h.1 k hk h2
  · rw [(h.2 g hg).1 k]
    constructor
    · rintro ⟨hk, h1, h2⟩
      exact ⟨hk, (hX k hk).1.mpr h1, by rw [((hX k hk).2 h1).1]; exact h2⟩
    · rintro ⟨hk, h1, h2⟩
      have h3 := (hX k hk).1.mp h1
      exact ⟨hk, h3, by rw [← ((hX k hk).2 h3).1]; exact h2⟩
  · refine List.Pairwise.imp_of_mem ?_ (h.2 g hg).2
    intro a b ha hb hab
    obtain ⟨a1, a2, -⟩ := ((h.2 g hg).1 a).mp ha
    obtain ⟨b1, b2, -⟩ := ((h.2 g hg).1 b).mp hb
    rw [((hX a a1).2 a2).2, ((hX b b1).2 b2).2]
    exact hab
theorem nI_inj4 {a b : Nat} (ha : a < 12) (hb : b < 12) (h : nI a = nI b) : a = b := nI_inj12 ha hb h
theorem mem_wo {l : List Nat} {k c : Nat} : c ∈ wo l k ↔ c ∈ l ∧ c ≠ k := by
  unfold wo
  rw [List.mem_filter]
  simp
theorem Ln.leave (h : Ln G N M Ls) (hG4 : G ≤ 4) {X : SS} {g j : Nat} (hg : g < G) (hgj : M 1 j = nI g) (hj : ¬ X 0 j = 1) (hX : ∀ k, k < N → k ≠ j → X 0 k = M 0 k) (hX1 : ∀ k, k < N → X 1 k = M 1 k ∧ X 7 k = M 7 k) : Ln G N X (lsU Ls g (wo (Ls g) j)) := by
  refine ⟨fun k hk h1 => ?_, fun g1 hg1 => ⟨fun k => ?_, ?_⟩⟩
  · have hkj : k ≠ j := fun e => hj (e ▸ h1)
    rw [(hX1 k hk).1]
    exact h.1 k hk ((hX k hk hkj).symm.trans h1)
  · by_cases e : g1 = g
    · subst e
      rw [lsU_self, mem_wo, (h.2 g1 hg1).1 k]
      constructor
      · rintro ⟨⟨hk, h1, h2⟩, hkj⟩
        exact ⟨hk, (hX k hk hkj).trans h1, (hX1 k hk).1.trans h2⟩
      · rintro ⟨hk, h1, h2⟩
        have hkj : k ≠ j := fun e => hj (e ▸ h1)
        exact ⟨⟨hk, (hX k hk hkj).symm.trans h1, (hX1 k hk).1.symm.trans h2⟩, hkj⟩
    · rw [lsU_ne _ _ e, (h.2 g1 hg1).1 k]
      constructor
      · rintro ⟨hk, h1, h2⟩
        have hkj : k ≠ j := fun z => by
          rw [z, hgj] at h2
          exact e (nI_inj12 (by omega) (by omega) h2.symm)
        exact ⟨hk, (hX k hk hkj).trans h1, (hX1 k hk).1.trans h2⟩
      · rintro ⟨hk, h1, h2⟩
        have hkj : k ≠ j := fun e => hj (e ▸ h1)
        exact ⟨hk, (hX k hk hkj).symm.trans h1, (hX1 k hk).1.symm.trans h2⟩
  · have key : (lsU Ls g (wo (Ls g) j) g1).Pairwise (fun a b => M 7 a < M 7 b) ∧ ∀ c ∈ lsU Ls g (wo (Ls g) j) g1, c < N := by
      by_cases e : g1 = g
      · subst e
        rw [lsU_self]
        exact ⟨(h.2 g1 hg1).2.filter _, fun c hc => (((h.2 g1 hg1).1 c).mp (mem_wo.mp hc).1).1⟩
      · rw [lsU_ne _ _ e]
        exact ⟨(h.2 g1 hg1).2, fun c hc => (((h.2 g1 hg1).1 c).mp hc).1⟩
    refine List.Pairwise.imp_of_mem ?_ key.1
    intro a b ha hb hab
    rw [(hX1 a (key.2 a ha)).2, (hX1 b (key.2 b hb)).2]
    exact hab
theorem Ln.join (h : Ln G N M Ls) (hG4 : G ≤ 4) {X : SS} {g j : Nat} (hg : g < G) (hjN : j < N) (h0 : ¬ M 0 j = 1) (hj : X 0 j = 1) (hj1 : X 1 j = nI g) (hX : ∀ k, k < N → k ≠ j → X 0 k = M 0 k ∧ X 1 k = M 1 k ∧ X 7 k = M 7 k) (h7 : ∀ k, k < N → M 0 k = 1 → M 7 k < X 7 j) : Ln G N X (lsU Ls g (Ls g ++ [j])) := by
  refine ⟨fun k hk h1 => ?_, fun g1 hg1 => ⟨fun k => ?_, ?_⟩⟩
  · by_cases hkj : k = j
    · rw [hkj]; exact ⟨g, hg, hj1⟩
    · obtain ⟨e0, e1, -⟩ := hX k hk hkj
      rw [e1]; exact h.1 k hk (e0.symm.trans h1)
  · by_cases e : g1 = g
    · subst e
      rw [lsU_self, List.mem_append, (h.2 g1 hg1).1 k, List.mem_singleton]
      constructor
      · rintro (⟨hk, h1, h2⟩ | e)
        · have hkj : k ≠ j := fun e => h0 (e ▸ h1)
          obtain ⟨e0, e1, -⟩ := hX k hk hkj
          exact ⟨hk, e0.trans h1, e1.trans h2⟩
        · rw [e]; exact ⟨hjN, hj, hj1⟩
      · rintro ⟨hk, h1, h2⟩
        by_cases hkj : k = j
        · exact Or.inr hkj
        · obtain ⟨e0, e1, -⟩ := hX k hk hkj
          exact Or.inl ⟨hk, e0.symm.trans h1, e1.symm.trans h2⟩
    · rw [lsU_ne _ _ e, (h.2 g1 hg1).1 k]
      constructor
      · rintro ⟨hk, h1, h2⟩
        have hkj : k ≠ j := fun e => h0 (e ▸ h1)
        obtain ⟨e0, e1, -⟩ := hX k hk hkj
        exact ⟨hk, e0.trans h1, e1.trans h2⟩
      · rintro ⟨hk, h1, h2⟩
        have hkj : k ≠ j := fun z => by
          rw [z, hj1] at h2
          exact e (nI_inj12 (by omega) (by omega) h2.symm)
        obtain ⟨e0, e1, -⟩ := hX k hk hkj
        exact ⟨hk, e0.symm.trans h1, e1.symm.trans h2⟩
  · have base : ∀ g2, g2 < G → (Ls g2).Pairwise (fun a b => X 7 a < X 7 b) := fun g2 hg2 => by
      refine List.Pairwise.imp_of_mem ?_ (h.2 g2 hg2).2
      intro a b ha hb hab
      obtain ⟨a1, a2, -⟩ := ((h.2 g2 hg2).1 a).mp ha
      obtain ⟨b1, b2, -⟩ := ((h.2 g2 hg2).1 b).mp hb
      rw [(hX a a1 (fun e => h0 (e ▸ a2))).2.2, (hX b b1 (fun e => h0 (e ▸ b2))).2.2]
      exact hab
    by_cases e : g1 = g
    · subst e
      rw [lsU_self, List.pairwise_append]
      refine ⟨base g1 hg1, List.pairwise_singleton _ _, fun a ha b hb => ?_⟩
      rw [List.mem_singleton.mp hb]
      obtain ⟨a1, a2, -⟩ := ((h.2 g1 hg1).1 a).mp ha
      rw [(hX a a1 (fun e => h0 (e ▸ a2))).2.2]
      exact h7 a a1 a2
    · rw [lsU_ne _ _ e]; exact base g1 hg1
end LN
theorem mFst_ch {M : SS} {g : Nat} : ∀ n, n ≤ 12 → (mFst M g n = -1 ∧ ∀ k, k < n → mAt M k (nI g) = 0) ∨ ∃ j, j < n ∧ mFst M g n = nI j ∧ ¬ mAt M j (nI g) = 0 ∧ ∀ k, k < n → ¬ mAt M k (nI g) = 0 → M 7 j ≤ M 7 k := by
  intro n
  induction n with
  | zero => intro _; exact Or.inl ⟨rfl, fun k hk => absurd hk (Nat.not_lt_zero k)⟩
  | succ n ih =>
    intro hn
    have ih1 := ih (by omega)
    have eM : mFst M g (n + 1) = if mAt M n (nI g) = 0 then mFst M g n else (if mFst M g n = -1 then nI n else (if M 7 (mFst M g n).toNatClampNeg ≤ M 7 n then mFst M g n else nI n)) := rfl
    rw [eM]
    by_cases ha : mAt M n (nI g) = 0
    · rw [if_pos ha]
      rcases ih1 with ⟨e, h⟩ | ⟨j, h1, h2, h3, h4⟩
      · refine Or.inl ⟨e, fun k hk => ?_⟩
        rcases Nat.lt_or_ge k n with z | z
        · exact h k z
        · rw [show k = n by omega]; exact ha
      · refine Or.inr ⟨j, by omega, h2, h3, fun k hk hk2 => ?_⟩
        rcases Nat.lt_or_ge k n with z | z
        · exact h4 k z hk2
        · exact absurd (by rw [show k = n by omega]; exact ha) hk2
    · rw [if_neg ha]
      rcases ih1 with ⟨e, h⟩ | ⟨j, h1, h2, h3, h4⟩
      · rw [if_pos e]
        refine Or.inr ⟨n, by omega, rfl, ha, fun k hk hk2 => ?_⟩
        rcases Nat.lt_or_ge k n with z | z
        · exact absurd (h k z) hk2
        · rw [show k = n by omega]; exact Int32.le_refl _
      · rw [h2, if_neg (nI_m1 (by omega)), cl_nI (by omega)]
        by_cases hq : M 7 j ≤ M 7 n
        · rw [if_pos hq]
          refine Or.inr ⟨j, by omega, rfl, h3, fun k hk hk2 => ?_⟩
          rcases Nat.lt_or_ge k n with z | z
          · exact h4 k z hk2
          · rw [show k = n by omega]; exact hq
        · rw [if_neg hq]
          refine Or.inr ⟨n, by omega, rfl, ha, fun k hk hk2 => ?_⟩
          rcases Nat.lt_or_ge k n with z | z
          · exact Int32.le_trans (Int32.le_of_lt (Int32.not_le.mp hq)) (h4 k z hk2)
          · rw [show k = n by omega]; exact Int32.le_refl _
/-- j is better than k, or k itself -/
def bet (M : SS) (j k : Nat) : Prop := mSeem M k < mSeem M j ∨ (mSeem M k = mSeem M j ∧ M 7 j ≤ M 7 k)
theorem bet_refl (M : SS) (k : Nat) : bet M k k := Or.inr ⟨rfl, Int32.le_refl _⟩
theorem mNb_ch {M : SS} {fr : Int32} {g : Nat} : ∀ n, n ≤ 12 → (mNb M fr g n = -1 ∧ ∀ k, k < n → ¬ mAt M k (nI g) = 0 → ¬ M 2 k ≤ fr) ∨ ∃ j, j < n ∧ mNb M fr g n = nI j ∧ ¬ mAt M j (nI g) = 0 ∧ M 2 j ≤ fr ∧ ∀ k, k < n → ¬ mAt M k (nI g) = 0 → M 2 k ≤ fr → bet M j k := by
  intro n
  induction n with
  | zero => intro _; exact Or.inl ⟨rfl, fun k hk => absurd hk (Nat.not_lt_zero k)⟩
  | succ n ih =>
    intro hn
    have ih1 := ih (by omega)
    have eM : mNb M fr g (n + 1) = if mAt M n (nI g) = 0 then mNb M fr g n else (if M 2 n ≤ fr then (if mNb M fr g n = -1 then nI n else (if mSeem M (mNb M fr g n).toNatClampNeg < mSeem M n then nI n else (if mSeem M n = mSeem M (mNb M fr g n).toNatClampNeg then (if M 7 (mNb M fr g n).toNatClampNeg ≤ M 7 n then mNb M fr g n else nI n) else mNb M fr g n))) else mNb M fr g n) := rfl
    rw [eM]
    have keep : (mAt M n (nI g) = 0 ∨ ¬ M 2 n ≤ fr) → (mNb M fr g n = -1 ∧ ∀ k, k < n + 1 → ¬ mAt M k (nI g) = 0 → ¬ M 2 k ≤ fr) ∨ ∃ j, j < n + 1 ∧ mNb M fr g n = nI j ∧ ¬ mAt M j (nI g) = 0 ∧ M 2 j ≤ fr ∧ ∀ k, k < n + 1 → ¬ mAt M k (nI g) = 0 → M 2 k ≤ fr → bet M j k := by
      intro ho
      rcases ih1 with ⟨e, h⟩ | ⟨j, h1, h2, h3, h4, h5⟩
      · refine Or.inl ⟨e, fun k hk hk2 hk3 => ?_⟩
        rcases Nat.lt_or_ge k n with z | z
        · exact h k z hk2 hk3
        · rw [show k = n by omega] at hk2 hk3
          exact ho.elim hk2 (fun q => q hk3)
      · refine Or.inr ⟨j, by omega, h2, h3, h4, fun k hk hk2 hk3 => ?_⟩
        rcases Nat.lt_or_ge k n with z | z
        · exact h5 k z hk2 hk3
        · rw [show k = n by omega] at hk2 hk3
          exact (ho.elim hk2 (fun q => q hk3)).elim
    by_cases ha : mAt M n (nI g) = 0
    · rw [if_pos ha]; exact keep (Or.inl ha)
    · rw [if_neg ha]
      by_cases hf : M 2 n ≤ fr
      · rw [if_pos hf]
        have new : ∀ j, (j = n ∨ (j < n ∧ ¬ mAt M j (nI g) = 0 ∧ M 2 j ≤ fr)) → bet M j n → (∀ k, k < n → ¬ mAt M k (nI g) = 0 → M 2 k ≤ fr → bet M j k) → ∃ j1, j1 < n + 1 ∧ nI j = nI j1 ∧ ¬ mAt M j1 (nI g) = 0 ∧ M 2 j1 ≤ fr ∧ ∀ k, k < n + 1 → ¬ mAt M k (nI g) = 0 → M 2 k ≤ fr → bet M j1 k := by
          intro j hj hb ho
          have hj2 : j < n + 1 ∧ ¬ mAt M j (nI g) = 0 ∧ M 2 j ≤ fr := by
            rcases hj with e | ⟨q1, q2, q3⟩
            · rw [e]; exact ⟨by omega, ha, hf⟩
            · exact ⟨by omega, q2, q3⟩
          refine ⟨j, hj2.1, rfl, hj2.2.1, hj2.2.2, fun k hk hk2 hk3 => ?_⟩
          rcases Nat.lt_or_ge k n with z | z
          · exact ho k z hk2 hk3
          · rw [show k = n by omega]; exact hb
        rcases ih1 with ⟨e, h⟩ | ⟨j, h1, h2, h3, h4, h5⟩
        · rw [if_pos e]
          exact Or.inr (new n (Or.inl rfl) (bet_refl M n) (fun k hk hk2 hk3 => absurd hk3 (h k hk hk2)))
        · rw [h2, if_neg (nI_m1 (by omega)), cl_nI (by omega)]
          have low : mSeem M j ≤ mSeem M n → (mSeem M j = mSeem M n → M 7 n ≤ M 7 j) → ∀ k, k < n → ¬ mAt M k (nI g) = 0 → M 2 k ≤ fr → bet M n k := by
            intro l1 l2 k hk hk2 hk3
            rcases h5 k hk hk2 hk3 with q | ⟨q1, q2⟩
            · exact Or.inl (Int32.lt_of_lt_of_le q l1)
            · by_cases hs : mSeem M j = mSeem M n
              · exact Or.inr ⟨q1.trans hs, Int32.le_trans (l2 hs) q2⟩
              · exact Or.inl (by rw [q1]; exact Int32.lt_of_le_of_ne l1 hs)
          by_cases hs : mSeem M j < mSeem M n
          · rw [if_pos hs]
            exact Or.inr (new n (Or.inl rfl) (bet_refl M n) (low (Int32.le_of_lt hs) (fun e => absurd (e ▸ hs) Int32.lt_irrefl)))
          · rw [if_neg hs]
            by_cases he : mSeem M n = mSeem M j
            · rw [if_pos he]
              by_cases hq : M 7 j ≤ M 7 n
              · rw [if_pos hq]
                exact Or.inr (new j (Or.inr ⟨h1, h3, h4⟩) (Or.inr ⟨he, hq⟩) h5)
              · rw [if_neg hq]
                exact Or.inr (new n (Or.inl rfl) (bet_refl M n) (low (by rw [he]; exact Int32.le_refl _) (fun _ => Int32.le_of_lt (Int32.not_le.mp hq))))
            · rw [if_neg he]
              exact Or.inr (new j (Or.inr ⟨h1, h3, h4⟩) (Or.inl (Int32.lt_of_le_of_ne (Int32.not_lt.mp hs) he)) h5)
      · rw [if_neg hf]; exact keep (Or.inr hf)
theorem sHo_ch {M : SS} {fr : Int32} : ∀ (n : Nat) (l : List Nat), l.length = n → l.Pairwise (fun a b => M 7 a < M 7 b) → (∀ c ∈ l, c < 12) → (sHo M fr l = -1 ∧ ∀ c ∈ l, ¬ M 2 c ≤ fr) ∨ ∃ j, j ∈ l ∧ sHo M fr l = nI j ∧ M 2 j ≤ fr ∧ ∀ c ∈ l, M 2 c ≤ fr → bet M j c := by
  intro n
  induction n with
  | zero => intro l h _ _; rw [List.length_eq_zero_iff.mp h]; exact Or.inl ⟨rfl, fun c hc => absurd hc List.not_mem_nil⟩
  | succ n ih =>
    intro l h hp hlt
    rcases list_snoc_cases l with rfl | ⟨l1, a, rfl⟩
    · exact Or.inl ⟨rfl, fun c hc => absurd hc List.not_mem_nil⟩
    · rw [List.length_append] at h
      obtain ⟨p1, -, p3⟩ := List.pairwise_append.mp hp
      have ih1 := ih l1 (by simpa using h) p1 (fun c hc => hlt c (List.mem_append_left _ hc))
      have hla : a ∈ l1 ++ [a] := List.mem_append_right _ List.mem_cons_self
      rw [sHo_snoc]
      unfold sHoS
      by_cases hf : M 2 a ≤ fr
      · rw [if_pos hf]
        have new : (∀ c ∈ l1, M 2 c ≤ fr → bet M a c) → ∀ c ∈ l1 ++ [a], M 2 c ≤ fr → bet M a c := fun ho c hc hc2 => by
          rcases List.mem_append.mp hc with z | z
          · exact ho c z hc2
          · rw [List.mem_singleton.mp z]; exact bet_refl M a
        rcases ih1 with ⟨e, h9⟩ | ⟨j, h1, h2, h3, h4⟩
        · rw [e, if_pos m1_neg]
          exact Or.inr ⟨a, hla, rfl, hf, new (fun c hc hc2 => absurd hc2 (h9 c hc))⟩
        · have hj12 := hlt j (List.mem_append_left _ h1)
          rw [h2, if_neg (nI_pos (by omega)), cl_nI hj12]
          by_cases hs : mSeem M j < mSeem M a
          · rw [if_pos hs]
            refine Or.inr ⟨a, hla, rfl, hf, new (fun c hc hc2 => ?_)⟩
            rcases h4 c hc hc2 with q | ⟨q1, -⟩
            · exact Or.inl (Int32.lt_trans q hs)
            · exact Or.inl (by rw [q1]; exact hs)
          · rw [if_neg hs]
            refine Or.inr ⟨j, List.mem_append_left _ h1, rfl, h3, fun c hc hc2 => ?_⟩
            rcases List.mem_append.mp hc with z | z
            · exact h4 c z hc2
            · rw [List.mem_singleton.mp z]
              by_cases he : mSeem M a = mSeem M j
              · exact Or.inr ⟨he, Int32.le_of_lt (p3 j h1 a List.mem_cons_self)⟩
              · exact Or.inl (Int32.lt_of_le_of_ne (Int32.not_lt.mp hs) he)
      · rw [if_neg hf]
        rcases ih1 with ⟨e, h9⟩ | ⟨j, h1, h2, h3, h4⟩
        · refine Or.inl ⟨e, fun c hc => ?_⟩
          rcases List.mem_append.mp hc with z | z
          · exact h9 c z
          · rw [List.mem_singleton.mp z]; exact hf
        · refine Or.inr ⟨j, List.mem_append_left _ h1, h2, h3, fun c hc hc2 => ?_⟩
          rcases List.mem_append.mp hc with z | z
          · exact h4 c z hc2
          · rw [List.mem_singleton.mp z] at hc2; exact absurd hc2 hf
/-- who is let in next is the same, by the lines and by the turns -/
theorem sNx_eq {G N : Nat} {M : SS} {Ls : Nat → List Nat} (h : Ln G N M Ls) (hN : N ≤ 12) {g : Nat} (hg : g < G) : sNx M N g (Ls g) = mNx M g N := by
  obtain ⟨h1, h2⟩ := h.2 g hg
  obtain ⟨-, -, hlt⟩ := h.lb hN hg
  unfold sNx mNx
  by_cases h0 : M 10 g = 0
  · rw [if_pos h0, if_pos h0]
    unfold sFi mNfR
    cases hl : Ls g with
    | nil =>
      rcases mFst_ch (M := M) (g := g) N hN with ⟨e, -⟩ | ⟨j, j1, -, j3, -⟩
      · rw [e]; rfl
      · obtain ⟨q1, q2⟩ := mAt_iff.mp j3
        have := (h1 j).mpr ⟨j1, q1, q2⟩
        rw [hl] at this
        exact absurd this List.not_mem_nil
    | cons k l =>
      rw [hl] at h1 h2 hlt
      obtain ⟨k1, k2, k3⟩ := (h1 k).mp List.mem_cons_self
      have hk12 := hlt k List.mem_cons_self
      rcases mFst_ch (M := M) (g := g) N hN with ⟨-, e⟩ | ⟨j, j1, j2, j3, j4⟩
      · exact absurd (e k k1) (mAt_iff.mpr ⟨k2, k3⟩)
      · obtain ⟨q1, q2⟩ := mAt_iff.mp j3
        have hjk : j = k := by
          rcases List.mem_cons.mp ((h1 j).mpr ⟨j1, q1, q2⟩) with z | z
          · exact z
          · exact absurd ((List.pairwise_cons.mp h2).1 j z) (Int32.not_lt.mpr (j4 k k1 (mAt_iff.mpr ⟨k2, k3⟩)))
        subst hjk
        rw [j2, if_neg (nI_m1 hk12), cl_nI hk12]
        rfl
  · rw [if_neg h0, if_neg h0]
    rcases sHo_ch (M := M) (fr := mFree M g N) _ (Ls g) rfl h2 hlt with ⟨e, a1⟩ | ⟨i, i1, i2, i3, i4⟩ <;> rcases mNb_ch (M := M) (fr := mFree M g N) (g := g) N hN with ⟨e2, b1⟩ | ⟨j, j1, j2, j3, j4, j5⟩
    · rw [e, e2]
    · obtain ⟨q1, q2⟩ := mAt_iff.mp j3
      exact absurd j4 (a1 j ((h1 j).mpr ⟨j1, q1, q2⟩))
    · obtain ⟨k1, k2, k3⟩ := (h1 i).mp i1
      exact absurd i3 (b1 i k1 (mAt_iff.mpr ⟨k2, k3⟩))
    · obtain ⟨q1, q2⟩ := mAt_iff.mp j3
      obtain ⟨k1, k2, k3⟩ := (h1 i).mp i1
      have hji := (h1 j).mpr ⟨j1, q1, q2⟩
      have r1 := i4 j hji j4
      have r2 := j5 i k1 (mAt_iff.mpr ⟨k2, k3⟩) i3
      have : i = j := by
        rcases r1 with r1 | ⟨r1, r1'⟩ <;> rcases r2 with r2 | ⟨r2, r2'⟩
        · exact absurd (Int32.lt_trans r1 r2) Int32.lt_irrefl
        · rw [r2] at r1; exact absurd r1 Int32.lt_irrefl
        · rw [r1] at r2; exact absurd r2 Int32.lt_irrefl
        · exact pw_inj h2 i i1 j hji (Int32.le_antisymm r1' r2')
      rw [i2, j2, this]
