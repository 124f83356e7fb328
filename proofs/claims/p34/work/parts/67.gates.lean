/-! What the law asks of each gate (pure). -/
theorem sLo_len (X : SS) (G N : Nat) (l : List Nat) : sLo X G N l = nI (l.filter (fun k => decide (mUn X G N k < 0))).length := by
  have key : ∀ (l : List Nat) (a : Nat), l.foldl (fun s k => s + (if mUn X G N k < 0 then 1 else 0)) (nI a) = nI (a + (l.filter (fun k => decide (mUn X G N k < 0))).length) := by
    intro l
    induction l with
    | nil => intro a; rfl
    | cons c l ih =>
      intro a
      show l.foldl _ (nI a + (if mUn X G N c < 0 then 1 else 0)) = _
      by_cases h : mUn X G N c < 0
      · rw [if_pos h, nI_1, ih, List.filter_cons, if_pos (by simpa using h), List.length_cons]
        congr 1
        omega
      · rw [if_neg h, Int32.add_zero, ih, List.filter_cons, if_neg (by simpa using h)]
  have := key l 0
  rw [Nat.zero_add] at this
  exact this
theorem isum_len (q : Nat → Prop) [DecidablePred q] : ∀ n, isum (fun k => if q k then 1 else 0) n = nI ((List.range n).filter (fun k => decide (q k))).length := by
  intro n
  induction n with
  | zero => rfl
  | succ n ih =>
    show isum (fun k => if q k then 1 else 0) n + (if q n then 1 else 0) = _
    rw [List.range_succ, List.filter_append, List.length_append, ih]
    by_cases h : q n
    · rw [if_pos h]
      simp [h, ← nI_1]
    · rw [if_neg h]
      simp [h]
section GT
variable {T G N : Nat} {S M X : SS} {Ls : Nat → List Nat}
theorem it_down (hN : N ≤ 12) {k : Nat} (hk : k < N) : ∀ n, mIt X G N n 0 k = 1 → ∀ i, i ≤ n → mIt X G N i 0 k = 1 := by
  intro n
  induction n with
  | zero => intro h i hi; obtain rfl : i = 0 := by omega
            exact h
  | succ n ih =>
    intro h i hi
    by_cases e : i = n + 1
    · rw [e]; exact h
    · exact ih ((mMin_st (M := mIt X G N n) hN hk).2.1 h) i (by omega)
/-- the goats of a gate that give up within n minutes -/
theorem lo_sum (h : Rel G N S X) (hN : N ≤ 12) (hG4 : G ≤ 4) {g : Nat} (hg : g < G) : ∀ n, (mLo X G N g n).1 = isum (fun k => if ¬ mAt X k (nI g) = 0 ∧ mUnN X G N k ≤ n ∧ mIt X G N (mUnN X G N k) 0 k = 0 then 1 else 0) N := by
  intro n
  induction n with
  | zero =>
    show (0 : Int32) = _
    refine (isum_no N (fun k hk => if_neg (fun z => ?_))).symm
    obtain ⟨z1, z2, z3⟩ := z
    have e : mUnN X G N k = 0 := by omega
    rw [e] at z3
    exact absurd ((show X 0 k = 0 from z3).symm.trans (mAt_1 z1).1) (by decide)
  | succ n ih =>
    have eL : mLo X G N g (n + 1) = mLi (mIt X G N (n + 1)) (mLo X G N g n) N := rfl
    rw [eL, (mLi_at _ _ N hN).1, ih, ← isum_add]
    refine isum_congr N (fun k hk => ?_)
    have hb := (r_lo h hN hG4 hg n).2 k hk
    have hu := r_hu h hN hG4 hk
    have hy := unN_yes hu
    by_cases ha : ¬ mAt X k (nI g) = 0
    · obtain ⟨a0, a1⟩ := mAt_1 ha
      rw [hb]
      have hr1 : mIt X G N n 1 k = nI g := by rw [it_o X (by decide) (by decide) (by decide) (by decide) (by decide)]; exact a1
      have hw : (¬ mAt (mIt X G N n) k (nI g) = 0) ↔ mIt X G N n 0 k = 1 := by
        rw [mAt_iff]; exact ⟨fun z => z.1, fun z => ⟨z, hr1⟩⟩
      by_cases c1 : mUnN X G N k ≤ n
      · have n1 : ¬ mIt X G N n 0 k = 1 := fun z => hy (it_down hN hk n z _ c1)
        rw [if_neg (c := decide (¬ mAt (mIt X G N n) k (nI g) = 0) = true ∧ ¬ mIt X G N (n + 1) 0 k = 1) (fun z => n1 (hw.mp (of_decide_eq_true z.1))), Int32.add_zero]
        by_cases c2 : mIt X G N (mUnN X G N k) 0 k = 0
        · rw [if_pos ⟨ha, c1, c2⟩, if_pos ⟨ha, by omega, c2⟩]
        · rw [if_neg (fun z => c2 z.2.2), if_neg (fun z => c2 z.2.2)]
      · rw [if_neg (c := ¬ mAt X k (nI g) = 0 ∧ mUnN X G N k ≤ n ∧ mIt X G N (mUnN X G N k) 0 k = 0) (fun z => c1 z.2.1), Int32.zero_add]
        have n1 : mIt X G N n 0 k = 1 := unN_no (by omega)
        by_cases c3 : mUnN X G N k = n + 1
        · have n2 : ¬ mIt X G N (n + 1) 0 k = 1 := by rw [← c3]; exact hy
          rw [if_pos ⟨decide_eq_true (hw.mpr n1), n2⟩]
          by_cases c2 : mIt X G N (n + 1) 0 k = 0
          · rw [if_pos c2, if_pos ⟨ha, by omega, by rw [c3]; exact c2⟩]
          · rw [if_neg c2, if_neg (fun z => c2 (by rw [← c3]; exact z.2.2))]
        · have n2 : mIt X G N (n + 1) 0 k = 1 := unN_no (by omega)
          rw [if_neg (fun z => z.2 n2), if_neg (fun z => by omega)]
    · have ha0 : mAt X k (nI g) = 0 := Decidable.byContradiction ha
      have n1 : mAt (mIt X G N n) k (nI g) = 0 := by
        refine Decidable.byContradiction (fun z => ?_)
        obtain ⟨b0, b1⟩ := mAt_1 z
        rw [it_o X (by decide) (by decide) (by decide) (by decide) (by decide)] at b1
        exact mAt_iff.mpr ⟨it_down hN hk n b0 0 (by omega), b1⟩ ha0
      rw [hb, if_neg (fun z => ha z.1), if_neg (fun z => (of_decide_eq_true z.1) n1), if_neg (fun z => ha z.1)]
      rfl
theorem lost_sum (h : Rel G N S X) (hL : Ln G N X Ls) (hN : N ≤ 12) (hG4 : G ≤ 4) {g : Nat} (hg : g < G) : sLo X G N (Ls g) = mLost X G N g := by
  obtain ⟨h1, h2⟩ := hL.2 g hg
  unfold mLost
  rw [lo_sum h hN hG4 hg 60, sLo_len]
  rw [isum_len (fun k => ¬ mAt X k (nI g) = 0 ∧ mUnN X G N k ≤ 60 ∧ mIt X G N (mUnN X G N k) 0 k = 0) N]
  congr 1
  refine List.Perm.length_eq ((List.perm_ext_iff_of_nodup ((pw_nodup h2).filter _) (List.nodup_range.filter _)).mpr fun k => ?_)
  rw [List.mem_filter, List.mem_filter, List.mem_range, h1 k, decide_eq_true_iff, decide_eq_true_iff]
  constructor
  · rintro ⟨⟨k1, k2, k3⟩, k4⟩
    have hu := r_hu h hN hG4 k1
    refine ⟨k1, mAt_iff.mpr ⟨k2, k3⟩, by omega, ?_⟩
    have hz := rj_z ((r_it h hN hG4 (mUnN X G N k)).1 k k1)
    rw [← rj_st ((r_it h hN hG4 (mUnN X G N k)).1 k k1)] at hz
    rcases hz with z | z | z
    · exact z
    · exact absurd z (unN_yes hu)
    · exfalso
      have e : mUn X G N k = nI (mUnN X G N k) := by
        unfold mUn
        rw [if_neg (show ¬ mIs X k 1 = 0 from by rw [show mIs X k 1 = 1 from if_pos k2]; decide)]
        exact if_neg (show ¬ mIs (mIt X G N (mUnN X G N k)) k 2 = 0 from by rw [show mIs (mIt X G N (mUnN X G N k)) k 2 = 1 from if_pos z]; decide)
      rw [e] at k4
      exact nI_pos (by omega) k4
  · rintro ⟨k1, k2, -, k4⟩
    obtain ⟨a0, a1⟩ := mAt_1 k2
    refine ⟨⟨k1, a0, a1⟩, ?_⟩
    have e : mUn X G N k = -1 := by
      unfold mUn
      rw [if_neg (show ¬ mIs X k 1 = 0 from by rw [show mIs X k 1 = 1 from if_pos a0]; decide)]
      exact if_pos (show mIs (mIt X G N (mUnN X G N k)) k 2 = 0 from if_neg (by rw [k4]; decide))
    rw [e]
    decide
theorem LI.lost (h : LI T G N S M Ls) {g : Nat} (hg : g < G) (p o : Int32) (ho : o = 0 ∨ o = 1) : sLo (gU M g p o) G N (Ls g) = gxGu S G N g p o ∧ ∀ k, k < N → mUnN (gU M g p o) G N k < 61 := by
  have hN := h.1.1
  have hG4 := h.1.2.1
  have hR : Rel G N (gxGuS S g p o) (gU M g p o) := rel_gu h.rel p o ho
  refine ⟨?_, fun k hk => r_hu hR hN hG4 hk⟩
  rw [r_gu h.rel hN hG4 hg p o ho]
  refine lost_sum hR (h.2.1.congr (fun k _ => ?_)) hN hG4 hg
  have e : ∀ a, a < 9 → gU M g p o a = M a := fun a ha => by
    unfold gU
    rw [up2_o _ _ _ _ (by omega), up2_o _ _ _ _ (by omega)]
  rw [e 0 (by omega), e 1 (by omega), e 7 (by omega)]
  exact ⟨Iff.rfl, fun _ => ⟨rfl, rfl⟩⟩
theorem gxPw_c (S : SS) (G N g : Nat) : gxPw S G N g = -1 ∨ ∃ n, n ≤ 9 ∧ gxPw S G N g = nI n ∧ gxGu S G N g (S 5 g + nI n) (S 6 g) = 0 ∧ ∀ i, i < n → ¬ gxGu S G N g (S 5 g + nI i) (S 6 g) = 0 := by
  unfold gxPw
  split
  · rename_i hlt
    refine Or.inr ⟨gxPwN S G N g, by omega, rfl, ?_, fun i hi => ?_⟩
    · exact of_decide_eq_true (gxF_yes (fun i => decide (gxGu S G N g (S 5 g + nI i) (S 6 g) = 0)) 10 hlt)
    · exact of_decide_eq_false (gxF_no (fun i => decide (gxGu S G N g (S 5 g + nI i) (S 6 g) = 0)) 10 i hi)
  · exact Or.inl rfl
theorem ixo_0 {k : Nat} {l : List Nat} (hp : l.Pairwise (fun a b => M 7 a < M 7 b)) (hk : k ∈ l) : ixo k l = 0 ↔ ∀ c ∈ l, M 7 k ≤ M 7 c := by
  cases l with
  | nil => exact absurd hk List.not_mem_nil
  | cons b l =>
    obtain ⟨h1, -⟩ := List.pairwise_cons.mp hp
    constructor
    · intro h c hc
      have e : b = k := by
        unfold ixo at h
        split at h
        · assumption
        · omega
      subst e
      rcases List.mem_cons.mp hc with e | e
      · rw [e]; exact Int32.le_refl _
      · exact Int32.le_of_lt (h1 c e)
    · intro h
      unfold ixo
      by_cases e : b = k
      · rw [if_pos e]
      · have hkl : k ∈ l := (List.mem_cons.mp hk).resolve_left (fun z => e z.symm)
        exact absurd (h1 k hkl) (Int32.not_lt.mpr (h b List.mem_cons_self))
theorem LI.nf (h : LI T G N S M Ls) {g : Nat} (hg : g < G) : gxFiR S g N = -1 ∨ ∃ j, j < N ∧ gxFiR S g N = nI j ∧ S 9 j = 1 ∧ S 10 j = nI g ∧ M 2 j ≤ gxFree S g N := by
  have hN := h.1.1
  have e := r_nx h.rel.1 h.rel.2.1 hN hg
  by_cases hn : mNx M g N = -1
  · exact Or.inl (e.symm.trans hn)
  · obtain ⟨j, j1, j2, j3, j4⟩ := nx_at hN hn
    have hs := (h.st j1).symm.trans j3
    refine Or.inr ⟨j, j1, e.symm.trans j2, hs, (rj_1 (h.gr j1) hs).1.symm.trans j4, ?_⟩
    rw [← h.fr hg]
    exact nx_fits hN (by omega) j2
theorem LI.in0 (h : LI T G N S M Ls) {g k : Nat} (hg : g < G) (hk : k < N) (hn : gxFiR S g N = -1) (h9 : S 9 k = 1) (h10 : S 10 k = nI g) (hf : M 2 k ≤ gxFree S g N) : ¬ M 10 g = 1 ∧ ¬ gxPl S N k = 0 := by
  have hN := h.1.1
  have hG4 := h.1.2.1
  have e := (r_nx h.rel.1 h.rel.2.1 hN hg).trans hn
  have h0 : M 0 k = 1 := (h.st hk).trans h9
  have h1 : M 1 k = nI g := (rj_1 (h.gr hk) h9).1.trans h10
  have hat : ¬ mAt M k (nI g) = 0 := mAt_iff.mpr ⟨h0, h1⟩
  have hf2 : M 2 k ≤ mFree M g N := by rw [h.fr hg]; exact hf
  unfold mNx at e
  split at e
  · rename_i hz
    refine ⟨by rw [hz]; decide, fun z => ?_⟩
    unfold mNfR at e
    rcases mFst_ch (M := M) (g := g) N hN with ⟨-, q2⟩ | ⟨j, q1, q2, q3, q4⟩
    · exact hat (q2 k hk)
    · rw [q2, if_neg (nI_m1 (by omega)), cl_nI (by omega)] at e
      split at e
      · exact nI_m1 (by omega) e
      · rename_i hnf
        rcases h.pc hk with ⟨y, -⟩ | ⟨-, g', g1, g2, g3, g4, g5, g6, g7⟩
        · exact y h9
        · have : g' = g := nI_inj12 (by omega) (by omega) (g2.symm.trans h10)
          subst this
          rw [g5] at z
          have z0 : ixo k (Ls g') = 0 := (nI_eq (a := ixo k (Ls g')) (b := 0) (by omega) (by omega)).mp z
          obtain ⟨hm, hp⟩ := h.2.1.2 g' hg
          have hj := (hm j).mpr ⟨q1, (mAt_1 q3).1, (mAt_1 q3).2⟩
          have l1 := (ixo_0 hp g4).mp z0 j hj
          have l2 := q4 k hk hat
          have : j = k := pw_inj hp j hj k g4 (Int32.le_antisymm l2 l1)
          rw [this] at hnf
          exact hnf hf2
  · rcases mNb_ch (M := M) (fr := mFree M g N) (g := g) N hN with ⟨-, q2⟩ | ⟨j, q1, q2, -, -, -⟩
    · exact absurd hf2 (q2 k hk hat)
    · exact absurd (q2.symm.trans e) (nI_m1 (by omega))
theorem LI.in1 (h : LI T G N S M Ls) {g k j : Nat} (hg : g < G) (hk : k < N) (hj : j < N) (hn : gxFiR S g N = nI j) (h9 : S 9 k = 1) (h10 : S 10 k = nI g) : (M 10 g = 1 → M 2 k ≤ gxFree S g N → ¬ gxSeem S j < gxSeem S k) ∧ (¬ M 10 g = 1 → ¬ gxPl S N k < gxPl S N j) := by
  have hN := h.1.1
  have hG4 := h.1.2.1
  have e := (r_nx h.rel.1 h.rel.2.1 hN hg).trans hn
  have h0 : M 0 k = 1 := (h.st hk).trans h9
  have h1 : M 1 k = nI g := (rj_1 (h.gr hk) h9).1.trans h10
  have hat : ¬ mAt M k (nI g) = 0 := mAt_iff.mpr ⟨h0, h1⟩
  constructor
  · intro hb hf
    have hf2 : M 2 k ≤ mFree M g N := by rw [h.fr hg]; exact hf
    unfold mNx at e
    rw [if_neg (by rw [hb]; decide)] at e
    rcases mNb_ch (M := M) (fr := mFree M g N) (g := g) N hN with ⟨q1, -⟩ | ⟨i, q1, q2, q3, q4, q5⟩
    · exact absurd (e.symm.trans q1) (nI_m1 (by omega))
    · have : i = j := nI_inj12 (by omega) (by omega) (q2.symm.trans e)
      subst this
      rw [← rj_se (h.gr hk), ← rj_se (h.gr hj)]
      rcases q5 k hk hat hf2 with z | ⟨z, -⟩
      · exact Int32.not_lt.mpr (Int32.le_of_lt z)
      · rw [z]; exact Int32.lt_irrefl
  · intro hb
    have hz : M 10 g = 0 := by
      obtain ⟨-, b2, b3⟩ := h.pm hg
      rcases b3 with z | z
      · exact b2.trans z
      · exact absurd (b2.trans z) hb
    unfold mNx at e
    rw [if_pos hz] at e
    unfold mNfR at e
    rcases mFst_ch (M := M) (g := g) N hN with ⟨q1, -⟩ | ⟨i, q1, q2, q3, q4⟩
    · rw [q1, if_pos rfl] at e
      exact absurd e.symm (nI_m1 (by omega))
    · rw [q2, if_neg (nI_m1 (by omega))] at e
      split at e
      · have : i = j := nI_inj12 (by omega) (by omega) e
        subst this
        obtain ⟨hm, hp⟩ := h.2.1.2 g hg
        have hs : S 9 i = 1 := (h.st hj).symm.trans (mAt_1 q3).1
        rcases h.pc hj with ⟨y, -⟩ | ⟨-, g', g1, g2, g3, g4, g5, g6, g7⟩
        · exact absurd hs y
        · have : g' = g := nI_inj12 (by omega) (by omega) (g3.symm.trans (mAt_1 q3).2)
          subst this
          have z0 : ixo i (Ls g') = 0 := (ixo_0 hp g4).mpr (fun c hc => by
            obtain ⟨c1, c2, c3⟩ := (hm c).mp hc
            exact q4 c c1 (mAt_iff.mpr ⟨c2, c3⟩))
          rw [g5, z0]
          rcases h.pc hk with ⟨y, -⟩ | ⟨-, g'', -, -, -, -, f5, f6, f7⟩
          · exact absurd h9 y
          · rw [f5]
            exact nI_pos (by omega)
      · exact absurd e.symm (nI_m1 (by omega))
end GT
