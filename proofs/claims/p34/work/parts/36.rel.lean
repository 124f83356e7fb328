/-! The calls: what is thrown, what is answered, and the states stay the same. -/
def xc (A B : String) : Option String → Int32
  | none => 0
  | some E => if E = A then 1 else (if E = B then 2 else 3)
def Inv (G N : Nat) (S M : SS) : Prop := N ≤ 12 ∧ G ≤ 4 ∧ S 0 1 = nI G ∧ S 0 2 = nI N ∧ M 12 1 = nI G ∧ M 12 2 = nI N ∧ Rel G N S M ∧ (∀ k, N ≤ k → M 0 k = 0 ∧ M 6 k = S 16 k) ∧ ∀ g, G ≤ g → S 7 g = 0
theorem num_cases (n mo : Int32) : (xNum n mo = none ∧ ¬ mIn n 1 mo = 0) ∨ (xNum n mo = some gxIA ∧ mIn n 1 mo = 0) := by
  unfold xNum mIn
  by_cases h1 : n < 1
  · rw [if_pos h1, if_pos h1]; exact Or.inr ⟨rfl, rfl⟩
  · rw [if_neg h1, if_neg h1]
    by_cases h2 : n ≤ mo
    · rw [if_pos h2, if_neg (Int32.not_lt.mpr h2)]; exact Or.inl ⟨rfl, by decide⟩
    · rw [if_neg h2, if_pos (Int32.not_le.mp h2)]; exact Or.inr ⟨rfl, rfl⟩
theorem ord_cases (b : Int32) : (xOrd b = none ∧ ¬ mIn b 0 1 = 0 ∧ (b = 0 ∨ b = 1)) ∨ (xOrd b = some gxIA ∧ mIn b 0 1 = 0) := by
  unfold xOrd mIn
  by_cases h0 : b = 0
  · subst h0; exact Or.inl ⟨rfl, by decide, Or.inl rfl⟩
  · rw [if_neg h0]
    by_cases h1 : b = 1
    · subst h1; exact Or.inl ⟨rfl, by decide, Or.inr rfl⟩
    · rw [if_neg h1]
      by_cases hl : b < 0
      · rw [if_pos hl]; exact Or.inr ⟨rfl, rfl⟩
      · rw [if_neg hl]
        obtain ⟨j, hj, e⟩ := nI_of hl
        have : 1 < j := by
          rcases Nat.lt_or_ge 1 j with z | z
          · exact z
          · exfalso
            have : j = 0 ∨ j = 1 := by omega
            rcases this with z | z
            · exact h0 (by rw [e, z]; rfl)
            · exact h1 (by rw [e, z]; rfl)
        have hq : (1 : Int32) < b := by rw [e]; exact (nI_ltI (a := 1) (by decide) hj).mpr this
        rw [if_pos hq]
        exact Or.inr ⟨rfl, rfl⟩
theorem ix_cases {g x y : Int32} {K : Nat} (hK : K ≤ 12) (hx : x = nI K) (hy : y = nI K) : (∃ j, j < K ∧ g = nI j ∧ (if g < 0 then some gxIO else (if g < x then none else some gxIO)) = none ∧ ¬ mIn g 0 (y - 1) = 0) ∨ ((if g < 0 then some gxIO else (if g < x then none else some gxIO)) = some gxIO ∧ mIn g 0 (y - 1) = 0) := by
  by_cases h0 : g < 0
  · right
    unfold mIn
    rw [if_pos h0, if_pos h0]
    exact ⟨rfl, rfl⟩
  · obtain ⟨j, hj, e⟩ := nI_of h0
    rw [if_neg h0]
    by_cases hjK : j < K
    · left
      refine ⟨j, hjK, e, ?_, ?_⟩
      · rw [e, hx, if_pos (nI_lt hjK (by omega))]
      · rw [e, mIn_ok hy (by omega) hjK]; decide
    · right
      refine ⟨?_, ?_⟩
      · rw [e, hx, if_neg (nI_nlt (by omega) hj)]
      · unfold mIn
        rw [if_neg h0, if_pos]
        rw [e, hy]
        cases K with
        | zero => exact Int32.lt_of_lt_of_le (by decide : nI 0 - 1 < 0) (nI_pos' hj)
        | succ K => rw [nI_pred]; exact nI_lt (by omega) hj
theorem rj_mono {G G' : Nat} (hG : G ≤ G') {s m : Nat → Int32} (h : gr G s m) : gr G' s m := by
  obtain ⟨h0, h11, h6, hx, hh⟩ := h
  refine ⟨h0, h11, h6, hx, ?_⟩
  rcases hh with hh | ⟨a, b, c, d, e, ⟨g, hg, eg⟩, f⟩ | ⟨a, b, c, d, ⟨g, hg, eg⟩, f⟩
  · exact Or.inl hh
  · exact Or.inr (Or.inl ⟨a, b, c, d, e, ⟨g, by omega, eg⟩, f⟩)
  · exact Or.inr (Or.inr ⟨a, b, c, d, ⟨g, by omega, eg⟩, f⟩)
section OP
variable {G N : Nat} {S M : SS}
theorem gate_cases (h : Inv G N S M) {X : SS} (hX : X 12 1 = M 12 1) (g : Int32) : (∃ j, j < G ∧ g = nI j ∧ xGate S g = none ∧ ¬ mGate X g = 0) ∨ (xGate S g = some gxIO ∧ mGate X g = 0) := by
  obtain ⟨_, hG, e1, _, e3, _⟩ := h
  exact ix_cases (by omega) e1 (hX.trans e3)
theorem goat_cases (h : Inv G N S M) {X : SS} (hX : X 12 2 = M 12 2) (g : Int32) : (∃ j, j < N ∧ g = nI j ∧ xGoat S g = none ∧ ¬ mGoat X g = 0) ∨ (xGoat S g = some gxIO ∧ mGoat X g = 0) := by
  obtain ⟨hN, _, _, e2, _, e4, _⟩ := h
  exact ix_cases hN e2 (hX.trans e4)
theorem rel_congr {X : SS} (h : Rel G N S M) (hX : ∀ a, a < 12 → X a = M a) : Rel G N S X := by
  obtain ⟨h1, h2, h3, h4⟩ := h
  refine ⟨fun k hk => rj_congr (fun _ _ _ => rfl) (fun a ha => by show X a k = M a k; rw [hX a (by omega)]) (h1 k hk), gts_congr (fun _ _ => rfl) (fun a ha => hX a (by omega)) h2, ?_, ?_⟩
  · unfold hd3; rw [hX 8 (by omega)]; exact h3
  · rw [hX 8 (by omega)]; exact h4
theorem inv_12 {X : SS} (h : Inv G N S M) (hX : ∀ a, a < 12 → X a = M a) (h1 : X 12 1 = M 12 1) (h2 : X 12 2 = M 12 2) : Inv G N S X := by
  obtain ⟨a, b, c, d, e, f, g, i, j⟩ := h
  refine ⟨a, b, c, d, h1.trans e, h2.trans f, rel_congr g hX, ?_, j⟩
  rw [hX 0 (by omega), hX 6 (by omega)]
  exact i
theorem up12 (M : SS) (v : Int32) : ∀ a, a < 12 → up2 M 12 0 v a = M a := fun a ha => up2_r _ _ _ _ (by omega)
theorem up12' (M : SS) (v w : Int32) : ∀ a, a < 12 → up2 (up2 M 12 0 v) 12 0 w a = M a := fun a ha => by rw [up2_r _ _ _ _ (by omega), up2_r _ _ _ _ (by omega)]
theorem inv_t (h : Inv G N S M) (v : Int32) : Inv G N S (up2 M 12 0 v) := inv_12 h (up12 M v) rfl rfl
theorem inv_t2 (h : Inv G N S M) (v w : Int32) : Inv G N S (up2 (up2 M 12 0 v) 12 0 w) := inv_t (inv_t h v) w
theorem t_0 (M : SS) (v w : Int32) : up2 (up2 M 12 0 v) 12 0 w 12 0 = w := up2_s _ _ _ _
theorem op_addGate (h : Inv G N S M) (a b : Int32) : mM_addGate M N G a b 12 0 = xc gxIA gxIS ((xNum a 9).or ((xOrd b).or (xRg S))) ∧ (((xNum a 9).or ((xOrd b).or (xRg S))) = none → mR_addGate M N G a b = S 0 1) ∧ ∃ G', Inv G' N (if ((xNum a 9).or ((xOrd b).or (xRg S))) = none then gxOpn S G a b else S) (mM_addGate M N G a b) := by
  unfold mM_addGate mR_addGate
  rcases num_cases a 9 with ⟨x1, m1⟩ | ⟨x1, m1⟩
  · rw [x1, if_neg m1, if_neg m1]
    rcases ord_cases b with ⟨x2, m2, hb⟩ | ⟨x2, m2⟩
    · rw [x2, if_neg m2, if_neg m2]
      have hh := h
      obtain ⟨hN, hG, e1, e2, e3, e4, ⟨r1, r2, r3, r4⟩, b1, b2⟩ := hh
      by_cases h4 : G < 4
      · have x3 : xRg S = none := by unfold xRg; rw [e1, if_pos (show nI G < 4 from nI_lt (b := 4) h4 (by omega))]
        have m3 : ¬ M 12 1 = 4 := by rw [e3]; exact fun z => by have := (nI_eq (a := G) (b := 4) (by omega) (by omega)).mp z; omega
        rw [x3, if_neg m3, if_neg m3]
        refine ⟨rfl, fun _ => by rw [Int32.add_sub_cancel, e1, e3], G + 1, ?_⟩
        rw [if_pos (by rfl)]
        refine ⟨hN, by omega, ?_, ?_, ?_, ?_, ⟨fun k hk => rj_mono (by omega) (rj_congr (s := co S k) (m := co M k) (fun c c1 c2 => ?_) (fun c hc => ?_) (r1 k hk)), ?_, ?_, ?_⟩, ?_, ?_⟩
        · unfold gxOpn; rw [up2_s, e1, nI_1]
        · unfold gxOpn; rw [up2_c _ _ _ _ (by omega)]; exact e2
        · rw [up2_s, e3, nI_1]
        · rw [up2_c _ _ _ _ (by omega)]; exact e4
        · show gxOpn S G a b c k = S c k
          unfold gxOpn
          rw [up2_at, if_neg (by omega), up2_at, if_neg (by omega), up2_at, if_neg (by omega)]
        · show up2 (up2 (up2 (up2 M 12 0 0) 9 G a) 10 G b) 12 1 (M 12 1 + 1) c k = M c k
          rw [up2_at, if_neg (by omega), up2_at, if_neg (by omega), up2_at, if_neg (by omega), up2_at, if_neg (by omega)]
        · intro g hg
          unfold gxOpn
          simp only [up2_at]
          by_cases hgG : g = G
          · subst hgG; simp [hb]
          · obtain ⟨q1, q2, q3⟩ := r2 g (by omega)
            simp [hgG, q1, q2, q3]
        · exact r3
        · show M 8 2 = gxGiv (gxOpn S G a b) G + S 7 G
          rw [giv_congr (S := gxOpn S G a b) (T := S) (fun g _ => rfl), b2 G (Nat.le_refl G), Int32.add_zero]
          exact r4
        · exact b1
        · intro g hg
          exact b2 g (by omega)
      · have hG4 : G = 4 := by omega
        have x3 : xRg S = some gxIS := by unfold xRg; rw [e1, hG4, if_neg (by decide)]
        have m3 : M 12 1 = 4 := by rw [e3, hG4]; rfl
        rw [x3, if_pos m3, if_pos m3]
        refine ⟨rfl, fun z => (nomatch z), G, ?_⟩
        rw [if_neg (by intro z; cases z)]
        exact inv_t2 h 0 2
    · rw [x2, if_pos m2, if_pos m2]
      refine ⟨rfl, fun z => (nomatch z), G, ?_⟩
      rw [if_neg (by intro z; cases z)]
      exact inv_t2 h 0 1
  · rw [x1, if_pos m1, if_pos m1]
    refine ⟨rfl, fun z => (nomatch z), G, ?_⟩
    rw [if_neg (by intro z; cases z)]
    exact inv_t2 h 0 1
theorem op_addGoat (h : Inv G N S M) (a : Int32) : mM_addGoat M N G a 12 0 = xc gxIA gxIS ((xNum a 9).or (xRk S)) ∧ (((xNum a 9).or (xRk S)) = none → mR_addGoat M N G a = S 0 2) ∧ ∃ N', Inv G N' (if ((xNum a 9).or (xRk S)) = none then gxBrg S N a else S) (mM_addGoat M N G a) := by
  unfold mM_addGoat mR_addGoat
  rcases num_cases a 9 with ⟨x1, m1⟩ | ⟨x1, m1⟩
  · obtain ⟨c, c1, c2, ec⟩ := xNum_n (M := 9) (by omega) x1
    rw [x1, if_neg m1, if_neg m1]
    have hh := h
    obtain ⟨hN, hG, e1, e2, e3, e4, ⟨r1, r2, r3, r4⟩, b1, b2⟩ := hh
    by_cases h4 : N < 12
    · have x3 : xRk S = none := by unfold xRk; rw [e2, if_pos (show nI N < 12 from nI_lt (b := 12) h4 (by omega))]
      have m3 : ¬ M 12 2 = 12 := by rw [e4]; exact fun z => by have := (nI_eq (a := N) (b := 12) (by omega) (by omega)).mp z; omega
      rw [x3, if_neg m3, if_neg m3]
      refine ⟨rfl, fun _ => by rw [Int32.add_sub_cancel, e2, e4], N + 1, ?_⟩
      rw [if_pos (by rfl)]
      have sc : ∀ k d, 8 ≤ d → k ≠ N → gxBrg S N a d k = S d k := fun k d hd hk => by
        unfold gxBrg
        rw [up2_at, if_neg (by omega), gxRest_k _ hk, up2_at, if_neg (fun z => hk z.2)]
      have s16 : ∀ k, gxBrg S N a 16 k = S 16 k := fun k => by
        unfold gxBrg gxRest
        simp only [up2_at]
        simp
      refine ⟨by omega, hG, ?_, ?_, ?_, ?_, ⟨fun k hk => ?_, ?_, ?_, ?_⟩, ?_, ?_⟩
      · unfold gxBrg; rw [up2_c _ _ _ _ (by omega)]; exact e1
      · unfold gxBrg; rw [up2_s, e2, nI_1]
      · rw [up2_c _ _ _ _ (by omega)]; exact e3
      · rw [up2_s, e4, nI_1]
      · by_cases hkN : k = N
        · subst hkN
          obtain ⟨z0, z6⟩ := b1 k (Nat.le_refl k)
          refine ⟨?_, ?_, ?_, ⟨c, c1, c2, ?_⟩, Or.inl ⟨?_, ?_, ?_, ?_⟩⟩ <;> simp [co, gxBrg, gxRest, up2_at, z0, z6, ec]
        · refine rj_congr (s := co S k) (m := co M k) (fun d d1 d2 => sc k d d1 hkN) (fun d hd => ?_) (r1 k (by omega))
          show up2 (up2 (up2 M 12 0 0) 11 N a) 12 2 (M 12 2 + 1) d k = M d k
          rw [up2_at, if_neg (by omega), up2_at, if_neg (fun z => hkN z.2), up2_at, if_neg (by omega)]
      · exact r2
      · exact r3
      · show M 8 2 = gxGiv (gxBrg S N a) G
        rw [giv_congr (S := gxBrg S N a) (T := S) (fun g _ => rfl)]
        exact r4
      · intro k hk
        rw [s16]
        exact b1 k (by omega)
      · exact b2
    · have hN4 : N = 12 := by omega
      have x3 : xRk S = some gxIS := by unfold xRk; rw [e2, hN4, if_neg (by decide)]
      have m3 : M 12 2 = 12 := by rw [e4, hN4]; rfl
      rw [x3, if_pos m3, if_pos m3]
      refine ⟨rfl, fun z => (nomatch z), N, ?_⟩
      rw [if_neg (by intro z; cases z)]
      exact inv_t2 h 0 2
  · rw [x1, if_pos m1, if_pos m1]
    refine ⟨rfl, fun z => (nomatch z), N, ?_⟩
    rw [if_neg (by intro z; cases z)]
    exact inv_t2 h 0 1
end OP
