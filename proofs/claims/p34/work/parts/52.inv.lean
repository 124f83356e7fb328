/-! What holds between the law's turns (pure): class, rows and lines. -/
def LI (T G N : Nat) (S M : SS) (Ls : Nat → List Nat) : Prop := Inv G N S M ∧ Ln G N M Ls ∧ (∀ k, N ≤ k → ∀ a, a < 8 → M a k = 0) ∧ (∀ g, g < G → ∃ p, 1 ≤ p ∧ p ≤ 9 ∧ M 9 g = nI p) ∧ ∃ a, a ≤ T ∧ M 8 3 = nI a ∧ ∀ k, k < N → M 0 k = 1 → ∃ b, b < a ∧ M 7 k = nI b
theorem LI.mono {T T1 G N : Nat} {S M : SS} {Ls : Nat → List Nat} (h : LI T G N S M Ls) (hT : T ≤ T1) : LI T1 G N S M Ls := by
  obtain ⟨h1, h2, h3, h4, a, h5, h6⟩ := h
  exact ⟨h1, h2, h3, h4, a, by omega, h6⟩
theorem xNum_ok {a m : Nat} (h1 : 1 ≤ a) (h2 : a ≤ m) (hm : m < 2 ^ 31) : xNum (nI a) (nI m) = none := by
  unfold xNum
  rw [if_neg (show ¬ nI a < (1 : Int32) from fun z => absurd ((nI_ltI (a := a) (b := 1) (by omega) (by omega)).mp z) (by omega)), if_pos (nI_le h2 hm)]
theorem inv_G {G G' N : Nat} {S M : SS} (h : Inv G' N S M) (e : S 0 1 = nI G) (hG : G ≤ 5) : G' = G := by
  have h1 := h.2.2.1
  have h4 := h.2.1
  exact nI_inj12 (by omega) (by omega) (h1.symm.trans e)
theorem inv_N {G N N' : Nat} {S M : SS} (h : Inv G N' S M) (e : S 0 2 = nI N) (hN : N ≤ 12) : N' = N := by
  have h1 := h.2.2.2.1
  have h4 := h.1
  have e1 := nI_clamp (n := N') (by omega)
  have e2 := nI_clamp (n := N) (by omega)
  rw [← h1, e, e2] at e1
  exact e1.symm
section DO
variable {T G N : Nat} {S M : SS} {Ls : Nat → List Nat}
theorem do_addGate (h : LI T G N S M Ls) (hG : G < 4) {a : Nat} {b : Int32} (a1 : 1 ≤ a) (a2 : a ≤ 9) (hb : b = 0 ∨ b = 1) : ∃ M', LI T (G + 1) N (gxOpn S G (nI a) b) M' (lsU Ls G []) ∧ (∀ c k, c < 9 ∨ c = 11 → M' c k = M c k) ∧ (∀ g, g < G → M' 9 g = M 9 g ∧ M' 10 g = M 10 g) ∧ M' 9 G = nI a ∧ M' 10 G = b := by
  obtain ⟨hI, hL, hz, hp, t, ht, h83, h7⟩ := h
  obtain ⟨-, -, G', hI'⟩ := op_addGate hI (nI a) b
  have x1 : xNum (nI a) 9 = none := by
    exact xNum_ok (m := 9) a1 a2 (by omega)
  have x2 : xOrd b = none := by
    rcases hb with e | e
    · rw [e]; rfl
    · rw [e]; rfl
  have x3 : xRg S = none := by unfold xRg; rw [hI.2.2.1, if_pos (show nI G < 4 from nI_lt (b := 4) hG (by omega))]
  have hx : ((xNum (nI a) 9).or ((xOrd b).or (xRg S))) = none := by rw [x1, x2, x3]; rfl
  rw [if_pos hx] at hI'
  have m1 : ¬ mIn (nI a) 1 9 = 0 := by
    rcases num_cases (nI a) 9 with ⟨-, z⟩ | ⟨z, -⟩
    · exact z
    · rw [x1] at z; cases z
  have m2 : ¬ mIn b 0 1 = 0 := by
    rcases ord_cases b with ⟨-, z, -⟩ | ⟨z, -⟩
    · exact z
    · rw [x2] at z; cases z
  have m3 : ¬ M 12 1 = 4 := by rw [hI.2.2.2.2.1]; exact fun z => by have := nI_inj12 (a := G) (b := 4) (by omega) (by omega) z; omega
  have eM : mM_addGate M N G (nI a) b = up2 (up2 (up2 (up2 M 12 0 0) 9 G (nI a)) 10 G b) 12 1 ((M 12 1) + 1) := by
    unfold mM_addGate
    rw [if_neg m1, if_neg m2, if_neg m3]
  have eG : G' = G + 1 := by
    refine inv_G hI' ?_ (by omega)
    unfold gxOpn
    rw [up2_s, hI.2.2.1, nI_1]
  subst eG
  have at_ : ∀ c k, mM_addGate M N G (nI a) b c k = if c = 12 ∧ k = 1 then M 12 1 + 1 else if c = 10 ∧ k = G then b else if c = 9 ∧ k = G then nI a else if c = 12 ∧ k = 0 then 0 else M c k := fun c k => by
    rw [eM]; simp only [up2_at]
  generalize mM_addGate M N G (nI a) b = X at hI' at_
  have low : ∀ c k, c < 9 ∨ c = 11 → X c k = M c k := fun c k hc => by
    rw [at_, if_neg (by omega), if_neg (by omega), if_neg (by omega), if_neg (by omega)]
  have gt : ∀ g, g < G → X 9 g = M 9 g ∧ X 10 g = M 10 g := fun g hg => by
    rw [at_, at_]
    simp [show ¬ g = G by omega]
  have g9 : X 9 G = nI a := by rw [at_]; simp
  refine ⟨X, ⟨hI', ⟨fun k hk h1 => ?_, fun g hg => ?_⟩, fun k hk c hc => ?_, fun g hg => ?_, t, ht, ?_, fun k hk h1 => ?_⟩, low, gt, g9, by rw [at_]; simp⟩
  · rw [low 0 k (by omega)] at h1
    obtain ⟨g, g1, g2⟩ := hL.1 k hk h1
    exact ⟨g, by omega, by rw [low 1 k (by omega)]; exact g2⟩
  · by_cases e : g = G
    · subst e
      rw [lsU_self]
      refine ⟨fun k => ⟨fun z => absurd z List.not_mem_nil, fun ⟨hk, k1, k2⟩ => ?_⟩, List.Pairwise.nil⟩
      rw [low 0 k (by omega)] at k1
      rw [low 1 k (by omega)] at k2
      obtain ⟨g1, q1, q2⟩ := hL.1 k hk k1
      have := nI_inj12 (by omega) (by omega) (q2.symm.trans k2)
      omega
    · rw [lsU_ne _ _ e]
      obtain ⟨q1, q2⟩ := hL.2 g (by omega)
      refine ⟨fun k => ?_, q2.imp (fun {x y} hxy => by rw [low 7 x (by omega), low 7 y (by omega)]; exact hxy)⟩
      rw [q1 k, low 0 k (by omega), low 1 k (by omega)]
  · rw [low c k (by omega)]; exact hz k hk c hc
  · by_cases e : g = G
    · rw [e]; exact ⟨a, a1, a2, g9⟩
    · rw [(gt g (by omega)).1]; exact hp g (by omega)
  · rw [low 8 3 (by omega)]; exact h83
  · rw [low 0 k (by omega)] at h1
    rw [low 7 k (by omega)]; exact h7 k hk h1
theorem do_addGoat (h : LI T G N S M Ls) (hN : N < 12) {a : Nat} (a1 : 1 ≤ a) (a2 : a ≤ 9) : ∃ M', LI T G (N + 1) (gxBrg S N (nI a)) M' Ls ∧ (∀ c k, c < 11 → M' c k = M c k) ∧ (∀ k, k < N → M' 11 k = M 11 k) ∧ M' 11 N = nI a ∧ ∀ c, c < 8 → M' c N = 0 := by
  obtain ⟨hI, hL, hz, hp, t, ht, h83, h7⟩ := h
  obtain ⟨-, -, N', hI'⟩ := op_addGoat hI (nI a)
  have x1 : xNum (nI a) 9 = none := by
    exact xNum_ok (m := 9) a1 a2 (by omega)
  have x3 : xRk S = none := by unfold xRk; rw [hI.2.2.2.1, if_pos (show nI N < 12 from nI_lt (b := 12) hN (by omega))]
  have hx : ((xNum (nI a) 9).or (xRk S)) = none := by rw [x1, x3]; rfl
  rw [if_pos hx] at hI'
  have m1 : ¬ mIn (nI a) 1 9 = 0 := by
    rcases num_cases (nI a) 9 with ⟨-, z⟩ | ⟨z, -⟩
    · exact z
    · rw [x1] at z; cases z
  have m3 : ¬ M 12 2 = 12 := by
    rw [hI.2.2.2.2.2.1]
    intro z
    have e1 := nI_clamp (n := N) (by omega)
    rw [z] at e1
    have : (12 : Int32).toNatClampNeg = 12 := by decide
    omega
  have eM : mM_addGoat M N G (nI a) = up2 (up2 (up2 M 12 0 0) 11 N (nI a)) 12 2 ((M 12 2) + 1) := by
    unfold mM_addGoat
    rw [if_neg m1, if_neg m3]
  have eN : N' = N + 1 := by
    refine inv_N hI' ?_ (by omega)
    unfold gxBrg
    rw [up2_s, hI.2.2.2.1, nI_1]
  subst eN
  have at_ : ∀ c k, mM_addGoat M N G (nI a) c k = if c = 12 ∧ k = 2 then M 12 2 + 1 else if c = 11 ∧ k = N then nI a else if c = 12 ∧ k = 0 then 0 else M c k := fun c k => by
    rw [eM]; simp only [up2_at]
  generalize mM_addGoat M N G (nI a) = X at hI' at_
  have low : ∀ c k, c < 11 → X c k = M c k := fun c k hc => by
    rw [at_, if_neg (by omega), if_neg (by omega), if_neg (by omega)]
  have h0N : X 0 N = 0 := by rw [low 0 N (by omega)]; exact hz N (Nat.le_refl N) 0 (by omega)
  refine ⟨X, ⟨hI', ⟨fun k hk h1 => ?_, fun g hg => ?_⟩, fun k hk c hc => ?_, fun g hg => ?_, t, ht, ?_, fun k hk h1 => ?_⟩, low, fun k hk => by rw [at_]; simp [show ¬ k = N by omega], by rw [at_]; simp, fun c hc => by rw [low c N (by omega)]; exact hz N (Nat.le_refl N) c hc⟩
  · have hkN : k ≠ N := fun e => by rw [e, h0N] at h1; exact absurd h1 (by decide)
    rw [low 0 k (by omega)] at h1
    rw [low 1 k (by omega)]
    exact hL.1 k (by omega) h1
  · obtain ⟨q1, q2⟩ := hL.2 g hg
    refine ⟨fun k => ?_, q2.imp (fun {x y} hxy => by rw [low 7 x (by omega), low 7 y (by omega)]; exact hxy)⟩
    rw [q1 k, low 0 k (by omega), low 1 k (by omega)]
    constructor
    · rintro ⟨k1, k2, k3⟩; exact ⟨by omega, k2, k3⟩
    · rintro ⟨k1, k2, k3⟩
      have hkN : k ≠ N := fun e => by rw [e, hz N (Nat.le_refl N) 0 (by omega)] at k2; exact absurd k2 (by decide)
      exact ⟨by omega, k2, k3⟩
  · rw [low c k (by omega)]; exact hz k (by omega) c hc
  · rw [low 9 g (by omega)]; exact hp g hg
  · rw [low 8 3 (by omega)]; exact h83
  · have hkN : k ≠ N := fun e => by rw [e, h0N] at h1; exact absurd h1 (by decide)
    rw [low 0 k (by omega)] at h1
    rw [low 7 k (by omega)]; exact h7 k (by omega) h1
end DO
