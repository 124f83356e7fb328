/-! The law's four arrays in the pool. -/
def f4 (cI : ClassId) (f : Nat → va_E) (a b c d N G : Nat) (xa xb xc xd : Nat → Int32) : Nat → va_E := va_up (va_up (va_up (va_up f a (.inl (cI, N, .inl xa))) b (.inl (cI, N, .inl xb))) c (.inl (cI, G, .inl xc))) d (.inl (cI, G, .inl xd))
def AR (a b c d : Nat) : Prop := a ≠ b ∧ a ≠ c ∧ a ≠ d ∧ b ≠ c ∧ b ≠ d ∧ c ≠ d
section F4
variable {cI : ClassId} {f : Nat → va_E} {a b c d N G : Nat} {xa xb xc xd : Nat → Int32}
theorem f4_ga (h : AR a b c d) : f4 cI f a b c d N G xa xb xc xd a = .inl (cI, N, .inl xa) := by
  obtain ⟨h1, h2, h3, h4, h5, h6⟩ := h
  unfold f4
  rw [va_up_ne _ _ h3, va_up_ne _ _ h2, va_up_ne _ _ h1, va_up_self]
theorem f4_gb (h : AR a b c d) : f4 cI f a b c d N G xa xb xc xd b = .inl (cI, N, .inl xb) := by
  obtain ⟨h1, h2, h3, h4, h5, h6⟩ := h
  unfold f4
  rw [va_up_ne _ _ h5, va_up_ne _ _ h4, va_up_self]
theorem f4_gc (h : AR a b c d) : f4 cI f a b c d N G xa xb xc xd c = .inl (cI, G, .inl xc) := by
  obtain ⟨h1, h2, h3, h4, h5, h6⟩ := h
  unfold f4
  rw [va_up_ne _ _ h6, va_up_self]
theorem f4_gd (_h : AR a b c d) : f4 cI f a b c d N G xa xb xc xd d = .inl (cI, G, .inl xd) := by
  unfold f4
  rw [va_up_self]
theorem f4_sa (h : AR a b c d) {y : Nat → Int32} : va_up (f4 cI f a b c d N G xa xb xc xd) a (.inl (cI, N, .inl y)) = f4 cI f a b c d N G y xb xc xd := by
  obtain ⟨h1, h2, h3, h4, h5, h6⟩ := h
  funext p
  unfold f4 va_up
  by_cases e : p = a
  · subst e; simp [h1, h2, h3]
  · simp [e]
theorem f4_sb (h : AR a b c d) {y : Nat → Int32} : va_up (f4 cI f a b c d N G xa xb xc xd) b (.inl (cI, N, .inl y)) = f4 cI f a b c d N G xa y xc xd := by
  obtain ⟨h1, h2, h3, h4, h5, h6⟩ := h
  funext p
  unfold f4 va_up
  by_cases e : p = b
  · subst e; simp [h4, h5]
  · simp [e]
theorem f4_sc (h : AR a b c d) {y : Nat → Int32} : va_up (f4 cI f a b c d N G xa xb xc xd) c (.inl (cI, G, .inl y)) = f4 cI f a b c d N G xa xb y xd := by
  obtain ⟨h1, h2, h3, h4, h5, h6⟩ := h
  funext p
  unfold f4 va_up
  by_cases e : p = c
  · subst e; simp [h6]
  · simp [e]
theorem f4_sd (_h : AR a b c d) {y : Nat → Int32} : va_up (f4 cI f a b c d N G xa xb xc xd) d (.inl (cI, G, .inl y)) = f4 cI f a b c d N G xa xb xc y := by
  funext p
  unfold f4 va_up
  by_cases e : p = d
  · subst e; simp
  · simp [e]
end F4
theorem upd_lt {x F : Nat → Int32} {i : Nat} {v : Int32} (hv : v = F i) (h : ∀ j, j < i → x j = F j) : ∀ j, j < i + 1 → upd x i v j = F j := by
  intro j hj
  by_cases e : j = i
  · subst e; simp [upd, hv]
  · simp [upd, e]; exact h j (by omega)
theorem nI_ge0 {n : Nat} (h : n < 2 ^ 31) : (0 : Int32) ≤ nI n := Int32.not_lt.mp (nI_pos h)
section HL
variable {S : SS} {N G i a : Nat} {x : Nat → Int32}
theorem hel_up (hG : G ≤ 4) (ha : a < G) (h10 : S 10 i = nI a) (hx : ∀ g, g < G → x g = hel S i g) : ∀ g, g < G → upd x a (x a + gxHeld S i) g = hel S (i + 1) g := by
  intro g hg
  show _ = if S 10 i = nI g then hel S i g + gxHeld S i else hel S i g
  rw [h10]
  by_cases e : g = a
  · subst e
    rw [if_pos rfl, ← hx g hg]
    simp [upd]
  · rw [if_neg (fun z => e (nI_inj12 (by omega) (by omega) z).symm), ← hx g hg]
    simp [upd, e]
theorem hel_no (hG : G ≤ 4) (h10 : S 10 i = -1) (hx : ∀ g, g < G → x g = hel S i g) : ∀ g, g < G → x g = hel S (i + 1) g := by
  intro g hg
  show _ = if S 10 i = nI g then hel S i g + gxHeld S i else hel S i g
  rw [h10, if_neg (fun z => nI_m1 (by omega) z.symm)]
  exact hx g hg
theorem lnm_up (hG : G ≤ 4) (ha : a < G) (h9 : S 9 i = 1) (h10 : S 10 i = nI a) (hx : ∀ g, g < G → x g = lnm S N i g) : ∀ g, g < G → upd x a (x a ||| ((1 : Int32) <<< (gxPl S N i &&& 31))) g = lnm S N (i + 1) g := by
  intro g hg
  show _ = if S 9 i = 1 ∧ S 10 i = nI g then lnm S N i g ||| ((1 : Int32) <<< (gxPl S N i &&& 31)) else lnm S N i g
  by_cases e : g = a
  · subst e
    rw [if_pos ⟨h9, h10⟩, ← hx g hg]
    simp [upd]
  · rw [if_neg (fun z => e (nI_inj12 (by omega) (by omega) (h10.symm.trans z.2)).symm), ← hx g hg]
    simp [upd, e]
theorem lnm_no (h9 : ¬ S 9 i = 1) (hx : ∀ g, g < G → x g = lnm S N i g) : ∀ g, g < G → x g = lnm S N (i + 1) g := by
  intro g hg
  show _ = if S 9 i = 1 ∧ S 10 i = nI g then lnm S N i g ||| ((1 : Int32) <<< (gxPl S N i &&& 31)) else lnm S N i g
  rw [if_neg (fun z => h9 z.1)]
  exact hx g hg
end HL
theorem LI.un3 {T G N : Nat} {S M : SS} {Ls : Nat → List Nat} (h : LI T G N S M Ls) {k : Nat} (hk : k < N) : (¬ S 9 k = 1 → gxUn S G N k = -1) ∧ ¬ 60 < gxUn S G N k ∧ ¬ gxUn S G N k = 0 ∧ gxUn S G N k ≤ S 13 k := by
  rcases h.un hk with e | ⟨h1, m, m1, m2, e, c, c1, c2, ec⟩
  · rw [e]
    refine ⟨fun _ => rfl, by decide, by decide, ?_⟩
    rcases h.lf hk with ⟨-, z⟩ | ⟨-, c, -, c2, z⟩
    · rw [z]; decide
    · rw [z]
      exact Int32.le_of_lt (Int32.lt_of_lt_of_le (by decide) (nI_ge0 (by omega)))
  · rw [e, ec]
    refine ⟨fun z => absurd h1 z, fun z => ?_, fun z => ?_, nI_le c1 (by omega)⟩
    · have := (nI_ltI (a := 60) (b := m) (by omega) (by omega)).mp z
      omega
    · have := (nI_eq (a := m) (b := 0) (by omega) (by omega)).mp z
      omega
theorem tw_any {D : va_G} {A : Nat → Prop} {H0 : Heap} {cI : ClassId} {t o : Nat} {r : Nat → Nat} {S : SS} {o1 : Nat} {r1 : Nat → Nat} {T : SS} {L : List Nat} {f : Nat → va_E} {H : Heap} {locs : List Loc} {P : Prop} (hw : SW D A H0 (tw cI t o r S o1 r1 T) L f H locs) (k : ∀ Tq, SW D A H0 (tw cI t o r S o1 r1 Tq) L f H locs → P) : P := k T hw
