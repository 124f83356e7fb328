/-! What the Sim's cells hold, by the reference's rows M (of the pure parts) and the lines Ls. -/
def rw8 : Nat → Nat := fun j => match j with | 0 => 11 | 1 => 0 | 2 => 1 | 3 => 2 | 4 => 3 | 5 => 4 | 6 => 5 | _ => 6
theorem rw8_no {j : Nat} : rw8 j ≠ 7 ∧ rw8 j ≠ 8 ∧ rw8 j ≠ 9 ∧ rw8 j ≠ 10 := by
  unfold rw8
  split <;> decide
theorem rw8_inj : ∀ i, i < 8 → ∀ j, j < 8 → rw8 i = rw8 j → i = j := by decide
/-- the row e holds the numbers of the list l -/
def rowIs (cI : ClassId) (e : va_E) (l : List Nat) : Prop := ∃ x : Nat → Int32, e = .inl (cI, l.length, .inl x) ∧ ∀ i k, l[i]? = some k → x i = nI k
def SimI (cI cR : ClassId) (L : List Nat) (f : Nat → va_E) (ad : Nat → Nat → Nat) (P N K : Nat) (M : SS) (Ls : Nat → List Nat) : Prop :=
  (ad 0 0 ∈ L ∧ f (ad 0 0) = .inr (2, [.int (M 8 0), .int (M 8 1), .int (M 8 2), .ref (ad 0 1), .ref (ad 0 2), .ref (ad 0 3)])) ∧
  (ad 0 1 ∈ L ∧ ∃ r, f (ad 0 1) = .inl (cR, qr P r) ∧ ∀ g, g < P → r g = some (ad 1 g)) ∧
  (ad 0 2 ∈ L ∧ ∃ r, f (ad 0 2) = .inl (cR, qr N r) ∧ ∀ k, k < N → r k = some (ad 2 k)) ∧
  (ad 0 3 ∈ L ∧ ∃ r, f (ad 0 3) = .inl (cR, qr K r) ∧ ∀ g, g < K → r g = some (ad 3 g)) ∧
  (∀ g, g < P → ad 1 g ∈ L ∧ ∃ x, f (ad 1 g) = .inl (cI, 2, .inl x) ∧ x 0 = M 9 g ∧ x 1 = M 10 g) ∧
  (∀ k, k < N → ad 2 k ∈ L ∧ ∃ x, f (ad 2 k) = .inl (cI, 8, .inl x) ∧ ∀ j, j < 8 → x j = M (rw8 j) k) ∧
  (∀ g, g < K → ad 3 g ∈ L ∧ rowIs cI (f (ad 3 g)) (Ls g)) ∧
  ((ad 0 1 ≠ ad 0 3 ∧ ad 0 2 ≠ ad 0 3) ∧ (∀ i j, i < P → j < P → ad 1 i = ad 1 j → i = j) ∧ (∀ i j, i < N → j < N → ad 2 i = ad 2 j → i = j) ∧ (∀ k g, k < N → g < K → ad 2 k ≠ ad 3 g) ∧ (∀ h g, h < P → g < K → ad 1 h ≠ ad 3 g))
section SI
variable {cI cR : ClassId} {L : List Nat} {f : Nat → va_E} {ad : Nat → Nat → Nat} {P N K : Nat} {M : SS} {Ls : Nat → List Nat}
/-- cells that stay, stay what they are -/
theorem SimI.mono (h : SimI cI cR L f ad P N K M Ls) {L1 : List Nat} {f1 : Nat → va_E} (hL : ∀ a ∈ L, a ∈ L1) (hf : ∀ a ∈ L, f1 a = f a) : SimI cI cR L1 f1 ad P N K M Ls := by
  obtain ⟨⟨a1, a2⟩, ⟨b1, b2⟩, ⟨c1, c2⟩, ⟨d1, d2⟩, e1, g1, l1, z⟩ := h
  refine ⟨⟨hL _ a1, (hf _ a1).trans a2⟩, ⟨hL _ b1, ?_⟩, ⟨hL _ c1, ?_⟩, ⟨hL _ d1, ?_⟩, fun g hg => ?_, fun k hk => ?_, fun g hg => ?_, z⟩
  · rw [hf _ b1]; exact b2
  · rw [hf _ c1]; exact c2
  · rw [hf _ d1]; exact d2
  · obtain ⟨h1, h2⟩ := e1 g hg
    refine ⟨hL _ h1, ?_⟩
    rw [hf _ h1]; exact h2
  · obtain ⟨h1, h2⟩ := g1 k hk
    refine ⟨hL _ h1, ?_⟩
    rw [hf _ h1]; exact h2
  · obtain ⟨h1, h2⟩ := l1 g hg
    refine ⟨hL _ h1, ?_⟩
    rw [hf _ h1]; exact h2
theorem SimI.new (h : SimI cI cR L f ad P N K M Ls) {q : Nat} {e : va_E} (hq : q ∉ L) : SimI cI cR (L ++ [q]) (va_up f q e) ad P N K M Ls :=
  h.mono (fun _ h => List.mem_append_left _ h) (fun a ha => va_up_ne _ _ (fun z => hq (z ▸ ha)))
/-- only these numbers count -/
theorem SimI.congr (h : SimI cI cR L f ad P N K M Ls) {M1 : SS} (h8 : ∀ i, i < 3 → M1 8 i = M 8 i) (hg : ∀ g, g < P → M1 9 g = M 9 g ∧ M1 10 g = M 10 g) (hk : ∀ k, k < N → ∀ j, j < 8 → M1 (rw8 j) k = M (rw8 j) k) : SimI cI cR L f ad P N K M1 Ls := by
  obtain ⟨⟨a1, a2⟩, b, c, d, e1, g1, l1, z⟩ := h
  refine ⟨⟨a1, ?_⟩, b, c, d, fun g h0 => ?_, fun k h0 => ?_, l1, z⟩
  · rw [h8 0 (by decide), h8 1 (by decide), h8 2 (by decide)]; exact a2
  · obtain ⟨h1, x, h2, h3, h4⟩ := e1 g h0
    exact ⟨h1, x, h2, h3.trans (hg g h0).1.symm, h4.trans (hg g h0).2.symm⟩
  · obtain ⟨h1, x, h2, h3⟩ := g1 k h0
    exact ⟨h1, x, h2, fun j hj => (h3 j hj).trans (hk k h0 j hj).symm⟩
theorem SimI.lines (h : SimI cI cR L f ad P N K M Ls) {Ls1 : Nat → List Nat} (hg : ∀ g, g < K → Ls1 g = Ls g) : SimI cI cR L f ad P N K M Ls1 := by
  obtain ⟨a, b, c, d, e1, g1, l1, z⟩ := h
  refine ⟨a, b, c, d, e1, g1, fun g h0 => ?_, z⟩
  rw [hg g h0]; exact l1 g h0
/-- an object is no row -/
theorem SimI.o_ne (h : SimI cI cR L f ad P N K M Ls) {a : Nat} {x : ClassId × vp_A} (ha : f a = .inl x) : a ≠ ad 0 0 := by
  intro z
  have := h.1.2
  rw [← z, ha] at this
  cases this
theorem inl_ne_q {cI cR : ClassId} {n k : Nat} {x : Nat → Int32} {r : Nat → Option Nat} (h : (Sum.inl (cI, n, .inl x) : va_E) = .inl (cR, qr k r)) : False := by
  injection h with h
  have := congrArg (fun z => z.2.2) h
  cases this
theorem inl_len {cI : ClassId} {n k : Nat} {x y : Nat → Int32} (h : (Sum.inl (cI, n, .inl x) : va_E) = .inl (cI, k, .inl y)) : n = k := by
  injection h with h
  exact congrArg (fun z => z.2.1) h
/-- a goat's number is written -/
theorem SimI.kst (h : SimI cI cR L f ad P N K M Ls) {k i : Nat} {x : Nat → Int32} {v : Int32} (hk : k < N) (hi : i < 8) (hx : f (ad 2 k) = .inl (cI, 8, .inl x)) : SimI cI cR L (va_up f (ad 2 k) (.inl (cI, 8, .inl (upd x i v)))) ad P N K (up2 M (rw8 i) k v) Ls := by
  have ho := h.o_ne hx
  obtain ⟨⟨a1, a2⟩, ⟨b1, rb, b2, b3⟩, ⟨c1, rc, c2, c3⟩, ⟨d1, rd, d2, d3⟩, e1, g1, l1, z⟩ := h
  obtain ⟨z1, z2, z3, z4, z5⟩ := z
  have nq : ∀ (n : Nat) (r : Nat → Option Nat) (a : Nat), f a = .inl (cR, qr n r) → a ≠ ad 2 k := fun n r a ha q => by
    rw [q, hx] at ha
    exact inl_ne_q ha
  have r8 : ∀ c, up2 M (rw8 i) k v 8 c = M 8 c := fun c => by rw [up2_r _ _ _ _ (Ne.symm rw8_no.2.1)]
  refine ⟨⟨a1, ?_⟩, ⟨b1, rb, ?_, b3⟩, ⟨c1, rc, ?_, c3⟩, ⟨d1, rd, ?_, d3⟩, fun g hg => ?_, fun k1 hk1 => ?_, fun g hg => ?_, z1, z2, z3, z4, z5⟩
  · rw [va_up_ne _ _ (Ne.symm ho), r8, r8, r8]; exact a2
  · rw [va_up_ne _ _ (nq _ _ _ b2)]; exact b2
  · rw [va_up_ne _ _ (nq _ _ _ c2)]; exact c2
  · rw [va_up_ne _ _ (nq _ _ _ d2)]; exact d2
  · obtain ⟨h1, y, h2, h3, h4⟩ := e1 g hg
    refine ⟨h1, y, ?_, ?_, ?_⟩
    · rw [va_up_ne]
      · exact h2
      · intro q
        rw [q, hx] at h2
        exact absurd (inl_len h2) (by decide)
    · rw [up2_r _ _ _ _ (Ne.symm rw8_no.2.2.1)]; exact h3
    · rw [up2_r _ _ _ _ (Ne.symm rw8_no.2.2.2)]; exact h4
  · obtain ⟨h1, y, h2, h3⟩ := g1 k1 hk1
    by_cases hkk : k1 = k
    · subst hkk
      refine ⟨h1, upd x i v, va_up_self _ _ _, fun j hj => ?_⟩
      rw [hx] at h2
      injection h2 with h2
      have hxy : x = y := by
        have := congrArg (fun z => z.2.2) h2
        injection this
      subst hxy
      rw [up2_at]
      by_cases hij : j = i
      · subst hij
        rw [if_pos ⟨rfl, rfl⟩]
        simp [upd]
      · rw [if_neg (fun q => hij (rw8_inj j hj i hi q.1))]
        rw [← h3 j hj]
        simp [upd, hij]
    · refine ⟨h1, y, ?_, fun j hj => ?_⟩
      · rw [va_up_ne _ _ (fun q => hkk (z3 k1 k hk1 hk q))]; exact h2
      · rw [up2_at, if_neg (fun q => hkk q.2)]; exact h3 j hj
  · obtain ⟨h1, h2⟩ := l1 g hg
    refine ⟨h1, ?_⟩
    rw [va_up_ne _ _ (fun q => z4 k g hk hg q.symm)]; exact h2
/-- a number of the Sim's own is written -/
theorem SimI.fst (h : SimI cI cR L f ad P N K M Ls) {i : Nat} {v : Int32} {fs : List Value} (hi : i < 3) (hx : f (ad 0 0) = .inr (2, fs)) : SimI cI cR L (va_up f (ad 0 0) (.inr (2, fs.set i (.int v)))) ad P N K (up2 M 8 i v) Ls := by
  have ho : ∀ {a : Nat} {x : ClassId × vp_A}, f a = .inl x → a ≠ ad 0 0 := fun ha => h.o_ne ha
  obtain ⟨⟨a1, a2⟩, ⟨b1, rb, b2, b3⟩, ⟨c1, rc, c2, c3⟩, ⟨d1, rd, d2, d3⟩, e1, g1, l1, z⟩ := h
  refine ⟨⟨a1, ?_⟩, ⟨b1, rb, ?_, b3⟩, ⟨c1, rc, ?_, c3⟩, ⟨d1, rd, ?_, d3⟩, fun g hg => ?_, fun k1 hk1 => ?_, fun g hg => ?_, z⟩
  · rw [va_up_self]
    rw [hx] at a2
    injection a2 with a2
    have e2 : fs = _ := congrArg (fun z => z.2) a2
    rw [e2]
    match i, hi with
    | 0, _ => rfl
    | 1, _ => rfl
    | 2, _ => rfl
  · rw [va_up_ne _ _ (ho b2)]; exact b2
  · rw [va_up_ne _ _ (ho c2)]; exact c2
  · rw [va_up_ne _ _ (ho d2)]; exact d2
  · obtain ⟨h1, y, h2, h3, h4⟩ := e1 g hg
    exact ⟨h1, y, by rw [va_up_ne _ _ (ho h2)]; exact h2, by rw [up2_r _ _ _ _ (by decide)]; exact h3, by rw [up2_r _ _ _ _ (by decide)]; exact h4⟩
  · obtain ⟨h1, y, h2, h3⟩ := g1 k1 hk1
    exact ⟨h1, y, by rw [va_up_ne _ _ (ho h2)]; exact h2, fun j hj => by rw [up2_r _ _ _ _ rw8_no.2.1]; exact h3 j hj⟩
  · obtain ⟨h1, y, h2, h3⟩ := l1 g hg
    exact ⟨h1, y, by rw [va_up_ne _ _ (ho h2)]; exact h2, h3⟩
/-- a gate's number is written -/
theorem SimI.gst (h : SimI cI cR L f ad P N K M Ls) {g i : Nat} {x : Nat → Int32} {v : Int32} (hg : g < P) (hi : i < 2) (hx : f (ad 1 g) = .inl (cI, 2, .inl x)) : SimI cI cR L (va_up f (ad 1 g) (.inl (cI, 2, .inl (upd x i v)))) ad P N K (up2 M (9 + i) g v) Ls := by
  have ho := h.o_ne hx
  obtain ⟨⟨a1, a2⟩, ⟨b1, rb, b2, b3⟩, ⟨c1, rc, c2, c3⟩, ⟨d1, rd, d2, d3⟩, e1, g1, l1, z⟩ := h
  obtain ⟨z1, z2, z3, z4, z5⟩ := z
  have nq : ∀ (n : Nat) (r : Nat → Option Nat) (a : Nat), f a = .inl (cR, qr n r) → a ≠ ad 1 g := fun n r a ha q => by
    rw [q, hx] at ha
    exact inl_ne_q ha
  have r8 : ∀ c, up2 M (9 + i) g v 8 c = M 8 c := fun c => by rw [up2_r _ _ _ _ (by omega)]
  refine ⟨⟨a1, ?_⟩, ⟨b1, rb, ?_, b3⟩, ⟨c1, rc, ?_, c3⟩, ⟨d1, rd, ?_, d3⟩, fun g1 hg1 => ?_, fun k1 hk1 => ?_, fun g1 hg1 => ?_, z1, z2, z3, z4, z5⟩
  · rw [va_up_ne _ _ (Ne.symm ho), r8, r8, r8]; exact a2
  · rw [va_up_ne _ _ (nq _ _ _ b2)]; exact b2
  · rw [va_up_ne _ _ (nq _ _ _ c2)]; exact c2
  · rw [va_up_ne _ _ (nq _ _ _ d2)]; exact d2
  · obtain ⟨h1, y, h2, h3, h4⟩ := e1 g1 hg1
    by_cases hgg : g1 = g
    · subst hgg
      rw [hx] at h2
      injection h2 with h2
      have hxy : x = y := by
        have := congrArg (fun z => z.2.2) h2
        injection this
      subst hxy
      refine ⟨h1, upd x i v, va_up_self _ _ _, ?_, ?_⟩
      · rw [up2_at]
        by_cases hi0 : i = 0
        · subst hi0; rw [if_pos ⟨rfl, rfl⟩]; simp [upd]
        · rw [if_neg (by omega), ← h3]; simp [upd, Ne.symm hi0]
      · rw [up2_at]
        by_cases hi0 : i = 1
        · subst hi0; rw [if_pos ⟨rfl, rfl⟩]; simp [upd]
        · rw [if_neg (by omega), ← h4]; simp [upd, Ne.symm hi0]
    · refine ⟨h1, y, ?_, ?_, ?_⟩
      · rw [va_up_ne _ _ (fun q => hgg (z2 g1 g hg1 hg q))]; exact h2
      · rw [up2_at, if_neg (fun q => hgg q.2)]; exact h3
      · rw [up2_at, if_neg (fun q => hgg q.2)]; exact h4
  · obtain ⟨h1, y, h2, h3⟩ := g1 k1 hk1
    refine ⟨h1, y, ?_, fun j hj => ?_⟩
    · rw [va_up_ne]
      · exact h2
      · intro q
        rw [q, hx] at h2
        exact absurd (inl_len h2) (by decide)
    · rw [up2_r]
      · exact h3 j hj
      · have := rw8_no (j := j)
        omega
  · obtain ⟨h1, h2⟩ := l1 g1 hg1
    refine ⟨h1, ?_⟩
    rw [va_up_ne _ _ (fun q => z5 g g1 hg hg1 q.symm)]; exact h2
/-- the addresses, one line's row another -/
def adU (ad : Nat → Nat → Nat) (g q : Nat) : Nat → Nat → Nat := fun a b => if a = 3 ∧ b = g then q else ad a b
theorem adU_ne {ad : Nat → Nat → Nat} {g q a b : Nat} (h : a ≠ 3) : adU ad g q a b = ad a b := if_neg (fun z => h z.1)
def lsU (Ls : Nat → List Nat) (g : Nat) (l : List Nat) : Nat → List Nat := fun j => if j = g then l else Ls j
theorem lsU_self (Ls : Nat → List Nat) (g : Nat) (l : List Nat) : lsU Ls g l g = l := if_pos rfl
theorem lsU_ne (Ls : Nat → List Nat) {g j : Nat} (l : List Nat) (h : j ≠ g) : lsU Ls g l j = Ls j := if_neg h
/-- a line gets another row -/
theorem SimI.lst (h : SimI cI cR L f ad P N K M Ls) {g q : Nat} {l : List Nat} {r : Nat → Option Nat} (hg : g < K) (hx : f (ad 0 3) = .inl (cR, qr K r)) (hq : q ∈ L) (hl : rowIs cI (f q) l) (h1 : ∀ j, j < P → ad 1 j ≠ q) (h2 : ∀ k, k < N → ad 2 k ≠ q) : SimI cI cR L (va_up f (ad 0 3) (.inl (cR, qr K (va_up r g (some q))))) (adU ad g q) P N K M (lsU Ls g l) := by
  have ho := h.o_ne hx
  obtain ⟨⟨a1, a2⟩, ⟨b1, rb, b2, b3⟩, ⟨c1, rc, c2, c3⟩, ⟨d1, rd, d2, d3⟩, e1, g1, l1, z⟩ := h
  obtain ⟨⟨z0, z1⟩, z2, z3, z4, z5⟩ := z
  have nq : ∀ (n : Nat) (x : Nat → Int32) (a : Nat), f a = .inl (cI, n, .inl x) → a ≠ ad 0 3 := fun n x a ha q => by
    rw [q, hx] at ha
    exact inl_ne_q ha.symm
  refine ⟨⟨a1, ?_⟩, ⟨b1, rb, ?_, b3⟩, ⟨c1, rc, ?_, c3⟩, ⟨d1, va_up r g (some q), ?_, fun j hj => ?_⟩, fun g1 hg1 => ?_, fun k1 hk1 => ?_, fun g1 hg1 => ?_, ⟨z0, z1⟩, z2, z3, fun k j hk hj => ?_, fun i j hi hj => ?_⟩
  · show va_up f (ad 0 3) _ (ad 0 0) = _
    rw [va_up_ne _ _ (Ne.symm ho)]; exact a2
  · show va_up f (ad 0 3) _ (ad 0 1) = _
    rw [va_up_ne _ _ z0]; exact b2
  · show va_up f (ad 0 3) _ (ad 0 2) = _
    rw [va_up_ne _ _ z1]; exact c2
  · exact va_up_self _ _ _
  · by_cases hj2 : j = g
    · subst hj2
      rw [va_up_self]
      show some q = some (if (3 : Nat) = 3 ∧ j = j then q else ad 3 j)
      rw [if_pos ⟨rfl, rfl⟩]
    · rw [va_up_ne _ _ hj2]
      rw [hx] at d2
      injection d2 with d2
      have hrr : r = rd := by
        have := congrArg (fun z => z.2.2) d2
        injection this with this
        injection this with this
        injection this with this
        injection this
      rw [hrr, d3 j hj]
      show some (ad 3 j) = some (if (3 : Nat) = 3 ∧ j = g then q else ad 3 j)
      rw [if_neg (fun z => hj2 z.2)]
  · obtain ⟨h1, y, h2, h3⟩ := e1 g1 hg1
    refine ⟨h1, y, ?_, h3⟩
    show va_up f (ad 0 3) _ (ad 1 g1) = _
    rw [va_up_ne _ _ (nq _ _ _ h2)]; exact h2
  · obtain ⟨h1, y, h2, h3⟩ := g1 k1 hk1
    refine ⟨h1, y, ?_, h3⟩
    show va_up f (ad 0 3) _ (ad 2 k1) = _
    rw [va_up_ne _ _ (nq _ _ _ h2)]; exact h2
  · by_cases hj2 : g1 = g
    · subst hj2
      have e9 : adU ad g1 q 3 g1 = q := if_pos ⟨rfl, rfl⟩
      rw [e9, lsU_self]
      obtain ⟨x, h3, h4⟩ := hl
      refine ⟨hq, x, ?_, h4⟩
      rw [va_up_ne _ _ (nq _ _ _ h3)]; exact h3
    · have e9 : adU ad g q 3 g1 = ad 3 g1 := if_neg (fun z => hj2 z.2)
      rw [e9, lsU_ne _ _ hj2]
      obtain ⟨h1, x, h3, h4⟩ := l1 g1 hg1
      refine ⟨h1, x, ?_, h4⟩
      rw [va_up_ne _ _ (nq _ _ _ h3)]; exact h3
  · show ad 2 k ≠ if (3 : Nat) = 3 ∧ j = g then q else ad 3 j
    split
    · exact h2 k hk
    · exact z4 k j hk hj
  · show ad 1 i ≠ if (3 : Nat) = 3 ∧ j = g then q else ad 3 j
    split
    · exact h1 i hi
    · exact z5 i j hi hj
end SI
/-- what a Sim's method leaves as it is -/
def pxF (N : Nat) (L : List Nat) (f : Nat → va_E) (ad : Nat → Nat → Nat) (L1 : List Nat) (f1 : Nat → va_E) (ad1 : Nat → Nat → Nat) : Prop := (∀ a ∈ L, a ∈ L1) ∧ (∀ a ∈ L, a ≠ ad 0 0 → a ≠ ad 0 3 → (∀ k, k < N → a ≠ ad 2 k) → f1 a = f a) ∧ ∀ a b, a ≠ 3 → ad1 a b = ad a b
theorem pxF.refl {N : Nat} {L : List Nat} {f : Nat → va_E} {ad : Nat → Nat → Nat} : pxF N L f ad L f ad := ⟨fun _ h => h, fun _ _ _ _ _ => rfl, fun _ _ _ => rfl⟩
theorem pxF.trans {N : Nat} {L L1 L2 : List Nat} {f f1 f2 : Nat → va_E} {ad ad1 ad2 : Nat → Nat → Nat} (h : pxF N L f ad L1 f1 ad1) (h2 : pxF N L1 f1 ad1 L2 f2 ad2) : pxF N L f ad L2 f2 ad2 := by
  obtain ⟨a1, a2, a3⟩ := h
  obtain ⟨b1, b2, b3⟩ := h2
  refine ⟨fun a ha => b1 _ (a1 _ ha), fun a ha h0 h3 hk => ?_, fun a b hab => (b3 a b hab).trans (a3 a b hab)⟩
  rw [b2 a (a1 _ ha) (by rw [a3 0 0 (by decide)]; exact h0) (by rw [a3 0 3 (by decide)]; exact h3) (fun k h => by rw [a3 2 k (by decide)]; exact hk k h)]
  exact a2 a ha h0 h3 hk
