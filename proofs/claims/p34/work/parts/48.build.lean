/-! A Sim that grows: one gate, one goat, one line more. -/
section SB
variable {cI cR : ClassId} {L : List Nat} {f : Nat → va_E} {ad : Nat → Nat → Nat} {P N K : Nat} {M : SS} {Ls : Nat → List Nat}
theorem q_inj {cR : ClassId} {n k : Nat} {r s : Nat → Option Nat} (h : (Sum.inl (cR, qr n r) : va_E) = .inl (cR, qr k s)) : r = s := by
  injection h with h
  have := congrArg (fun z => z.2.2) h
  injection this with this
  injection this with this
  injection this with this
  injection this
def adB (ad : Nat → Nat → Nat) (c w i q1 q2 : Nat) : Nat → Nat → Nat := fun a b => if a = 0 ∧ b = c then q2 else if a = w ∧ b = i then q1 else ad a b
theorem SimI.fs_eq (h : SimI cI cR L f ad P N K M Ls) {fs : List Value} (hfs : f (ad 0 0) = .inr (2, fs)) : fs = [.int (M 8 0), .int (M 8 1), .int (M 8 2), .ref (ad 0 1), .ref (ad 0 2), .ref (ad 0 3)] := by
  have a2 := h.1.2
  rw [hfs] at a2
  injection a2 with a2
  exact congrArg (fun z => z.2) a2
theorem SimI.addG (h : SimI cI cR L f ad P N K M Ls) {q1 q2 : Nat} {r r1 : Nat → Option Nat} {x : Nat → Int32} (hq1 : q1 ∈ L) (hx : f q1 = .inl (cI, 2, .inl x)) (h9 : x 0 = M 9 P) (h10 : x 1 = M 10 P) (hq2 : q2 ∈ L) (hr : f q2 = .inl (cR, qr (P + 1) r1)) (hr0 : f (ad 0 1) = .inl (cR, qr P r)) (hr1 : ∀ j, j < P → r1 j = r j) (hrP : r1 P = some q1) (d1 : ∀ j, j < P → ad 1 j ≠ q1) (d2 : ∀ g, g < K → q1 ≠ ad 3 g) (d3 : q2 ≠ ad 0 3) {fs : List Value} (hfs : f (ad 0 0) = .inr (2, fs)) :
    SimI cI cR L (va_up f (ad 0 0) (.inr (2, fs.set 3 (.ref q2)))) (adB ad 1 1 P q1 q2) (P + 1) N K M Ls := by
  have ho : ∀ {a : Nat} {x : ClassId × vp_A}, f a = .inl x → va_up f (ad 0 0) (.inr (2, fs.set 3 (.ref q2))) a = .inl x := fun ha => (va_up_ne _ _ (h.o_ne ha)).trans ha
  have efs := h.fs_eq hfs
  obtain ⟨⟨a1, a2⟩, ⟨b1, rb, b2, b3⟩, ⟨c1, rc, c2, c3⟩, ⟨d1', rd, d2', d3'⟩, e1, g1, l1, z⟩ := h
  obtain ⟨⟨z0, z1⟩, z2, z3, z4, z5⟩ := z
  have erb : r = rb := q_inj (hr0.symm.trans b2)
  have ea : ∀ g, adB ad 1 1 P q1 q2 1 g = if g = P then q1 else ad 1 g := fun g => by
    show (if (1 : Nat) = 0 ∧ g = 1 then q2 else if (1 : Nat) = 1 ∧ g = P then q1 else ad 1 g) = _
    rw [if_neg (fun z => absurd z.1 (by decide))]
    by_cases e : g = P
    · rw [if_pos ⟨rfl, e⟩, if_pos e]
    · rw [if_neg (fun z => e z.2), if_neg e]
  refine ⟨⟨a1, ?_⟩, ⟨hq2, r1, ho hr, fun g hg => ?_⟩, ⟨c1, rc, ho c2, c3⟩, ⟨d1', rd, ho d2', d3'⟩, fun g hg => ?_, fun k hk => ?_, fun g hg => ?_, ⟨d3, z1⟩, fun i j hi hj => ?_, z3, z4, fun j g hj hg => ?_⟩
  · show va_up f (ad 0 0) _ (ad 0 0) = _
    rw [va_up_self, efs]
    rfl
  · rw [ea]
    by_cases e : g = P
    · rw [if_pos e, e]; exact hrP
    · rw [if_neg e, hr1 g (by omega), erb]; exact b3 g (by omega)
  · rw [ea]
    by_cases e : g = P
    · rw [if_pos e, e]; exact ⟨hq1, x, ho hx, h9, h10⟩
    · rw [if_neg e]
      obtain ⟨k1, y, k2, k3⟩ := e1 g (by omega)
      exact ⟨k1, y, ho k2, k3⟩
  · obtain ⟨k1, y, k2, k3⟩ := g1 k hk
    exact ⟨k1, y, ho k2, k3⟩
  · obtain ⟨k1, y, k2, k3⟩ := l1 g hg
    exact ⟨k1, y, ho k2, k3⟩
  · rw [ea, ea]
    by_cases ei : i = P <;> by_cases ej : j = P
    · intro _; omega
    · rw [if_pos ei, if_neg ej]
      intro e; exact absurd e.symm (d1 j (by omega))
    · rw [if_neg ei, if_pos ej]
      intro e; exact absurd e (d1 i (by omega))
    · rw [if_neg ei, if_neg ej]
      exact z2 i j (by omega) (by omega)
  · rw [ea]
    by_cases ej : j = P
    · rw [if_pos ej]; exact d2 g hg
    · rw [if_neg ej]; exact z5 j g (by omega) hg
theorem SimI.addK (h : SimI cI cR L f ad P N K M Ls) {q1 q2 : Nat} {r r1 : Nat → Option Nat} {x : Nat → Int32} (hq1 : q1 ∈ L) (hx : f q1 = .inl (cI, 8, .inl x)) (h8 : ∀ j, j < 8 → x j = M (rw8 j) N) (hq2 : q2 ∈ L) (hr : f q2 = .inl (cR, qr (N + 1) r1)) (hr0 : f (ad 0 2) = .inl (cR, qr N r)) (hr1 : ∀ j, j < N → r1 j = r j) (hrP : r1 N = some q1) (d1 : ∀ j, j < N → ad 2 j ≠ q1) (d2 : ∀ g, g < K → q1 ≠ ad 3 g) (d3 : q2 ≠ ad 0 3) {fs : List Value} (hfs : f (ad 0 0) = .inr (2, fs)) :
    SimI cI cR L (va_up f (ad 0 0) (.inr (2, fs.set 4 (.ref q2)))) (adB ad 2 2 N q1 q2) P (N + 1) K M Ls := by
  have ho : ∀ {a : Nat} {x : ClassId × vp_A}, f a = .inl x → va_up f (ad 0 0) (.inr (2, fs.set 4 (.ref q2))) a = .inl x := fun ha => (va_up_ne _ _ (h.o_ne ha)).trans ha
  have efs := h.fs_eq hfs
  obtain ⟨⟨a1, a2⟩, ⟨b1, rb, b2, b3⟩, ⟨c1, rc, c2, c3⟩, ⟨d1', rd, d2', d3'⟩, e1, g1, l1, z⟩ := h
  obtain ⟨⟨z0, z1⟩, z2, z3, z4, z5⟩ := z
  have erb : r = rc := q_inj (hr0.symm.trans c2)
  have ea : ∀ g, adB ad 2 2 N q1 q2 2 g = if g = N then q1 else ad 2 g := fun g => by
    show (if (2 : Nat) = 0 ∧ g = 2 then q2 else if (2 : Nat) = 2 ∧ g = N then q1 else ad 2 g) = _
    rw [if_neg (fun z => absurd z.1 (by decide))]
    by_cases e : g = N
    · rw [if_pos ⟨rfl, e⟩, if_pos e]
    · rw [if_neg (fun z => e z.2), if_neg e]
  refine ⟨⟨a1, ?_⟩, ⟨b1, rb, ho b2, b3⟩, ⟨hq2, r1, ho hr, fun g hg => ?_⟩, ⟨d1', rd, ho d2', d3'⟩, fun g hg => ?_, fun g hg => ?_, fun g hg => ?_, ⟨z0, d3⟩, z2, fun i j hi hj => ?_, fun j g hj hg => ?_, z5⟩
  · show va_up f (ad 0 0) _ (ad 0 0) = _
    rw [va_up_self, efs]
    rfl
  · rw [ea]
    by_cases e : g = N
    · rw [if_pos e, e]; exact hrP
    · rw [if_neg e, hr1 g (by omega), erb]; exact c3 g (by omega)
  · obtain ⟨k1, y, k2, k3⟩ := e1 g hg
    exact ⟨k1, y, ho k2, k3⟩
  · rw [ea]
    by_cases e : g = N
    · rw [if_pos e, e]; exact ⟨hq1, x, ho hx, h8⟩
    · rw [if_neg e]
      obtain ⟨k1, y, k2, k3⟩ := g1 g (by omega)
      exact ⟨k1, y, ho k2, k3⟩
  · obtain ⟨k1, y, k2, k3⟩ := l1 g hg
    exact ⟨k1, y, ho k2, k3⟩
  · rw [ea, ea]
    by_cases ei : i = N <;> by_cases ej : j = N
    · intro _; omega
    · rw [if_pos ei, if_neg ej]
      intro e; exact absurd e.symm (d1 j (by omega))
    · rw [if_neg ei, if_pos ej]
      intro e; exact absurd e (d1 i (by omega))
    · rw [if_neg ei, if_neg ej]
      exact z3 i j (by omega) (by omega)
  · rw [ea]
    by_cases ej : j = N
    · rw [if_pos ej]; exact d2 g hg
    · rw [if_neg ej]; exact z4 j g (by omega) hg
theorem SimI.addL (h : SimI cI cR L f ad P N K M Ls) {q1 q2 : Nat} {r r1 : Nat → Option Nat} (hq1 : q1 ∈ L) (hx : rowIs cI (f q1) (Ls K)) (hq2 : q2 ∈ L) (hr : f q2 = .inl (cR, qr (K + 1) r1)) (hr0 : f (ad 0 3) = .inl (cR, qr K r)) (hr1 : ∀ j, j < K → r1 j = r j) (hrP : r1 K = some q1) (d1 : ∀ j, j < P → ad 1 j ≠ q1) (d2 : ∀ j, j < N → ad 2 j ≠ q1) (d3 : ad 0 1 ≠ q2 ∧ ad 0 2 ≠ q2) {fs : List Value} (hfs : f (ad 0 0) = .inr (2, fs)) :
    SimI cI cR L (va_up f (ad 0 0) (.inr (2, fs.set 5 (.ref q2)))) (adB ad 3 3 K q1 q2) P N (K + 1) M Ls := by
  have ho : ∀ {a : Nat} {x : ClassId × vp_A}, f a = .inl x → va_up f (ad 0 0) (.inr (2, fs.set 5 (.ref q2))) a = .inl x := fun ha => (va_up_ne _ _ (h.o_ne ha)).trans ha
  have efs := h.fs_eq hfs
  obtain ⟨⟨a1, a2⟩, ⟨b1, rb, b2, b3⟩, ⟨c1, rc, c2, c3⟩, ⟨d1', rd, d2', d3'⟩, e1, g1, l1, z⟩ := h
  obtain ⟨⟨z0, z1⟩, z2, z3, z4, z5⟩ := z
  have erb : r = rd := q_inj (hr0.symm.trans d2')
  have ea : ∀ g, adB ad 3 3 K q1 q2 3 g = if g = K then q1 else ad 3 g := fun g => by
    show (if (3 : Nat) = 0 ∧ g = 3 then q2 else if (3 : Nat) = 3 ∧ g = K then q1 else ad 3 g) = _
    rw [if_neg (fun z => absurd z.1 (by decide))]
    by_cases e : g = K
    · rw [if_pos ⟨rfl, e⟩, if_pos e]
    · rw [if_neg (fun z => e z.2), if_neg e]
  refine ⟨⟨a1, ?_⟩, ⟨b1, rb, ho b2, b3⟩, ⟨c1, rc, ho c2, c3⟩, ⟨hq2, r1, ho hr, fun g hg => ?_⟩, fun g hg => ?_, fun g hg => ?_, fun g hg => ?_, d3, z2, z3, fun j g hj hg => ?_, fun j g hj hg => ?_⟩
  · show va_up f (ad 0 0) _ (ad 0 0) = _
    rw [va_up_self, efs]
    rfl
  · rw [ea]
    by_cases e : g = K
    · rw [if_pos e, e]; exact hrP
    · rw [if_neg e, hr1 g (by omega), erb]; exact d3' g (by omega)
  · obtain ⟨k1, y, k2, k3⟩ := e1 g hg
    exact ⟨k1, y, ho k2, k3⟩
  · obtain ⟨k1, y, k2, k3⟩ := g1 g hg
    exact ⟨k1, y, ho k2, k3⟩
  · rw [ea]
    by_cases e : g = K
    · rw [if_pos e, e]
      obtain ⟨y, k2, k3⟩ := hx
      exact ⟨hq1, y, ho k2, k3⟩
    · rw [if_neg e]
      obtain ⟨k1, y, k2, k3⟩ := l1 g (by omega)
      exact ⟨k1, y, ho k2, k3⟩
  · rw [ea]
    by_cases ej : g = K
    · rw [if_pos ej]; exact d2 j hj
    · rw [if_neg ej]; exact z4 j g hj (by omega)
  · rw [ea]
    by_cases ej : g = K
    · rw [if_pos ej]; exact d1 j hj
    · rw [if_neg ej]; exact z5 j g hj (by omega)
end SB
/-- a - b + (c - a) -/
theorem i32_tel (a b c : Int32) : (a - b) + (c - a) = c - b := by
  rw [Int32.add_comm, Int32.sub_eq_add_neg, Int32.sub_eq_add_neg, Int32.sub_eq_add_neg, Int32.add_assoc, ← Int32.add_assoc (-a) a, Int32.add_left_neg, Int32.zero_add]
theorem mCt_min_le (M : SS) (G N : Nat) (hN : N ≤ 12) : mCt (mMin M G N) N ≤ mCt M N := by
  have h : mCt (mMin M G N) N = mCt (mWa (mOp M N G) N) N := mCt_congr N (fun _ _ => rfl)
  rw [h]
  exact Nat.le_trans (mCt_wa_le (mOp M N G) N N (Nat.le_refl _)) (mCt_op_le M N hN G)
theorem mCt_it_le (M : SS) (G N : Nat) (hN : N ≤ 12) : ∀ i, mCt (mIt M G N i) N ≤ mCt M N := by
  intro i
  induction i with
  | zero => exact Nat.le_refl _
  | succ i ih => exact Nat.le_trans (mCt_min_le _ G N hN) ih
