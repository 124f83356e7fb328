/-! The calls: passing, and what only tells. -/
section OR
variable {G N : Nat} {S M : SS}
theorem bey_lv (M : SS) : ∀ n, ∀ k, n ≤ k → ∀ a, mSt M n a k = M a k := by
  intro n
  induction n with
  | zero => intro k _ a; rfl
  | succ n ih =>
    intro k hk a
    show mStT (mSt M n) n a k = _
    rw [mStT_k _ (show k ≠ n by omega), ih k (by omega)]
theorem bey_op (hN : N ≤ 12) (g : Nat) : ∀ i, i ≤ mOpN M g N → ∀ k, N ≤ k → ∀ a, a < 8 → mOpI M g N i a k = M a k := by
  intro i
  induction i with
  | zero => intro _ k _ a _; rfl
  | succ i ih =>
    intro hi k hk a ha
    rcases mNx_at (M := mOpI M g N i) (g := g) (N := N) with hx | ⟨j, hj, e, _⟩
    · exact absurd hx (mOpN_no (by omega))
    · show mOpS (mOpI M g N i) g N a k = _
      rw [mOpS_at _ g N e (by omega) a k ha, if_neg (fun z => by have := z.2; omega), ih (by omega) k hk a ha]
theorem bey_o (hN : N ≤ 12) : ∀ n, ∀ k, N ≤ k → ∀ a, a < 8 → mOp M N n a k = M a k := by
  intro n
  induction n with
  | zero => intro k hk a _; exact bey_lv M N k hk a
  | succ n ih =>
    intro k hk a ha
    exact (bey_op (M := mOp M N n) hN n (mOpN (mOp M N n) n N) (Nat.le_refl _) k hk a ha).trans (ih k hk a ha)
theorem bey_min (hN : N ≤ 12) {k : Nat} (hk : N ≤ k) {a : Nat} (ha : a < 8) : mMin M G N a k = M a k := by
  unfold mMin
  rw [up2_at, if_neg (by omega)]
  show mWa (mOp M N G) N a k = _
  rw [mWa_col _ _ _ _ (by omega), if_neg (by omega)]
  exact bey_o hN G k hk a ha
theorem bey_16 {k : Nat} (hk : N ≤ k) : gxMin S G N 16 k = S 16 k := by
  have e1 : ∀ n, gxWg S N G n 16 k = gxLg S N G 16 k := by
    intro n
    induction n with
    | zero => rfl
    | succ n ih =>
      show gxWo (gxWg S N G n) n N 16 k = _
      rw [gxWo_col _ _ _ _ _ (by omega), if_neg (by omega)]
      exact ih
  have e2 : ∀ (T : SS) (g i : Nat), gxLiI T g N i 16 = T 16 := by
    intro T g i
    induction i with
    | zero => rfl
    | succ i ih => exact ih
  have e3 : ∀ n, gxLg S N n 16 = S 16 := by
    intro n
    induction n with
    | zero => exact gxLv_r (by omega) N
    | succ n ih => exact (e2 _ n _).trans ih
  unfold gxMin
  rw [up2_at, if_neg (by omega), e1, e3]
theorem bey_7 (hG4 : G ≤ 4) {g : Nat} (hg : G ≤ g) : gxMin S G N 7 g = S 7 g := by
  unfold gxMin
  rw [up2_at, if_neg (by omega), gxWg_7 hG4 G (Nat.le_refl G), if_neg (by omega), gxLg_r (by omega) (by omega)]
theorem inv_it (h : Inv G N S M) : ∀ n, Inv G N (gxIt S G N n) (mIt M G N n) := by
  intro n
  obtain ⟨hN, hG, e1, e2, e3, e4, r, b1, b2⟩ := h
  refine ⟨hN, hG, (gxIt_0 S G N (by omega) (by omega) n).trans e1, (gxIt_0 S G N (by omega) (by omega) n).trans e2, ?_, ?_, r_it r hN hG n, ?_, ?_⟩
  · rw [mIt_r M G N (by omega)]; exact e3
  · rw [mIt_r M G N (by omega)]; exact e4
  · intro k hk
    have z : ∀ a, a < 8 → mIt M G N n a k = M a k := by
      intro a ha
      induction n with
      | zero => rfl
      | succ n ih => exact (bey_min hN hk ha).trans ih
    have y : gxIt S G N n 16 k = S 16 k := by
      clear z
      induction n with
      | zero => rfl
      | succ n ih => exact (bey_16 hk).trans ih
    rw [z 0 (by omega), z 6 (by omega), y]
    exact b1 k hk
  · intro g hg
    have y : gxIt S G N n 7 g = S 7 g := by
      induction n with
      | zero => rfl
      | succ n ih => exact (bey_7 hG hg).trans ih
    rw [y]
    exact b2 g hg
theorem op_pass (h : Inv G N S M) (m : Int32) : mM_pass M N G m 12 0 = xc gxIA gxIA (xNum m 60) ∧ (xNum m 60 = none → mR_pass M N G m = gxIt S G N m.toNatClampNeg 0 4 - S 0 4) ∧ Inv G N (if xNum m 60 = none then gxIt S G N m.toNatClampNeg else S) (mM_pass M N G m) := by
  unfold mM_pass mR_pass
  rcases num_cases m 60 with ⟨x1, m1⟩ | ⟨x1, m1⟩
  · rw [if_neg m1, if_neg m1, if_pos x1]
    have hi := inv_it (inv_t h 0) m.toNatClampNeg
    refine ⟨?_, fun _ => ?_, hi⟩
    · rw [mIt_r _ G N (by omega), x1]; rfl
    · have r := hi.2.2.2.2.2.2.1
      obtain ⟨_, _, ⟨_, d1, _⟩, _⟩ := r
      obtain ⟨_, _, _, _, _, _, ⟨_, _, ⟨_, d1', _⟩, _⟩, _⟩ := h
      rw [d1, d1']
  · rw [if_pos m1, if_pos m1, if_neg (by rw [x1]; intro z; cases z)]
    exact ⟨by rw [t_0, x1]; decide, fun z => (by rw [x1] at z; cases z), inv_t2 h 0 1⟩
theorem op_givingUpIn (h : Inv G N S M) (m : Int32) : mM_givingUpIn M N G m 12 0 = xc gxIA gxIA (xNum m 60) ∧ (xNum m 60 = none → mR_givingUpIn M N G m = gxGiv (gxIt S G N m.toNatClampNeg) G - gxGiv S G) ∧ Inv G N S (mM_givingUpIn M N G m) := by
  unfold mM_givingUpIn mR_givingUpIn
  rcases num_cases m 60 with ⟨x1, m1⟩ | ⟨x1, m1⟩
  · rw [if_neg m1, if_neg m1, mBack_it]
    have hi := inv_it (inv_t h 0) m.toNatClampNeg
    refine ⟨?_, fun _ => ?_, inv_t h 0⟩
    · rw [x1]; rfl
    · obtain ⟨_, _, _, d4⟩ := hi.2.2.2.2.2.2.1
      obtain ⟨_, _, _, d4'⟩ := h.2.2.2.2.2.2.1
      rw [d4, show up2 M 12 0 0 8 2 = M 8 2 from rfl, d4']
  · rw [if_pos m1, if_pos m1]
    exact ⟨by rw [t_0, x1]; decide, fun z => (by rw [x1] at z; cases z), inv_t2 h 0 1⟩

theorem op_permitsOf (h : Inv G N S M) (g : Int32) : mM_permitsOf M N G g 12 0 = xc gxIO gxIO (xGate S g) ∧ (xGate S g = none → mR_permitsOf M N G g = S 5 g.toNatClampNeg) ∧ Inv G N S (mM_permitsOf M N G g) := by
  have h' := inv_t h 0
  have r := h'.2.2.2.2.2.2.1
  unfold mM_permitsOf mR_permitsOf
  rcases gate_cases h (X := up2 M 12 0 0) rfl g with ⟨j, hj, eg, x1, m1⟩ | ⟨x1, m1⟩
  · rw [if_neg m1, if_neg m1]
    have cj : g.toNatClampNeg = j := by rw [eg]; have := h.1; have := h.2.1; exact cl_nI (by omega)
    refine ⟨by rw [x1]; rfl, fun _ => ?_, h'⟩
    rw [cj]
    exact (r.2.1 j hj).1
  · rw [if_pos m1, if_pos m1]
    exact ⟨by rw [t_0, x1]; decide, fun z => (by rw [x1] at z; cases z), inv_t2 h 0 1⟩
theorem op_freeOf (h : Inv G N S M) (g : Int32) : mM_freeOf M N G g 12 0 = xc gxIO gxIO (xGate S g) ∧ (xGate S g = none → mR_freeOf M N G g = gxFree S g.toNatClampNeg N) ∧ Inv G N S (mM_freeOf M N G g) := by
  have h' := inv_t h 0
  have r := h'.2.2.2.2.2.2.1
  unfold mM_freeOf mR_freeOf
  rcases gate_cases h (X := up2 M 12 0 0) rfl g with ⟨j, hj, eg, x1, m1⟩ | ⟨x1, m1⟩
  · rw [if_neg m1, if_neg m1]
    have cj : g.toNatClampNeg = j := by rw [eg]; have := h.1; have := h.2.1; exact cl_nI (by omega)
    refine ⟨by rw [x1]; rfl, fun _ => ?_, h'⟩
    rw [cj]
    exact r_free r.1 (r.2.1 j hj).1 N (Nat.le_refl N)
  · rw [if_pos m1, if_pos m1]
    exact ⟨by rw [t_0, x1]; decide, fun z => (by rw [x1] at z; cases z), inv_t2 h 0 1⟩
theorem op_nextAt (h : Inv G N S M) (g : Int32) : mM_nextAt M N G g 12 0 = xc gxIO gxIO (xGate S g) ∧ (xGate S g = none → mR_nextAt M N G g = gxFiR S g.toNatClampNeg N) ∧ Inv G N S (mM_nextAt M N G g) := by
  have h' := inv_t h 0
  have r := h'.2.2.2.2.2.2.1
  unfold mM_nextAt mR_nextAt
  rcases gate_cases h (X := up2 M 12 0 0) rfl g with ⟨j, hj, eg, x1, m1⟩ | ⟨x1, m1⟩
  · rw [if_neg m1, if_neg m1]
    have cj : g.toNatClampNeg = j := by rw [eg]; have := h.1; have := h.2.1; exact cl_nI (by omega)
    refine ⟨by rw [x1]; rfl, fun _ => ?_, h'⟩
    rw [cj]
    exact r_nx r.1 r.2.1 h.1 hj
  · rw [if_pos m1, if_pos m1]
    exact ⟨by rw [t_0, x1]; decide, fun z => (by rw [x1] at z; cases z), inv_t2 h 0 1⟩
theorem op_waitingAt (h : Inv G N S M) (g : Int32) : mM_waitingAt M N G g 12 0 = xc gxIO gxIO (xGate S g) ∧ (xGate S g = none → mR_waitingAt M N G g = gxWat S g N) ∧ Inv G N S (mM_waitingAt M N G g) := by
  have h' := inv_t h 0
  have r := h'.2.2.2.2.2.2.1
  unfold mM_waitingAt mR_waitingAt
  rcases gate_cases h (X := up2 M 12 0 0) rfl g with ⟨j, hj, eg, x1, m1⟩ | ⟨x1, m1⟩
  · rw [if_neg m1, if_neg m1]
    have cj : g.toNatClampNeg = j := by rw [eg]; have := h.1; have := h.2.1; exact cl_nI (by omega)
    refine ⟨by rw [x1]; rfl, fun _ => ?_, h'⟩
    
    exact r_wat r.1 _ N (Nat.le_refl N)
  · rw [if_pos m1, if_pos m1]
    exact ⟨by rw [t_0, x1]; decide, fun z => (by rw [x1] at z; cases z), inv_t2 h 0 1⟩
theorem op_permitsWanted (h : Inv G N S M) (g : Int32) : mM_permitsWanted M N G g 12 0 = xc gxIO gxIO (xGate S g) ∧ (xGate S g = none → mR_permitsWanted M N G g = gxPw S G N g.toNatClampNeg) ∧ Inv G N S (mM_permitsWanted M N G g) := by
  have h' := inv_t h 0
  have r := h'.2.2.2.2.2.2.1
  unfold mM_permitsWanted mR_permitsWanted
  rcases gate_cases h (X := up2 M 12 0 0) rfl g with ⟨j, hj, eg, x1, m1⟩ | ⟨x1, m1⟩
  · rw [if_neg m1, if_neg m1]
    have cj : g.toNatClampNeg = j := by rw [eg]; have := h.1; have := h.2.1; exact cl_nI (by omega)
    refine ⟨by rw [x1]; rfl, fun _ => ?_, h'⟩
    rw [cj]
    exact (r_pw r h.1 h.2.1 hj).symm
  · rw [if_pos m1, if_pos m1]
    exact ⟨by rw [t_0, x1]; decide, fun z => (by rw [x1] at z; cases z), inv_t2 h 0 1⟩
theorem op_bestOrder (h : Inv G N S M) (g : Int32) : mM_bestOrder M N G g 12 0 = xc gxIO gxIO (xGate S g) ∧ (xGate S g = none → mR_bestOrder M N G g = gxBo S G N g.toNatClampNeg) ∧ Inv G N S (mM_bestOrder M N G g) := by
  have h' := inv_t h 0
  have r := h'.2.2.2.2.2.2.1
  unfold mM_bestOrder mR_bestOrder
  rcases gate_cases h (X := up2 M 12 0 0) rfl g with ⟨j, hj, eg, x1, m1⟩ | ⟨x1, m1⟩
  · rw [if_neg m1, if_neg m1]
    have cj : g.toNatClampNeg = j := by rw [eg]; have := h.1; have := h.2.1; exact cl_nI (by omega)
    refine ⟨by rw [x1]; rfl, fun _ => ?_, h'⟩
    rw [cj]
    exact (r_bo r h.1 h.2.1 hj).symm
  · rw [if_pos m1, if_pos m1]
    exact ⟨by rw [t_0, x1]; decide, fun z => (by rw [x1] at z; cases z), inv_t2 h 0 1⟩
theorem op_gateOf (h : Inv G N S M) (g : Int32) : mM_gateOf M N G g 12 0 = xc gxIO gxIO (xGoat S g) ∧ (xGoat S g = none → mR_gateOf M N G g = S 10 g.toNatClampNeg) ∧ Inv G N S (mM_gateOf M N G g) := by
  have h' := inv_t h 0
  have r := h'.2.2.2.2.2.2.1
  unfold mM_gateOf mR_gateOf
  rcases goat_cases h (X := up2 M 12 0 0) rfl g with ⟨j, hj, eg, x1, m1⟩ | ⟨x1, m1⟩
  · rw [if_neg m1, if_neg m1]
    have cj : g.toNatClampNeg = j := by rw [eg]; have := h.1; have := h.2.1; exact cl_nI (by omega)
    refine ⟨by rw [x1]; rfl, fun _ => ?_, h'⟩
    rw [cj]
    exact r_where (r.1 j hj)
  · rw [if_pos m1, if_pos m1]
    exact ⟨by rw [t_0, x1]; decide, fun z => (by rw [x1] at z; cases z), inv_t2 h 0 1⟩
theorem op_holds (h : Inv G N S M) (g : Int32) : mM_holds M N G g 12 0 = xc gxIO gxIO (xGoat S g) ∧ (xGoat S g = none → mR_holds M N G g = gxHeld S g.toNatClampNeg) ∧ Inv G N S (mM_holds M N G g) := by
  have h' := inv_t h 0
  have r := h'.2.2.2.2.2.2.1
  unfold mM_holds mR_holds
  rcases goat_cases h (X := up2 M 12 0 0) rfl g with ⟨j, hj, eg, x1, m1⟩ | ⟨x1, m1⟩
  · rw [if_neg m1, if_neg m1]
    have cj : g.toNatClampNeg = j := by rw [eg]; have := h.1; have := h.2.1; exact cl_nI (by omega)
    refine ⟨by rw [x1]; rfl, fun _ => ?_, h'⟩
    rw [cj]
    exact r_held (r.1 j hj)
  · rw [if_pos m1, if_pos m1]
    exact ⟨by rw [t_0, x1]; decide, fun z => (by rw [x1] at z; cases z), inv_t2 h 0 1⟩
theorem op_seemingHorns (h : Inv G N S M) (g : Int32) : mM_seemingHorns M N G g 12 0 = xc gxIO gxIO (xGoat S g) ∧ (xGoat S g = none → mR_seemingHorns M N G g = gxSeem S g.toNatClampNeg) ∧ Inv G N S (mM_seemingHorns M N G g) := by
  have h' := inv_t h 0
  have r := h'.2.2.2.2.2.2.1
  unfold mM_seemingHorns mR_seemingHorns
  rcases goat_cases h (X := up2 M 12 0 0) rfl g with ⟨j, hj, eg, x1, m1⟩ | ⟨x1, m1⟩
  · rw [if_neg m1, if_neg m1]
    have cj : g.toNatClampNeg = j := by rw [eg]; have := h.1; have := h.2.1; exact cl_nI (by omega)
    refine ⟨by rw [x1]; rfl, fun _ => ?_, h'⟩
    rw [cj]
    exact rj_se (r.1 j hj)
  · rw [if_pos m1, if_pos m1]
    exact ⟨by rw [t_0, x1]; decide, fun z => (by rw [x1] at z; cases z), inv_t2 h 0 1⟩
theorem op_minutesLeft (h : Inv G N S M) (g : Int32) : mM_minutesLeft M N G g 12 0 = xc gxIO gxIO (xGoat S g) ∧ (xGoat S g = none → mR_minutesLeft M N G g = S 13 g.toNatClampNeg) ∧ Inv G N S (mM_minutesLeft M N G g) := by
  have h' := inv_t h 0
  have r := h'.2.2.2.2.2.2.1
  unfold mM_minutesLeft mR_minutesLeft
  rcases goat_cases h (X := up2 M 12 0 0) rfl g with ⟨j, hj, eg, x1, m1⟩ | ⟨x1, m1⟩
  · rw [if_neg m1, if_neg m1]
    have cj : g.toNatClampNeg = j := by rw [eg]; have := h.1; have := h.2.1; exact cl_nI (by omega)
    refine ⟨by rw [x1]; rfl, fun _ => ?_, h'⟩
    rw [cj]
    exact r_left (r.1 j hj)
  · rw [if_pos m1, if_pos m1]
    exact ⟨by rw [t_0, x1]; decide, fun z => (by rw [x1] at z; cases z), inv_t2 h 0 1⟩
theorem op_placeInLine (h : Inv G N S M) (g : Int32) : mM_placeInLine M N G g 12 0 = xc gxIO gxIO (xGoat S g) ∧ (xGoat S g = none → mR_placeInLine M N G g = gxPl S N g.toNatClampNeg) ∧ Inv G N S (mM_placeInLine M N G g) := by
  have h' := inv_t h 0
  have r := h'.2.2.2.2.2.2.1
  unfold mM_placeInLine mR_placeInLine
  rcases goat_cases h (X := up2 M 12 0 0) rfl g with ⟨j, hj, eg, x1, m1⟩ | ⟨x1, m1⟩
  · rw [if_neg m1, if_neg m1]
    have cj : g.toNatClampNeg = j := by rw [eg]; have := h.1; have := h.2.1; exact cl_nI (by omega)
    refine ⟨by rw [x1]; rfl, fun _ => ?_, h'⟩
    rw [cj]
    exact r_pl r.1 hj
  · rw [if_pos m1, if_pos m1]
    exact ⟨by rw [t_0, x1]; decide, fun z => (by rw [x1] at z; cases z), inv_t2 h 0 1⟩
theorem op_stateOf (h : Inv G N S M) (g : Int32) : mM_stateOf M N G g 12 0 = xc gxIO gxIO (xGoat S g) ∧ (xGoat S g = none → mR_stateOf M N G g = S 9 g.toNatClampNeg) ∧ Inv G N S (mM_stateOf M N G g) := by
  have h' := inv_t h 0
  have r := h'.2.2.2.2.2.2.1
  unfold mM_stateOf mR_stateOf
  rcases goat_cases h (X := up2 M 12 0 0) rfl g with ⟨j, hj, eg, x1, m1⟩ | ⟨x1, m1⟩
  · rw [if_neg m1, if_neg m1]
    have cj : g.toNatClampNeg = j := by rw [eg]; have := h.1; have := h.2.1; exact cl_nI (by omega)
    refine ⟨by rw [x1]; rfl, fun _ => ?_, h'⟩
    rw [cj]
    exact rj_st (r.1 j hj)
  · rw [if_pos m1, if_pos m1]
    exact ⟨by rw [t_0, x1]; decide, fun z => (by rw [x1] at z; cases z), inv_t2 h 0 1⟩
theorem op_waitedOf (h : Inv G N S M) (g : Int32) : mM_waitedOf M N G g 12 0 = xc gxIO gxIO (xGoat S g) ∧ (xGoat S g = none → mR_waitedOf M N G g = S 16 g.toNatClampNeg) ∧ Inv G N S (mM_waitedOf M N G g) := by
  have h' := inv_t h 0
  have r := h'.2.2.2.2.2.2.1
  unfold mM_waitedOf mR_waitedOf
  rcases goat_cases h (X := up2 M 12 0 0) rfl g with ⟨j, hj, eg, x1, m1⟩ | ⟨x1, m1⟩
  · rw [if_neg m1, if_neg m1]
    have cj : g.toNatClampNeg = j := by rw [eg]; have := h.1; have := h.2.1; exact cl_nI (by omega)
    refine ⟨by rw [x1]; rfl, fun _ => ?_, h'⟩
    rw [cj]
    exact rj_to (r.1 j hj)
  · rw [if_pos m1, if_pos m1]
    exact ⟨by rw [t_0, x1]; decide, fun z => (by rw [x1] at z; cases z), inv_t2 h 0 1⟩
theorem op_minutesUntilIn (h : Inv G N S M) (g : Int32) : mM_minutesUntilIn M N G g 12 0 = xc gxIO gxIO (xGoat S g) ∧ (xGoat S g = none → mR_minutesUntilIn M N G g = gxUn S G N g.toNatClampNeg) ∧ Inv G N S (mM_minutesUntilIn M N G g) := by
  have h' := inv_t h 0
  have r := h'.2.2.2.2.2.2.1
  unfold mM_minutesUntilIn mR_minutesUntilIn
  rcases goat_cases h (X := up2 M 12 0 0) rfl g with ⟨j, hj, eg, x1, m1⟩ | ⟨x1, m1⟩
  · rw [if_neg m1, if_neg m1]
    have cj : g.toNatClampNeg = j := by rw [eg]; have := h.1; have := h.2.1; exact cl_nI (by omega)
    refine ⟨by rw [x1]; rfl, fun _ => ?_, h'⟩
    rw [cj]
    exact (r_un r h.1 h.2.1 hj).symm
  · rw [if_pos m1, if_pos m1]
    exact ⟨by rw [t_0, x1]; decide, fun z => (by rw [x1] at z; cases z), inv_t2 h 0 1⟩
end OR
