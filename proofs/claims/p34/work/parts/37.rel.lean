/-! The calls: asking, barging, calling back, passing. -/
section OQ
variable {G N : Nat} {S M : SS}
/-- one goat's columns change: the rest stays -/
theorem inv_goat {X : SS} {T : SS} {j : Nat} (h : Inv G N S M) (hj : j < N) (hs : ∀ a k, k ≠ j → 8 ≤ a → T a k = S a k) (h7 : ∀ a, a = 5 ∨ a = 6 ∨ a = 7 → T a = S a) (h0 : ∀ c, c < 3 → T 0 c = S 0 c) (h04 : T 0 4 = S 0 4) (hm : ∀ a k, k ≠ j → (a < 8 ∨ a = 11) → X a k = M a k) (hm9 : ∀ a, a = 9 ∨ a = 10 → X a = M a) (h8 : ∀ c, c < 3 → X 8 c = M 8 c) (h83 : X 8 3 = T 0 3) (h12 : ∀ c, 0 < c → X 12 c = M 12 c) (hc : gr G (co T j) (co X j)) : Inv G N T X := by
  obtain ⟨hN, hG, e1, e2, e3, e4, ⟨r1, r2, ⟨d0, d1, d3⟩, r4⟩, b1, b2⟩ := h
  refine ⟨hN, hG, (h0 1 (by omega)).trans e1, (h0 2 (by omega)).trans e2, (h12 1 (by omega)).trans e3, (h12 2 (by omega)).trans e4, ⟨fun k hk => ?_, ?_, ?_, ?_⟩, ?_, ?_⟩
  · by_cases hkj : k = j
    · subst hkj; exact hc
    · exact rj_congr (s := co S k) (m := co M k) (fun a a1 _ => hs a k hkj a1) (fun a ha => hm a k hkj ha) (r1 k hk)
  · exact gts_congr (fun a ha => h7 a (by omega)) (fun a ha => hm9 a ha) r2
  · exact ⟨(h8 0 (by omega)).trans (d0.trans (h0 0 (by omega)).symm), (h8 1 (by omega)).trans (d1.trans h04.symm), h83⟩
  · rw [h8 2 (by omega), r4]
    exact giv_congr (fun g _ => by rw [h7 7 (by omega)])
  · intro k hk
    rw [hm 0 k (by omega) (by omega), hm 6 k (by omega) (by omega), hs 16 k (by omega) (by omega)]
    exact b1 k hk
  · intro g hg
    rw [h7 7 (by omega)]
    exact b2 g hg
theorem idle_cases {k : Nat} (h : gr G (co S k) (co M k)) : (S 9 k = 0 ∧ xIdle S k = none ∧ ¬ mIs M k 0 = 0) ∨ (xIdle S k = some gxIS ∧ mIs M k 0 = 0) := by
  unfold xIdle
  by_cases h9 : S 9 k = 0
  · rw [if_pos h9]
    exact Or.inl ⟨h9, rfl, fun z => (mIs0 M k 0).mp z ((rj_st h).trans h9)⟩
  · rw [if_neg h9]
    exact Or.inr ⟨rfl, (mIs0 M k 0).mpr (fun z => h9 ((rj_st h).symm.trans z))⟩
theorem mMat_congr {X Y : SS} (g : Int32) (h : ∀ a k, a < 8 → X a k = Y a k) : ∀ n, mMat X g n = mMat Y g n := by
  intro n
  induction n with
  | zero => rfl
  | succ n ih =>
    show mMat X g n + (if mAt X n g = 0 then 0 else 1) = mMat Y g n + (if mAt Y n g = 0 then 0 else 1)
    have e : mAt X n g = mAt Y n g := by
      unfold mAt mIs
      rw [h 0 n (by omega), h 1 n (by omega)]
    rw [ih, e]
theorem op_ask (h : Inv G N S M) (k g w mi wt : Int32) (x : Option String) (hx : x = ((xGoat S k).or ((xGate S g).or ((xNum w (S 5 g.toNatClampNeg)).or ((xNum mi 30).or ((xNum wt 60).or (xIdle S k.toNatClampNeg))))))) : mM_ask M N G k g w mi wt 12 0 = xc gxIO gxIA x ∧ (x = none → mR_ask M N G k g w mi wt = gxWat (gxLine S k.toNatClampNeg g w mi wt) g N) ∧ Inv G N (if x = none then gxLine S k.toNatClampNeg g w mi wt else S) (mM_ask M N G k g w mi wt) := by
  have bad : ∀ (E : String) (v : Int32), x = some E → xc gxIO gxIA (some E) = v → (up2 (up2 M 12 0 0) 12 0 v 12 0 = xc gxIO gxIA x ∧ (x = none → (0 : Int32) = gxWat (gxLine S k.toNatClampNeg g w mi wt) g N) ∧ Inv G N (if x = none then gxLine S k.toNatClampNeg g w mi wt else S) (up2 (up2 M 12 0 0) 12 0 v)) := by
    intro E v e1 e2
    subst e1
    refine ⟨by rw [t_0, e2], fun z => (nomatch z), ?_⟩
    rw [if_neg (fun z => by cases z)]
    exact inv_t2 h 0 v
  unfold mM_ask mR_ask
  rcases goat_cases h (X := up2 M 12 0 0) rfl k with ⟨i, hi, ek, x1, m1⟩ | ⟨x1, m1⟩
  · rw [if_neg m1, if_neg m1]
    rcases gate_cases h (X := up2 M 12 0 0) rfl g with ⟨j, hj, eg, x2, m2⟩ | ⟨x2, m2⟩
    · rw [if_neg m2, if_neg m2]
      have hh := h
      obtain ⟨hN, hG, e1, e2, e3, e4, ⟨r1, r2, r3, r4⟩, b1, b2⟩ := hh
      have cj : g.toNatClampNeg = j := by rw [eg]; exact cl_nI (by omega)
      have ci : k.toNatClampNeg = i := by rw [ek]; exact cl_nI (by omega)
      rw [x1, x2, cj, ci] at hx
      rw [cj, ci]
      rw [ci] at bad
      rw [(r2 j hj).1]
      rcases num_cases w (S 5 j) with ⟨x3, m3⟩ | ⟨x3, m3⟩
      · rw [if_neg m3, if_neg m3]
        rcases num_cases mi 30 with ⟨x4, m4⟩ | ⟨x4, m4⟩
        · rw [if_neg m4, if_neg m4]
          rcases num_cases wt 60 with ⟨x5, m5⟩ | ⟨x5, m5⟩
          · rw [if_neg m5, if_neg m5]
            have hi' := r1 i hi
            rcases idle_cases (M := up2 M 12 0 0) hi' with ⟨h9, x6, m6⟩ | ⟨x6, m6⟩
            · rw [if_neg m6, if_neg m6]
              rw [x3, x4, x5, x6] at hx
              have hx' : x = none := hx
              rw [if_pos hx', hx']
              obtain ⟨c, c1, c2, ec⟩ := xNum_n (M := 30) (by omega) x4
              obtain ⟨d, d1, d2, ed⟩ := xNum_n (M := 60) (by omega) x5
              obtain ⟨y, y1, y2, ey⟩ := rj_h hi'
              have h11 := rj_hn hi'
              have h6 := rj_to hi'
              have h15 := (rj_0 hi' h9).2.2
              obtain ⟨d0, d3, dd⟩ := r3
              generalize hX : up2 (up2 (up2 (up2 (up2 (up2 (up2 (up2 (up2 M 12 0 0) 0 i 1) 1 i g) 2 i w) 3 i mi) 4 i wt) 5 i 0) 7 i ((up2 (up2 (up2 (up2 (up2 M 12 0 0) 0 i 1) 1 i g) 2 i w) 3 i mi) 8 3)) 8 3 (((up2 (up2 (up2 (up2 (up2 M 12 0 0) 0 i 1) 1 i g) 2 i w) 3 i mi) 8 3) + 1) = X
              have aX : ∀ a b, X a b = if a = 8 ∧ b = 3 then M 8 3 + 1 else if a = 7 ∧ b = i then M 8 3 else if a = 5 ∧ b = i then 0 else if a = 4 ∧ b = i then wt else if a = 3 ∧ b = i then mi else if a = 2 ∧ b = i then w else if a = 1 ∧ b = i then g else if a = 0 ∧ b = i then 1 else if a = 12 ∧ b = 0 then 0 else M a b := by
                intro a b
                rw [← hX]
                simp only [up2_at]
                simp
              have aT : ∀ a b, gxLine S i g w mi wt a b = if a = 0 ∧ b = 3 then S 0 3 + 1 else if a = 14 ∧ b = i then S 0 3 else if a = 13 ∧ b = i then wt else if a = 12 ∧ b = i then mi else if a = 11 ∧ b = i then w else if a = 10 ∧ b = i then g else if a = 9 ∧ b = i then 1 else S a b := by
                intro a b
                unfold gxLine
                simp only [up2_at]
              have inv : Inv G N (gxLine S i g w mi wt) X := by
                refine inv_goat h hi (fun a k' hk' ha => ?_) (fun a ha => ?_) (fun c' hc' => ?_) ?_ (fun a k' hk' ha => ?_) (fun a ha => ?_) (fun c' hc' => ?_) ?_ (fun c' hc' => ?_) ?_
                · rw [aT]; simp [hk', show ¬ a = 0 by omega]
                · funext b; rw [aT]; simp [show ¬ a = 0 by omega, show ¬ a = 14 by omega, show ¬ a = 13 by omega, show ¬ a = 12 by omega, show ¬ a = 11 by omega, show ¬ a = 10 by omega, show ¬ a = 9 by omega]
                · rw [aT]; simp [show ¬ c' = 3 by omega]
                · rw [aT]; simp
                · rw [aX]; simp [hk', show ¬ a = 8 by omega, show ¬ a = 12 by omega]
                · funext b; rw [aX]; simp [show ¬ a = 8 by omega, show ¬ a = 7 by omega, show ¬ a = 5 by omega, show ¬ a = 4 by omega, show ¬ a = 3 by omega, show ¬ a = 2 by omega, show ¬ a = 1 by omega, show ¬ a = 0 by omega, show ¬ a = 12 by omega]
                · rw [aX]; simp [show ¬ c' = 3 by omega]
                · rw [aX, aT]; simp [dd]
                · rw [aX]; simp [show ¬ c' = 0 by omega]
                · refine ⟨?_, ?_, ?_, ⟨y, y1, y2, ?_⟩, Or.inr (Or.inl ⟨?_, ?_, ?_, ?_, ?_, ⟨j, hj, ?_⟩, ⟨0, d, c, by omega, d2, c1, c2, ?_, ?_, ?_, ?_, ?_⟩⟩)⟩ <;> simp only [co, aX, aT] <;> simp [h11, h6, ey, h15, ec, ed, eg, dd]
                  all_goals rfl
              refine ⟨?_, fun _ => ?_, inv⟩
              · rw [aX]; simp [xc]
              · have hr : Rel G N (gxLine S i g w mi wt) X := inv.2.2.2.2.2.2.1
                exact r_wat hr.1 g N (Nat.le_refl N)
            · rw [if_pos m6, if_pos m6]
              rw [x3, x4, x5, x6] at hx
              exact bad gxIS 3 hx rfl
          · rw [if_pos m5, if_pos m5]
            rw [x3, x4, x5] at hx
            exact bad gxIA 2 hx rfl
        · rw [if_pos m4, if_pos m4]
          rw [x3, x4] at hx
          exact bad gxIA 2 hx rfl
      · rw [if_pos m3, if_pos m3]
        rw [x3] at hx
        exact bad gxIA 2 hx rfl
    · rw [if_pos m2, if_pos m2]
      rw [x1, x2] at hx
      exact bad gxIO 1 hx rfl
  · rw [if_pos m1, if_pos m1]
    rw [x1] at hx
    exact bad gxIO 1 hx rfl
theorem op_barge (h : Inv G N S M) (k g w mi : Int32) (x : Option String) (hx : x = ((xGoat S k).or ((xGate S g).or ((xNum w (S 5 g.toNatClampNeg)).or ((xNum mi 30).or ((xIdle S k.toNatClampNeg).or (xFr S g.toNatClampNeg N w))))))) : mM_barge M N G k g w mi 12 0 = xc gxIO gxIA x ∧ (x = none → mR_barge M N G k g w mi = gxFree (gxEnt S k.toNatClampNeg g w mi) g.toNatClampNeg N) ∧ Inv G N (if x = none then gxEnt S k.toNatClampNeg g w mi else S) (mM_barge M N G k g w mi) := by
  have bad : ∀ (E : String) (v : Int32), x = some E → xc gxIO gxIA (some E) = v → (up2 (up2 M 12 0 0) 12 0 v 12 0 = xc gxIO gxIA x ∧ (x = none → (0 : Int32) = gxFree (gxEnt S k.toNatClampNeg g w mi) g.toNatClampNeg N) ∧ Inv G N (if x = none then gxEnt S k.toNatClampNeg g w mi else S) (up2 (up2 M 12 0 0) 12 0 v)) := by
    intro E v e1 e2
    subst e1
    refine ⟨by rw [t_0, e2], fun z => (nomatch z), ?_⟩
    rw [if_neg (fun z => by cases z)]
    exact inv_t2 h 0 v
  unfold mM_barge mR_barge
  rcases goat_cases h (X := up2 M 12 0 0) rfl k with ⟨i, hi, ek, x1, m1⟩ | ⟨x1, m1⟩
  · rw [if_neg m1, if_neg m1]
    rcases gate_cases h (X := up2 M 12 0 0) rfl g with ⟨j, hj, eg, x2, m2⟩ | ⟨x2, m2⟩
    · rw [if_neg m2, if_neg m2]
      have hh := h
      obtain ⟨hN, hG, e1, e2, e3, e4, ⟨r1, r2, r3, r4⟩, b1, b2⟩ := hh
      have cj : g.toNatClampNeg = j := by rw [eg]; exact cl_nI (by omega)
      have ci : k.toNatClampNeg = i := by rw [ek]; exact cl_nI (by omega)
      rw [x1, x2, cj, ci] at hx
      rw [cj, ci]
      rw [cj, ci] at bad
      rw [(r2 j hj).1]
      rcases num_cases w (S 5 j) with ⟨x3, m3⟩ | ⟨x3, m3⟩
      · rw [if_neg m3, if_neg m3]
        rcases num_cases mi 30 with ⟨x4, m4⟩ | ⟨x4, m4⟩
        · rw [if_neg m4, if_neg m4]
          have hi' := r1 i hi
          rcases idle_cases (M := up2 M 12 0 0) hi' with ⟨h9, x6, m6⟩ | ⟨x6, m6⟩
          · rw [if_neg m6, if_neg m6]
            have ef : mFree (up2 M 12 0 0) j N = gxFree S j N := r_free (M := up2 M 12 0 0) r1 (r2 j hj).1 N (Nat.le_refl N)
            rw [ef]
            by_cases hf : w ≤ gxFree S j N
            · rw [if_pos hf, if_pos hf]
              have x7 : xFr S j N w = none := if_pos hf
              rw [x3, x4, x6, x7] at hx
              have hx' : x = none := hx
              rw [if_pos hx', hx']
              obtain ⟨c, c1, c2, ec⟩ := xNum_n (M := 30) (by omega) x4
              obtain ⟨y, y1, y2, ey⟩ := rj_h hi'
              have h11 := rj_hn hi'
              have h6 := rj_to hi'
              obtain ⟨d0, d3, dd⟩ := r3
              generalize hX : up2 (up2 (up2 (up2 (up2 M 12 0 0) 0 i 2) 1 i g) 2 i w) 3 i mi = X
              have aX : ∀ a b, X a b = if a = 3 ∧ b = i then mi else if a = 2 ∧ b = i then w else if a = 1 ∧ b = i then g else if a = 0 ∧ b = i then 2 else if a = 12 ∧ b = 0 then 0 else M a b := by
                intro a b
                rw [← hX]
                simp only [up2_at]
              have aT : ∀ a b, gxEnt S i g w mi a b = if a = 15 ∧ b = i then 0 else if a = 13 ∧ b = i then mi else if a = 11 ∧ b = i then w else if a = 10 ∧ b = i then g else if a = 9 ∧ b = i then 2 else S a b := by
                intro a b
                unfold gxEnt
                simp only [up2_at]
              have inv : Inv G N (gxEnt S i g w mi) X := by
                refine inv_goat h hi (fun a k' hk' ha => ?_) (fun a ha => ?_) (fun c' hc' => ?_) ?_ (fun a k' hk' ha => ?_) (fun a ha => ?_) (fun c' hc' => ?_) ?_ (fun c' hc' => ?_) ?_
                · rw [aT]; simp [hk']
                · funext b; rw [aT]; simp [show ¬ a = 15 by omega, show ¬ a = 13 by omega, show ¬ a = 11 by omega, show ¬ a = 10 by omega, show ¬ a = 9 by omega]
                · rw [aT]; simp
                · rw [aT]; simp
                · rw [aX]; simp [hk', show ¬ a = 12 by omega]
                · funext b; rw [aX]; simp [show ¬ a = 3 by omega, show ¬ a = 2 by omega, show ¬ a = 1 by omega, show ¬ a = 0 by omega, show ¬ a = 12 by omega]
                · rw [aX]; simp
                · rw [aX, aT]; simp [dd]
                · rw [aX]; simp [show ¬ c' = 0 by omega]
                · refine ⟨?_, ?_, ?_, ⟨y, y1, y2, ?_⟩, Or.inr (Or.inr ⟨?_, ?_, ?_, ?_, ⟨j, hj, ?_⟩, ⟨c, c1, c2, ?_, ?_⟩⟩)⟩ <;> simp only [co, aX, aT] <;> simp [h11, h6, ey, ec, eg]
              refine ⟨?_, fun _ => ?_, inv⟩
              · rw [aX]; simp [xc]
              · have hr : Rel G N (gxEnt S i g w mi) X := inv.2.2.2.2.2.2.1
                exact r_free hr.1 (hr.2.1 j hj).1 N (Nat.le_refl N)
            · rw [if_neg hf, if_neg hf]
              have x7 : xFr S j N w = some gxIS := if_neg hf
              rw [x3, x4, x6, x7] at hx
              exact bad gxIS 3 hx rfl
          · rw [if_pos m6, if_pos m6]
            rw [x3, x4, x6] at hx
            exact bad gxIS 3 hx rfl
        · rw [if_pos m4, if_pos m4]
          rw [x3, x4] at hx
          exact bad gxIA 2 hx rfl
      · rw [if_pos m3, if_pos m3]
        rw [x3] at hx
        exact bad gxIA 2 hx rfl
    · rw [if_pos m2, if_pos m2]
      rw [x1, x2] at hx
      exact bad gxIO 1 hx rfl
  · rw [if_pos m1, if_pos m1]
    rw [x1] at hx
    exact bad gxIO 1 hx rfl
theorem op_callBack (h : Inv G N S M) (k : Int32) (x : Option String) (hx : x = ((xGoat S k).or (xCb S k.toNatClampNeg))) : mM_callBack M N G k 12 0 = xc gxIO gxIS x ∧ (x = none → mR_callBack M N G k = gxHeld S k.toNatClampNeg) ∧ Inv G N (if x = none then gxRest S k.toNatClampNeg else S) (mM_callBack M N G k) := by
  have bad : ∀ (E : String) (v : Int32), x = some E → xc gxIO gxIS (some E) = v → (up2 (up2 M 12 0 0) 12 0 v 12 0 = xc gxIO gxIS x ∧ (x = none → (0 : Int32) = gxHeld S k.toNatClampNeg) ∧ Inv G N (if x = none then gxRest S k.toNatClampNeg else S) (up2 (up2 M 12 0 0) 12 0 v)) := by
    intro E v e1 e2
    subst e1
    refine ⟨by rw [t_0, e2], fun z => (nomatch z), ?_⟩
    rw [if_neg (fun z => by cases z)]
    exact inv_t2 h 0 v
  unfold mM_callBack mR_callBack
  rcases goat_cases h (X := up2 M 12 0 0) rfl k with ⟨i, hi, ek, x1, m1⟩ | ⟨x1, m1⟩
  · rw [if_neg m1, if_neg m1]
    have hh := h
    obtain ⟨hN, hG, e1, e2, e3, e4, ⟨r1, r2, r3, r4⟩, b1, b2⟩ := hh
    have ci : k.toNatClampNeg = i := by rw [ek]; exact cl_nI (by omega)
    rw [x1, ci] at hx
    rw [ci]
    rw [ci] at bad
    have hi' := r1 i hi
    by_cases h9 : S 9 i = 0
    · have m2 : ¬ mIs (up2 M 12 0 0) i 0 = 0 := fun z => (mIs0 M i 0).mp z ((rj_st hi').trans h9)
      have x2 : xCb S i = some gxIS := if_pos h9
      rw [x2] at hx
      rw [if_neg m2, if_neg m2]
      exact bad gxIS 2 hx rfl
    · have m2 : mIs (up2 M 12 0 0) i 0 = 0 := (mIs0 M i 0).mpr (fun z => h9 ((rj_st hi').symm.trans z))
      have x2 : xCb S i = none := if_neg h9
      rw [x2] at hx
      have hx' : x = none := hx
      rw [if_pos m2, if_pos m2, if_pos hx', hx']
      obtain ⟨y, y1, y2, ey⟩ := rj_h hi'
      have h11 := rj_hn hi'
      have h6 := rj_to hi'
      obtain ⟨d0, d3, dd⟩ := r3
      have aT : ∀ a b, gxRest S i a b = if a = 15 ∧ b = i then 0 else if a = 13 ∧ b = i then 0 else if a = 10 ∧ b = i then -1 else if a = 9 ∧ b = i then 0 else S a b := by
        intro a b
        unfold gxRest
        simp only [up2_at]
      refine ⟨rfl, fun _ => r_held (M := up2 M 12 0 0) hi', ?_⟩
      refine inv_goat h hi (fun a k' hk' ha => ?_) (fun a ha => ?_) (fun c' hc' => ?_) ?_ (fun a k' hk' ha => ?_) (fun a ha => ?_) (fun c' hc' => ?_) ?_ (fun c' hc' => ?_) ?_
      · rw [aT]; simp [hk']
      · funext b; rw [aT]; simp [show ¬ a = 15 by omega, show ¬ a = 13 by omega, show ¬ a = 10 by omega, show ¬ a = 9 by omega]
      · rw [aT]; simp
      · rw [aT]; simp
      · simp only [up2_at]; simp [hk', show ¬ a = 12 by omega]
      · funext b; simp only [up2_at]; simp [show ¬ a = 0 by omega, show ¬ a = 12 by omega]
      · simp only [up2_at]; simp
      · rw [aT]; simp only [up2_at]; simp [dd]
      · simp only [up2_at]; simp [show ¬ c' = 0 by omega]
      · refine ⟨?_, ?_, ?_, ⟨y, y1, y2, ?_⟩, Or.inl ⟨?_, ?_, ?_, ?_⟩⟩ <;> simp only [co, up2_at, aT] <;> simp [h11, h6, ey]
  · rw [if_pos m1, if_pos m1]
    rw [x1] at hx
    exact bad gxIO 1 hx rfl
end OQ
