/-! The law's turns on the rows (pure): ask, barge, callBack, pass. -/
section DP
variable {T G N : Nat} {S M : SS} {Ls : Nat → List Nat}
theorem LI.st (h : LI T G N S M Ls) {k : Nat} (hk : k < N) : M 0 k = S 9 k := rj_st (h.1.2.2.2.2.2.2.1.1 k hk)
theorem LI.pm (h : LI T G N S M Ls) {g : Nat} (hg : g < G) : M 9 g = S 5 g ∧ M 10 g = S 6 g ∧ (S 6 g = 0 ∨ S 6 g = 1) := h.1.2.2.2.2.2.2.1.2.1 g hg
theorem LI.fr (h : LI T G N S M Ls) {g : Nat} (hg : g < G) : mFree M g N = gxFree S g N := r_free h.1.2.2.2.2.2.2.1.1 (h.pm hg).1 N (Nat.le_refl N)
theorem xGoat_in (h : Inv G N S M) {k : Nat} (hk : k < N) : xGoat S (nI k) = none := by
  unfold xGoat
  rw [if_neg (nI_pos (by have := h.1; omega)), h.2.2.2.1, if_pos (nI_lt hk (by have := h.1; omega))]
theorem xGate_in (h : Inv G N S M) {g : Nat} (hg : g < G) : xGate S (nI g) = none := by
  unfold xGate
  rw [if_neg (nI_pos (by have := h.2.1; omega)), h.2.2.1, if_pos (nI_lt hg (by have := h.2.1; omega))]
theorem mIn_x {a m : Int32} (h : xNum a m = none) : ¬ mIn a 1 m = 0 := by
  rcases num_cases a m with ⟨-, z⟩ | ⟨z, -⟩
  · exact z
  · rw [h] at z; cases z
theorem mGoat_ok (h : Inv G N S M) {k : Nat} (hk : k < N) : ¬ mGoat (up2 M 12 0 0) (nI k) = 0 := by
  rcases goat_cases h (X := up2 M 12 0 0) rfl (nI k) with ⟨i, -, -, -, m1⟩ | ⟨x1, -⟩
  · exact m1
  · rw [xGoat_in h hk] at x1; cases x1
theorem mGate_ok (h : Inv G N S M) {g : Nat} (hg : g < G) : ¬ mGate (up2 M 12 0 0) (nI g) = 0 := by
  rcases gate_cases h (X := up2 M 12 0 0) rfl (nI g) with ⟨i, -, -, -, m1⟩ | ⟨x1, -⟩
  · exact m1
  · rw [xGate_in h hg] at x1; cases x1
/-- what ask looks at before it throws -/
theorem x_ask (h : LI T G N S M Ls) {k g w c d : Nat} (hk : k < N) (hg : g < G) (w1 : 1 ≤ w) (w2 : ∃ p, p ≤ 9 ∧ M 9 g = nI p ∧ w ≤ p) (c1 : 1 ≤ c) (c2 : c ≤ 30) (d1 : 1 ≤ d) (d2 : d ≤ 60) : ((xGoat S (nI k)).or ((xGate S (nI g)).or ((xNum (nI w) (S 5 (nI g).toNatClampNeg)).or ((xNum (nI c) 30).or ((xNum (nI d) 60).or (xIdle S (nI k).toNatClampNeg)))))) = xIdle S k := by
  obtain ⟨p, p1, p2, p3⟩ := w2
  have hN := h.1.1
  have hG := h.1.2.1
  rw [xGoat_in h.1 hk, xGate_in h.1 hg, cl_nI (show g < 12 by omega), cl_nI (show k < 12 by omega), ← (h.pm hg).1, p2, xNum_ok w1 p3 (by omega), show xNum (nI c) 30 = none from xNum_ok (m := 30) c1 c2 (by omega), show xNum (nI d) 60 = none from xNum_ok (m := 60) d1 d2 (by omega)]
  rfl
theorem x_barge (h : LI T G N S M Ls) {k g w c : Nat} (hk : k < N) (hg : g < G) (w1 : 1 ≤ w) (w2 : ∃ p, p ≤ 9 ∧ M 9 g = nI p ∧ w ≤ p) (c1 : 1 ≤ c) (c2 : c ≤ 30) : ((xGoat S (nI k)).or ((xGate S (nI g)).or ((xNum (nI w) (S 5 (nI g).toNatClampNeg)).or ((xNum (nI c) 30).or ((xIdle S (nI k).toNatClampNeg).or (xFr S (nI g).toNatClampNeg N (nI w))))))) = (xIdle S k).or (xFr S g N (nI w)) := by
  obtain ⟨p, p1, p2, p3⟩ := w2
  have hN := h.1.1
  have hG := h.1.2.1
  rw [xGoat_in h.1 hk, xGate_in h.1 hg, cl_nI (show g < 12 by omega), cl_nI (show k < 12 by omega), ← (h.pm hg).1, p2, xNum_ok w1 p3 (by omega), show xNum (nI c) 30 = none from xNum_ok (m := 30) c1 c2 (by omega)]
  rfl
theorem x_callBack (h : LI T G N S M Ls) {k : Nat} (hk : k < N) : ((xGoat S (nI k)).or (xCb S (nI k).toNatClampNeg)) = xCb S k := by
  have hN := h.1.1
  rw [xGoat_in h.1 hk, cl_nI (show k < 12 by omega)]
  rfl
/-- how many wait at a gate: the line's length -/
theorem mat_len (hL : Ln G N M Ls) {g : Nat} (hg : g < G) : mMat M (nI g) N = nI (Ls g).length := by
  obtain ⟨h1, h2⟩ := hL.2 g hg
  have key : ∀ n, mMat M (nI g) n = nI ((List.range n).filter (fun k => decide (M 0 k = 1 ∧ M 1 k = nI g))).length := by
    intro n
    induction n with
    | zero => rfl
    | succ n ih =>
      show mMat M (nI g) n + (if mAt M n (nI g) = 0 then 0 else 1) = _
      rw [List.range_succ, List.filter_append, List.length_append, ih]
      by_cases h : M 0 n = 1 ∧ M 1 n = nI g
      · rw [if_neg (mAt_iff.mpr h)]
        simp [h, ← nI_1]
      · rw [if_pos (Decidable.byContradiction fun z => h (mAt_iff.mp z))]
        simp [h]
  rw [key N]
  congr 1
  refine List.Perm.length_eq ((List.perm_ext_iff_of_nodup (List.nodup_range.filter _) (pw_nodup h2)).mpr fun k => ?_)
  rw [h1 k, List.mem_filter, List.mem_range]
  simp
theorem LI.len (h : LI T G N S M Ls) {g : Nat} (hg : g < G) : gxWat S (nI g) N = nI (Ls g).length := by
  rw [← mat_len h.2.1 hg]
  exact (r_wat h.1.2.2.2.2.2.2.1.1 (nI g) N (Nat.le_refl N)).symm
def askM (M : SS) (k : Nat) (g w c d : Int32) : SS := up2 (up2 (up2 (up2 (up2 (up2 M 0 k 1) 1 k g) 2 k w) 3 k c) 4 k d) 5 k 0
theorem do_ask (h : LI T G N S M Ls) (hT : T < 1000000) {k g w c d : Nat} (hk : k < N) (hg : g < G) (w1 : 1 ≤ w) (w2 : ∃ p, p ≤ 9 ∧ M 9 g = nI p ∧ w ≤ p) (c1 : 1 ≤ c) (c2 : c ≤ 30) (d1 : 1 ≤ d) (d2 : d ≤ 60) (h0 : M 0 k = 0) : ∃ M', LI (T + 1) G N (gxLine S k (nI g) (nI w) (nI c) (nI d)) M' (lsU Ls g (Ls g ++ [k])) ∧ ∀ a b, a ≠ 7 → a < 12 → ¬ (a = 8 ∧ b = 3) → M' a b = askM M k (nI g) (nI w) (nI c) (nI d) a b := by
  have hx := x_ask h hk hg w1 w2 c1 c2 d1 d2
  have hh := h
  obtain ⟨hI, hL, hz, hp, t, ht, h83, h7⟩ := h
  have hN := hI.1
  have hG := hI.2.1
  have h9 : S 9 k = 0 := (hh.st hk).symm.trans h0
  have hid : xIdle S k = none := if_pos h9
  rw [hid] at hx
  obtain ⟨-, -, hI'⟩ := op_ask hI (nI k) (nI g) (nI w) (nI c) (nI d) _ rfl
  rw [if_pos hx, cl_nI (show k < 12 by omega)] at hI'
  obtain ⟨p, p1, p2, p3⟩ := w2
  have eM : ∀ a b, mM_ask M N G (nI k) (nI g) (nI w) (nI c) (nI d) a b = if a = 8 ∧ b = 3 then M 8 3 + 1 else if a = 7 ∧ b = k then M 8 3 else if a = 12 ∧ b = 0 then 0 else askM M k (nI g) (nI w) (nI c) (nI d) a b := by
    intro a b
    unfold mM_ask askM
    rw [if_neg (mGoat_ok hI hk), if_neg (mGate_ok hI hg), cl_nI (show g < 12 by omega), cl_nI (show k < 12 by omega), p2, if_neg (mIn_x (xNum_ok w1 p3 (by omega))), if_neg (mIn_x (m := 30) (xNum_ok (m := 30) c1 c2 (by omega))), if_neg (mIn_x (m := 60) (xNum_ok (m := 60) d1 d2 (by omega))), if_neg (fun z => (mIs0 (up2 M 12 0 0) k 0).mp z h0)]
    simp only [up2_at]
    by_cases e8 : a = 8 ∧ b = 3
    · simp [e8]
    · by_cases e7 : a = 7 ∧ b = k
      · simp [e7]
      · by_cases e12 : a = 12 ∧ b = 0
        · simp [e12]
        · simp [e8, e7, e12]
  generalize mM_ask M N G (nI k) (nI g) (nI w) (nI c) (nI d) = X at hI' eM
  have aA : ∀ a b, askM M k (nI g) (nI w) (nI c) (nI d) a b = if a = 5 ∧ b = k then 0 else if a = 4 ∧ b = k then nI d else if a = 3 ∧ b = k then nI c else if a = 2 ∧ b = k then nI w else if a = 1 ∧ b = k then nI g else if a = 0 ∧ b = k then 1 else M a b := fun a b => by
    unfold askM; simp only [up2_at]
  have oth : ∀ a b, b ≠ k → ¬ (a = 8 ∧ b = 3) → a < 12 → X a b = M a b := fun a b hb h8 ha => by
    rw [eM, if_neg h8, if_neg (fun z => hb z.2), if_neg (by omega), aA]
    simp [hb]
  have X0 : X 0 k = 1 := by rw [eM, aA]; simp
  have X1 : X 1 k = nI g := by rw [eM, aA]; simp
  have X7 : X 7 k = nI t := by rw [eM, ← h83]; simp
  refine ⟨X, ⟨hI', hL.join hG hg hk (by rw [h0]; decide) X0 X1 (fun i hi hik => ⟨oth 0 i hik (by omega) (by omega), oth 1 i hik (by omega) (by omega), oth 7 i hik (by omega) (by omega)⟩) (fun i hi hi1 => ?_), fun i hi a ha => ?_, fun g1 hg1 => ?_, t + 1, by omega, ?_, fun i hi hi1 => ?_⟩, fun a b h7 h12 h8 => ?_⟩
  · obtain ⟨b, b1, b2⟩ := h7 i hi hi1
    rw [b2, X7]
    exact nI_lt b1 (by omega)
  · by_cases e8 : a = 8 ∧ i = 3
    · omega
    · rw [oth a i (by omega) e8 (by omega)]; exact hz i hi a ha
  · by_cases e : g1 = k
    · have : X 9 g1 = M 9 g1 := by rw [eM, aA]; simp
      rw [this]; exact hp g1 hg1
    · rw [oth 9 g1 e (by omega) (by omega)]; exact hp g1 hg1
  · rw [eM]; simp [h83, nI_1]
  · by_cases e : i = k
    · rw [e, X7]; exact ⟨t, by omega, rfl⟩
    · rw [oth 0 i e (by omega) (by omega)] at hi1
      obtain ⟨b, b1, b2⟩ := h7 i hi hi1
      rw [oth 7 i e (by omega) (by omega)]
      exact ⟨b, by omega, b2⟩
  · rw [eM, if_neg h8, if_neg (fun z => h7 z.1), if_neg (by omega)]
def bargeM (M : SS) (k : Nat) (g w c : Int32) : SS := up2 (up2 (up2 (up2 M 0 k 2) 1 k g) 2 k w) 3 k c
theorem do_barge (h : LI T G N S M Ls) {k g w c : Nat} (hk : k < N) (hg : g < G) (w1 : 1 ≤ w) (w2 : ∃ p, p ≤ 9 ∧ M 9 g = nI p ∧ w ≤ p) (c1 : 1 ≤ c) (c2 : c ≤ 30) (h0 : M 0 k = 0) (hf : nI w ≤ mFree M g N) : ∃ M', LI (T + 1) G N (gxEnt S k (nI g) (nI w) (nI c)) M' Ls ∧ ∀ a b, a < 12 → M' a b = bargeM M k (nI g) (nI w) (nI c) a b := by
  have hx := x_barge h hk hg w1 w2 c1 c2
  have hh := h
  have hf2 : nI w ≤ gxFree S g N := by rw [← h.fr hg]; exact hf
  obtain ⟨hI, hL, hz, hp, t, ht, h83, h7⟩ := h
  have hN := hI.1
  have hG := hI.2.1
  have h9 : S 9 k = 0 := (hh.st hk).symm.trans h0
  have hid : xIdle S k = none := if_pos h9
  have hfr : xFr S g N (nI w) = none := if_pos hf2
  rw [hid, hfr] at hx
  have hx := hx.trans (show (none : Option String).or none = none from rfl)
  obtain ⟨-, -, hI'⟩ := op_barge hI (nI k) (nI g) (nI w) (nI c) _ rfl
  rw [if_pos hx, cl_nI (show k < 12 by omega)] at hI'
  obtain ⟨p, p1, p2, p3⟩ := w2
  have eM : ∀ a b, mM_barge M N G (nI k) (nI g) (nI w) (nI c) a b = if a = 12 ∧ b = 0 then 0 else bargeM M k (nI g) (nI w) (nI c) a b := by
    intro a b
    unfold mM_barge bargeM
    rw [if_neg (mGoat_ok hI hk), if_neg (mGate_ok hI hg), cl_nI (show g < 12 by omega), cl_nI (show k < 12 by omega), p2, if_neg (mIn_x (xNum_ok w1 p3 (by omega))), if_neg (mIn_x (m := 30) (xNum_ok (m := 30) c1 c2 (by omega))), if_neg (fun z => (mIs0 (up2 M 12 0 0) k 0).mp z h0), if_pos (show nI w ≤ mFree (up2 M 12 0 0) g N from by rw [r_free (M := up2 M 12 0 0) (S := S) hI.2.2.2.2.2.2.1.1 (hh.pm hg).1 N (Nat.le_refl N)]; exact hf2)]
    simp only [up2_at]
    by_cases e12 : a = 12 ∧ b = 0
    · simp [e12]
    · simp [e12]
  generalize mM_barge M N G (nI k) (nI g) (nI w) (nI c) = X at hI' eM
  have aA : ∀ a b, bargeM M k (nI g) (nI w) (nI c) a b = if a = 3 ∧ b = k then nI c else if a = 2 ∧ b = k then nI w else if a = 1 ∧ b = k then nI g else if a = 0 ∧ b = k then 2 else M a b := fun a b => by
    unfold bargeM; simp only [up2_at]
  have oth : ∀ a b, b ≠ k → a < 12 → X a b = M a b := fun a b hb ha => by
    rw [eM, if_neg (by omega), aA]
    simp [hb]
  have X0 : X 0 k = 2 := by rw [eM, aA]; simp
  have X7 : ∀ b, X 7 b = M 7 b := fun b => by rw [eM, aA]; simp
  have X8 : ∀ b, X 8 b = M 8 b := fun b => by rw [eM, aA]; simp
  have X9 : ∀ b, X 9 b = M 9 b := fun b => by rw [eM, aA]; simp
  have hst : ∀ i, X 0 i = 1 → i ≠ k := fun i hi e => by rw [e, X0] at hi; exact absurd hi (by decide)
  have hst2 : ∀ i, M 0 i = 1 → i ≠ k := fun i hi e => by rw [e, h0] at hi; exact absurd hi (by decide)
  refine ⟨X, ⟨hI', hL.congr (fun i hi => ⟨⟨fun z => ?_, fun z => ?_⟩, fun z => ⟨oth 1 i (hst2 i z) (by omega), X7 i⟩⟩), fun i hi a ha => ?_, fun g1 hg1 => by rw [X9]; exact hp g1 hg1, t, by omega, by rw [X8]; exact h83, fun i hi hi1 => ?_⟩, fun a b ha => ?_⟩
  · rw [← oth 0 i (hst i z) (by omega)]; exact z
  · rw [oth 0 i (hst2 i z) (by omega)]; exact z
  · rw [oth a i (by omega) (by omega)]; exact hz i hi a ha
  · rw [oth 0 i (hst i hi1) (by omega)] at hi1
    rw [X7]; exact h7 i hi hi1
  · rw [eM, if_neg (by omega)]
theorem do_callBack (h : LI T G N S M Ls) {k g : Nat} (hk : k < N) (hpl : M 0 k = 1 → M 1 k = nI g ∧ g < G) (h0 : ¬ M 0 k = 0) : ∃ M', LI (T + 1) G N (gxRest S k) M' (if M 0 k = 1 then lsU Ls g (wo (Ls g) k) else Ls) ∧ ∀ a b, a < 12 → M' a b = up2 M 0 k 0 a b := by
  have hx := x_callBack h hk
  have hh := h
  obtain ⟨hI, hL, hz, hp, t, ht, h83, h7⟩ := h
  have hN := hI.1
  have hG := hI.2.1
  have h9 : ¬ S 9 k = 0 := fun z => h0 ((hh.st hk).trans z)
  have hcb : xCb S k = none := if_neg h9
  rw [hcb] at hx
  obtain ⟨-, -, hI'⟩ := op_callBack hI (nI k) _ rfl
  rw [if_pos hx, cl_nI (show k < 12 by omega)] at hI'
  have eM : ∀ a b, mM_callBack M N G (nI k) a b = if a = 12 ∧ b = 0 then 0 else up2 M 0 k 0 a b := by
    intro a b
    unfold mM_callBack
    rw [if_neg (mGoat_ok hI hk), cl_nI (show k < 12 by omega), if_pos ((mIs0 (up2 M 12 0 0) k 0).mpr h0)]
    simp only [up2_at]
    by_cases e12 : a = 12 ∧ b = 0
    · simp [e12]
    · simp [e12]
  generalize mM_callBack M N G (nI k) = X at hI' eM
  have oth : ∀ a b, a < 12 → ¬ (a = 0 ∧ b = k) → X a b = M a b := fun a b ha hb => by
    rw [eM, if_neg (by omega), up2_at, if_neg hb]
  have X0 : X 0 k = 0 := by rw [eM, if_neg (by omega), up2_s]
  have hst : ∀ i, X 0 i = 1 → i ≠ k := fun i hi e => by rw [e, X0] at hi; exact absurd hi (by decide)
  refine ⟨X, ⟨hI', ?_, fun i hi a ha => ?_, fun g1 hg1 => ?_, t, by omega, ?_, fun i hi hi1 => ?_⟩, fun a b ha => by rw [eM, if_neg (by omega)]⟩
  · by_cases h1 : M 0 k = 1
    · rw [if_pos h1]
      obtain ⟨q1, q2⟩ := hpl h1
      exact hL.leave hG q2 q1 (by rw [X0]; decide) (fun i _ hik => oth 0 i (by omega) (fun z => hik z.2)) (fun i _ => ⟨oth 1 i (by omega) (by omega), oth 7 i (by omega) (by omega)⟩)
    · rw [if_neg h1]
      refine hL.congr (fun i hi => ⟨⟨fun z => ?_, fun z => ?_⟩, fun z => ⟨oth 1 i (by omega) (by omega), oth 7 i (by omega) (by omega)⟩⟩)
      · rw [← oth 0 i (by omega) (fun q => hst i z q.2)]; exact z
      · have : i ≠ k := fun e => h1 (e ▸ z)
        rw [oth 0 i (by omega) (fun q => this q.2)]; exact z
  · rw [oth a i (by omega) (by omega)]; exact hz i hi a ha
  · rw [oth 9 g1 (by omega) (by omega)]; exact hp g1 hg1
  · rw [oth 8 3 (by omega) (by omega)]; exact h83
  · have := hst i hi1
    rw [oth 0 i (by omega) (fun q => this q.2)] at hi1
    rw [oth 7 i (by omega) (by omega)]
    exact h7 i hi hi1
theorem min_7 (M : SS) (hN : N ≤ 12) : mMin M G N 7 = M 7 ∧ mMin M G N 8 3 = M 8 3 := by
  have w7 : ∀ (X : SS) (k : Nat), mWaT X k 7 = X 7 ∧ mWaT X k 8 3 = X 8 3 := fun X k => by
    unfold mWaT mWaA
    split
    · exact ⟨rfl, rfl⟩
    · split
      · refine ⟨?_, ?_⟩
        · rw [up2_r _ _ _ _ (by decide), up2_r _ _ _ _ (by decide), up2_r _ _ _ _ (by decide), up2_r _ _ _ _ (by decide)]
        · rw [up2_c _ _ _ _ (by decide)]; rfl
      · exact ⟨rfl, rfl⟩
  have w : ∀ (X : SS) n, mWa X n 7 = X 7 ∧ mWa X n 8 3 = X 8 3 := fun X n => by
    induction n with
    | zero => exact ⟨rfl, rfl⟩
    | succ n ih => exact ⟨(w7 _ n).1.trans ih.1, (w7 _ n).2.trans ih.2⟩
  have o : ∀ (X : SS) g n, mOpI X g N n 7 = X 7 ∧ mOpI X g N n 8 3 = X 8 3 := fun X g n => by
    induction n with
    | zero => exact ⟨rfl, rfl⟩
    | succ n ih => exact ⟨ih.1, ih.2⟩
  have p : ∀ g, mOp M N g 7 = M 7 ∧ mOp M N g 8 3 = M 8 3 := fun g => by
    induction g with
    | zero => exact ⟨mSt_7 M N, by show mSt M N 8 3 = M 8 3; rw [mSt_8]⟩
    | succ g ih => exact ⟨(o _ g _).1.trans ih.1, (o _ g _).2.trans ih.2⟩
  exact ⟨(w _ N).1.trans (p G).1, (w _ N).2.trans (p G).2⟩
theorem it_7 (M : SS) (hN : N ≤ 12) : ∀ n, mIt M G N n 7 = M 7 ∧ mIt M G N n 8 3 = M 8 3 ∧ (∀ k, k < N → mIt M G N n 0 k = 1 → M 0 k = 1) ∧ ∀ k, N ≤ k → ∀ a, a < 8 → mIt M G N n a k = M a k := by
  intro n
  induction n with
  | zero => exact ⟨rfl, rfl, fun _ _ h => h, fun _ _ _ _ => rfl⟩
  | succ n ih =>
    obtain ⟨i1, i2, i3, i4⟩ := ih
    have e : mIt M G N (n + 1) = mMin (mIt M G N n) G N := rfl
    rw [e]
    refine ⟨(min_7 _ hN).1.trans i1, (min_7 _ hN).2.trans i2, fun k hk h1 => ?_, fun k hk a ha => ?_⟩
    · exact i3 k hk ((mMin_st hN hk).2.1 h1)
    · exact (bey_min hN hk ha).trans (i4 k hk a ha)
theorem do_pass (h : LI T G N S M Ls) (n : Nat) {Ls1 : Nat → List Nat} (hL1 : Ln G N (mIt M G N n) Ls1) : LI T G N (gxIt S G N n) (mIt M G N n) Ls1 := by
  obtain ⟨hI, hL, hz, hp, t, ht, h83, h7⟩ := h
  obtain ⟨i1, i2, i3, i4⟩ := it_7 (G := G) M hI.1 n
  refine ⟨inv_it hI n, hL1, fun k hk a ha => by rw [i4 k hk a ha]; exact hz k hk a ha, fun g hg => by rw [mIt_r M G N (by decide) n]; exact hp g hg, t, ht, i2.trans h83, fun k hk h1 => ?_⟩
  rw [i1]
  exact h7 k hk (i3 k hk h1)
end DP
