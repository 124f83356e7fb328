/-! One minute in both: who waits on, who gives up. -/
def isum (f : Nat → Int32) : Nat → Int32
  | 0 => 0
  | n + 1 => isum f n + f n
theorem isum_congr {f g : Nat → Int32} : ∀ n, (∀ k, k < n → f k = g k) → isum f n = isum g n := by
  intro n
  induction n with
  | zero => intro _; rfl
  | succ n ih =>
    intro h
    show isum f n + f n = isum g n + g n
    rw [ih (fun k hk => h k (by omega)), h n (by omega)]
theorem i4 (a b c d : Int32) : a + b + (c + d) = a + c + (b + d) := by
  rw [Int32.add_assoc, Int32.add_assoc, ← Int32.add_assoc b c d, ← Int32.add_assoc c b d, Int32.add_comm b c]
theorem isum_add (f g : Nat → Int32) : ∀ n, isum (fun k => f k + g k) n = isum f n + isum g n := by
  intro n
  induction n with
  | zero => rfl
  | succ n ih =>
    show isum (fun k => f k + g k) n + (f n + g n) = isum f n + f n + (isum g n + g n)
    rw [ih, i4]
theorem isum_zero : ∀ n, isum (fun _ => 0) n = 0 := by
  intro n
  induction n with
  | zero => rfl
  | succ n ih =>
    show isum (fun _ => 0) n + 0 = 0
    rw [ih]; rfl
theorem isum_swap (F : Nat → Nat → Int32) (n : Nat) : ∀ m, isum (fun g => isum (F g) n) m = isum (fun k => isum (fun g => F g k) m) n := by
  intro m
  induction m with
  | zero => exact (isum_zero n).symm
  | succ m ih =>
    show isum (fun g => isum (F g) n) m + isum (F m) n = isum (fun k => isum (fun g => F g k) m + F m k) n
    rw [ih, isum_add]
theorem isum_no {f : Nat → Int32} (m : Nat) (h : ∀ g, g < m → f g = 0) : isum f m = 0 := (isum_congr m h).trans (isum_zero m)
theorem isum_one {f : Nat → Int32} {d : Int32} {j : Nat} (hj : f j = d) : ∀ m, j < m → (∀ g, g < m → g ≠ j → f g = 0) → isum f m = d := by
  intro m
  induction m with
  | zero => intro h _; omega
  | succ m ih =>
    intro h ho
    show isum f m + f m = d
    by_cases e : j = m
    · subst e
      rw [isum_no j (fun g hg => ho g (by omega) (by omega)), hj, Int32.zero_add]
    · rw [ih (by omega) (fun g hg h2 => ho g (by omega) h2), ho m (by omega) (by omega), Int32.add_zero]
theorem giv_isum (S : SS) : ∀ G, gxGiv S G = isum (S 7) G := by
  intro G
  induction G with
  | zero => rfl
  | succ G ih =>
    show gxGiv S G + S 7 G = isum (S 7) G + S 7 G
    rw [ih]
/-- a waiting goat's column after its wait -/
def scA (s : Nat → Int32) : Nat → Int32 := fun a => if a = 15 then s 15 + 1 else if a = 16 then s 16 + 1 else if a = 13 then s 13 - 1 else s a
def sc (s : Nat → Int32) : Nat → Int32 := fun a => if 0 < s 13 - 1 then scA s a else (if a = 9 then 0 else if a = 10 then -1 else if a = 13 then 0 else if a = 15 then 0 else scA s a)
def dS (s : Nat → Int32) : Int32 := if 0 < s 13 - 1 then 0 else 1
def wc (m : Nat → Int32) : Nat → Int32 := fun a => if m 0 = 1 then (if a = 5 then m 5 + 1 else if a = 6 then m 6 + 1 else if a = 0 then (if m 4 ≤ m 5 + 1 then 0 else 1) else m a) else m a
def dM (m : Nat → Int32) : Int32 := if m 0 = 1 then (if m 4 ≤ m 5 + 1 then 1 else 0) else 0
theorem gxWoA_at (T : SS) (i a k : Nat) : gxWoA T i a k = if k = i then (if a = 15 then T 15 i + 1 else if a = 16 then T 16 i + 1 else if a = 13 then T 13 i - 1 else T a k) else T a k := by
  unfold gxWoA
  simp only [up2_at]
  by_cases hk : k = i
  · subst hk
    by_cases h15 : a = 15
    · subst h15; simp
    · by_cases h16 : a = 16
      · subst h16; simp
      · by_cases h13 : a = 13
        · subst h13; simp
        · simp [h15, h16, h13]
  · simp [hk]
theorem gxWoT_col {T : SS} {g i : Nat} (hw : ¬ gxWt T i (nI g) = 0) {a : Nat} (ha : 8 ≤ a) : gxWoT T g i a i = sc (co T i) a := by
  have e13 : gxWoA T i 13 i = T 13 i - 1 := by rw [gxWoA_at]; simp
  unfold gxWoT sc
  rw [if_neg hw, e13]
  show (if (0 : Int32) < T 13 i - 1 then gxWoA T i else up2 (gxRest (gxWoA T i) i) 7 g (gxRest (gxWoA T i) i 7 g + 1)) a i = if (0 : Int32) < T 13 i - 1 then scA (co T i) a else _
  by_cases h : (0 : Int32) < T 13 i - 1
  · rw [if_pos h, if_pos h, gxWoA_at]
    simp [scA, co]
  · rw [if_neg h, if_neg h, up2_at, if_neg (by omega)]
    unfold gxRest
    simp only [up2_at, gxWoA_at]
    by_cases h15 : a = 15
    · subst h15; simp
    · by_cases h13 : a = 13
      · subst h13; simp
      · by_cases h10 : a = 10
        · subst h10; simp
        · by_cases h9 : a = 9
          · subst h9; simp
          · simp [h15, h13, h10, h9, scA, co]
theorem gxWoT_k {T : SS} {g i k : Nat} (hk : k ≠ i) {a : Nat} (ha : 8 ≤ a) : gxWoT T g i a k = T a k := by
  unfold gxWoT
  split
  · rfl
  · split
    · rw [gxWoA_at, if_neg hk]
    · rw [up2_at, if_neg (by omega), gxRest_k _ hk, gxWoA_at, if_neg hk]
theorem gxWoT_7 (T : SS) (g i x : Nat) : gxWoT T g i 7 x = if x = g then T 7 g + (if gxWt T i (nI g) = 0 then 0 else dS (co T i)) else T 7 x := by
  have e13 : gxWoA T i 13 i = T 13 i - 1 := by rw [gxWoA_at]; simp
  have e7 : ∀ x, gxWoA T i 7 x = T 7 x := fun x => by rw [gxWoA_at]; simp
  have r7 : ∀ x, gxRest (gxWoA T i) i 7 x = T 7 x := fun x => by rw [← e7 x]; rfl
  unfold gxWoT
  by_cases hw : gxWt T i (nI g) = 0
  · rw [if_pos hw, if_pos hw]
    by_cases hx : x = g
    · subst hx; rw [if_pos rfl, Int32.add_zero]
    · rw [if_neg hx]
  · rw [if_neg hw, if_neg hw, e13]
    show (if (0 : Int32) < T 13 i - 1 then gxWoA T i else up2 (gxRest (gxWoA T i) i) 7 g (gxRest (gxWoA T i) i 7 g + 1)) 7 x = if x = g then T 7 g + (if (0 : Int32) < T 13 i - 1 then 0 else 1) else T 7 x
    by_cases h : (0 : Int32) < T 13 i - 1
    · rw [if_pos h, if_pos h, e7]
      by_cases hx : x = g
      · subst hx; rw [if_pos rfl, Int32.add_zero]
      · rw [if_neg hx]
    · rw [if_neg h, if_neg h, up2_at, r7, r7]
      by_cases hx : x = g
      · subst hx; simp
      · rw [if_neg hx, if_neg (fun z => hx z.2)]
theorem gxWoT_r (T : SS) (g i : Nat) {a : Nat} (ha : a < 7 ∨ a = 8) : gxWoT T g i a = T a := by
  have eA : gxWoA T i a = T a := by
    unfold gxWoA
    rw [up2_r _ _ _ _ (by omega), up2_r _ _ _ _ (by omega), up2_r _ _ _ _ (by omega)]
  have eR : gxRest (gxWoA T i) i a = T a := by
    unfold gxRest
    rw [up2_r _ _ _ _ (by omega), up2_r _ _ _ _ (by omega), up2_r _ _ _ _ (by omega), up2_r _ _ _ _ (by omega), eA]
  unfold gxWoT
  split
  · rfl
  · split
    · exact eA
    · rw [up2_r _ _ _ _ (by omega), eR]
theorem gxWo_r (T : SS) (g : Nat) {a : Nat} (ha : a < 7 ∨ a = 8) : ∀ n, gxWo T g n a = T a := by
  intro n
  induction n with
  | zero => rfl
  | succ n ih => exact (gxWoT_r _ g n ha).trans ih
theorem wt_congr {T X : SS} {k : Nat} (h9 : X 9 k = T 9 k) (h10 : X 10 k = T 10 k) (g : Int32) : gxWt X k g = gxWt T k g := by
  unfold gxWt
  rw [h9, h10]
theorem sc_congr {s t : Nat → Int32} (h : ∀ a, 8 ≤ a → s a = t a) {a : Nat} (ha : 8 ≤ a) : sc s a = sc t a := by
  unfold sc scA
  rw [h 13 (by omega), h 15 (by omega), h 16 (by omega), h a ha]
/-- one gate's goats -/
theorem gxWo_col (T : SS) (g : Nat) : ∀ n k a, 8 ≤ a → gxWo T g n a k = if k < n ∧ ¬ gxWt T k (nI g) = 0 then sc (co T k) a else T a k := by
  intro n
  induction n with
  | zero => intro k a _; rw [if_neg (by omega)]; rfl
  | succ n ih =>
    intro k a ha
    show gxWoT (gxWo T g n) g n a k = _
    have same : ∀ a, 8 ≤ a → gxWo T g n a n = T a n := fun a ha => by rw [ih n a ha, if_neg (by omega)]
    by_cases hk : k = n
    · subst hk
      have ew : gxWt (gxWo T g k) k (nI g) = gxWt T k (nI g) := wt_congr (same 9 (by omega)) (same 10 (by omega)) _
      by_cases hw : gxWt T k (nI g) = 0
      · rw [if_neg (fun z => z.2 hw)]
        unfold gxWoT
        rw [if_pos (ew.trans hw)]
        exact same a ha
      · rw [if_pos ⟨by omega, hw⟩, gxWoT_col (by rw [ew]; exact hw) ha]
        exact sc_congr same ha
    · rw [gxWoT_k hk ha, ih k a ha]
      have e : (k < n) = (k < n + 1) := by apply propext; omega
      simp only [e]
theorem gxWo_7 (T : SS) (g : Nat) : ∀ n x, gxWo T g n 7 x = if x = g then T 7 g + isum (fun k => if gxWt T k (nI g) = 0 then 0 else dS (co T k)) n else T 7 x := by
  intro n
  induction n with
  | zero =>
    intro x
    show T 7 x = _
    by_cases hx : x = g
    · subst hx; rw [if_pos rfl]; exact (Int32.add_zero _).symm
    · rw [if_neg hx]
  | succ n ih =>
    intro x
    show gxWoT (gxWo T g n) g n 7 x = _
    have same : ∀ a, 8 ≤ a → gxWo T g n a n = T a n := fun a ha => by rw [gxWo_col T g n n a ha, if_neg (by omega)]
    have ew : gxWt (gxWo T g n) n (nI g) = gxWt T n (nI g) := wt_congr (same 9 (by omega)) (same 10 (by omega)) _
    have ed : dS (co (gxWo T g n) n) = dS (co T n) := by unfold dS; rw [show co (gxWo T g n) n 13 = co T n 13 from same 13 (by omega)]
    rw [gxWoT_7, ew, ed, ih g, ih x, if_pos rfl]
    by_cases hx : x = g
    · rw [if_pos hx, if_pos hx, Int32.add_assoc]
      rfl
    · rw [if_neg hx, if_neg hx, if_neg hx]
