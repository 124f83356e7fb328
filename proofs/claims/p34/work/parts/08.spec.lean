/-! What the class's methods do, as functions of the rows of a Scene: row 0 the numbers (minute, gates, goats, asked, let in), rows 5 to 16 its arrays in the order of the fields. -/
abbrev SS : Type := Nat → Nat → Int32
def up2 (S : SS) (k i : Nat) (v : Int32) : SS := fun a => if a = k then upd (S k) i v else S a
theorem up2_s (S : SS) (k i : Nat) (v : Int32) : up2 S k i v k i = v := by simp [up2, upd]
theorem up2_c (S : SS) (k i : Nat) (v : Int32) {j : Nat} (h : j ≠ i) : up2 S k i v k j = S k j := by simp [up2, upd, h]
theorem up2_r (S : SS) (k i : Nat) (v : Int32) {a : Nat} (h : a ≠ k) : up2 S k i v a = S a := by simp [up2, h]
theorem up2_at (S : SS) (k i : Nat) (v : Int32) (a j : Nat) : up2 S k i v a j = if a = k ∧ j = i then v else S a j := by
  unfold up2
  by_cases h : a = k
  · subst h
    by_cases h2 : j = i
    · simp [upd, h2]
    · simp [upd, h2]
  · simp [h]
/-- the world of one Scene -/
def sw (cI : ClassId) (o : Nat) (r : Nat → Nat) (S : SS) : va_W := [(o, .inr (0, [.int (S 0 0), .int (S 0 1), .int (S 0 2), .int (S 0 3), .int (S 0 4), .ref (r 5), .ref (r 6), .ref (r 7), .ref (r 8), .ref (r 9), .ref (r 10), .ref (r 11), .ref (r 12), .ref (r 13), .ref (r 14), .ref (r 15), .ref (r 16)])), (r 5, .inl (cI, 4, .inl (S 5))), (r 6, .inl (cI, 4, .inl (S 6))), (r 7, .inl (cI, 4, .inl (S 7))), (r 8, .inl (cI, 12, .inl (S 8))), (r 9, .inl (cI, 12, .inl (S 9))), (r 10, .inl (cI, 12, .inl (S 10))), (r 11, .inl (cI, 12, .inl (S 11))), (r 12, .inl (cI, 12, .inl (S 12))), (r 13, .inl (cI, 12, .inl (S 13))), (r 14, .inl (cI, 12, .inl (S 14))), (r 15, .inl (cI, 12, .inl (S 15))), (r 16, .inl (cI, 12, .inl (S 16)))]
def gxWt (S : SS) (i : Nat) (g : Int32) : Int32 := if S 9 i = 1 then (if S 10 i = g then 1 else 0) else 0
theorem gxWt_01 (S : SS) (i : Nat) (g : Int32) : gxWt S i g = 0 ∨ gxWt S i g = 1 := by
  unfold gxWt
  split
  · split
    · exact Or.inr rfl
    · exact Or.inl rfl
  · exact Or.inl rfl
def gxHeld (S : SS) (i : Nat) : Int32 := if S 9 i = 2 then S 11 i else 0
def gxSeem (S : SS) (i : Nat) : Int32 := S 8 i + S 15 i / 3
def gxFree (S : SS) (g : Nat) : Nat → Int32
  | 0 => S 5 g
  | n + 1 => if S 9 n = 2 then (if S 10 n = nI g then gxFree S g n - S 11 n else gxFree S g n) else gxFree S g n
def gxCnt (S : SS) (w : Int32) : Nat → Int32
  | 0 => 0
  | n + 1 => if S 9 n = w then gxCnt S w n + 1 else gxCnt S w n
def gxStv (S : SS) : Nat → Int32
  | 0 => 0
  | n + 1 => if S 9 n = 1 then (if S 15 n < 8 then gxStv S n else gxStv S n + 1) else gxStv S n
def gxWat (S : SS) (g : Int32) : Nat → Int32
  | 0 => 0
  | n + 1 => if gxWt S n g = 0 then gxWat S g n else gxWat S g n + 1
def gxAhd (S : SS) (j : Nat) : Nat → Int32
  | 0 => 0
  | n + 1 => if gxWt S n (S 10 j) = 0 then gxAhd S j n else (if S 14 j ≤ S 14 n then gxAhd S j n else gxAhd S j n + 1)
def gxGiv (S : SS) : Nat → Int32
  | 0 => 0
  | n + 1 => gxGiv S n + S 7 n
def gxSum (S : SS) : Nat → Int32
  | 0 => 0
  | n + 1 => gxSum S n + S 16 n
def gxRest (S : SS) (i : Nat) : SS := up2 (up2 (up2 (up2 S 9 i 0) 10 i (-1)) 13 i 0) 15 i 0
def gxOpn (S : SS) (G : Nat) (a b : Int32) : SS := up2 (up2 (up2 S 5 G a) 6 G b) 0 1 (S 0 1 + 1)
def gxBrg (S : SS) (N : Nat) (h : Int32) : SS := up2 (gxRest (up2 S 8 N h) N) 0 2 (S 0 2 + 1)
def gxLine (S : SS) (i : Nat) (g w mi wt : Int32) : SS := up2 (up2 (up2 (up2 (up2 (up2 (up2 S 9 i 1) 10 i g) 11 i w) 12 i mi) 13 i wt) 14 i (S 0 3)) 0 3 (S 0 3 + 1)
def gxEnt (S : SS) (i : Nat) (g t mi : Int32) : SS := up2 (up2 (up2 (up2 (up2 S 9 i 2) 10 i g) 11 i t) 13 i mi) 15 i 0
def gxLvT (T : SS) (i : Nat) : SS := if T 9 i = 2 then (if 0 < (up2 T 13 i (T 13 i - 1)) 13 i then up2 T 13 i (T 13 i - 1) else gxRest (up2 T 13 i (T 13 i - 1)) i) else T
def gxLv (S : SS) : Nat → SS
  | 0 => S
  | n + 1 => gxLvT (gxLv S n) n
def gxBh (S : SS) (g : Nat) : Int32 := if S 6 g = 1 then 1 else 0
def gxCo (S : SS) (fr bh : Int32) (g i : Nat) : Int32 := if gxWt S i (nI g) = 0 then 0 else (if bh = 0 then 1 else (if fr < S 11 i then 0 else 1))
def gxLn (S : SS) (bh : Int32) (i : Nat) : Int32 := if bh = 0 then 0 else gxSeem S i
def gxEr (S : SS) (f : Int32) (i : Nat) : Int32 := if f < 0 then 1 else (if S 14 f.toNatClampNeg ≤ S 14 i then 0 else 1)
def gxFiS (S : SS) (fr bh : Int32) (g i : Nat) (q : Int32 × Int32) : Int32 × Int32 := if gxCo S fr bh g i = 0 then q else (if q.2 < gxLn S bh i then (nI i, gxLn S bh i) else (if gxLn S bh i = q.2 then (if gxEr S q.1 i = 0 then q else (nI i, gxLn S bh i)) else q))
def gxFiL (S : SS) (fr bh : Int32) (g : Nat) : Nat → Int32 × Int32
  | 0 => (-1, 0)
  | n + 1 => gxFiS S fr bh g n (gxFiL S fr bh g n)
/-- the first's place: -1, or a number below n -/
theorem gxFiL_ix {S : SS} {fr bh : Int32} {g : Nat} : ∀ n, n ≤ 12 → ¬ (gxFiL S fr bh g n).1 < 0 → ∃ j, j < n ∧ (gxFiL S fr bh g n).1 = nI j := by
  intro n
  induction n with
  | zero => intro _ h; exact absurd (show (-1 : Int32) < 0 by decide) h
  | succ n ih =>
    intro hn h
    have key : (gxFiL S fr bh g (n + 1)).1 = (gxFiL S fr bh g n).1 ∨ (gxFiL S fr bh g (n + 1)).1 = nI n := by
      show (gxFiS S fr bh g n (gxFiL S fr bh g n)).1 = _ ∨ (gxFiS S fr bh g n (gxFiL S fr bh g n)).1 = _
      unfold gxFiS
      split
      · exact Or.inl rfl
      · split
        · exact Or.inr rfl
        · split
          · split
            · exact Or.inl rfl
            · exact Or.inr rfl
          · exact Or.inl rfl
    rcases key with e | e
    · rw [e] at h ⊢
      obtain ⟨j, h1, h2⟩ := ih (by omega) h
      exact ⟨j, by omega, h2⟩
    · exact ⟨n, by omega, e⟩
theorem gxFiL_cl {S : SS} {fr bh : Int32} {g : Nat} {n : Nat} (hn : n ≤ 12) (h : ¬ (gxFiL S fr bh g n).1 < 0) : (gxFiL S fr bh g n).1 = nI (gxFiL S fr bh g n).1.toNatClampNeg ∧ (gxFiL S fr bh g n).1.toNatClampNeg < n := by
  obtain ⟨j, h1, h2⟩ := gxFiL_ix n hn h
  rw [h2, nI_clamp (by omega)]
  exact ⟨rfl, h1⟩
def gxFiQ (S : SS) (g N : Nat) : Int32 := (gxFiL S (gxFree S g N) (gxBh S g) g N).1
def gxFiR (S : SS) (g N : Nat) : Int32 := if gxFiQ S g N < 0 then -1 else (if gxFree S g N < S 11 (gxFiQ S g N).toNatClampNeg then -1 else gxFiQ S g N)
theorem gxFiR_ix {S : SS} {g N : Nat} (hN : N ≤ 12) (h : ¬ gxFiR S g N < 0) : ∃ j, j < N ∧ gxFiR S g N = nI j := by
  unfold gxFiR at h ⊢
  split at h
  · exact absurd (by decide) h
  · rename_i h1
    rw [if_neg h1]
    split at h
    · exact absurd (by decide) h
    · rename_i h2
      rw [if_neg h2]
      exact gxFiL_ix N hN h1
def gxLiS (T : SS) (g N : Nat) : SS := up2 (gxEnt T (gxFiR T g N).toNatClampNeg (nI g) (T 11 (gxFiR T g N).toNatClampNeg) (T 12 (gxFiR T g N).toNatClampNeg)) 0 4 (T 0 4 + 1)
def gxLiI (S : SS) (g N : Nat) : Nat → SS
  | 0 => S
  | n + 1 => gxLiS (gxLiI S g N n) g N
/-- how many are let in, at most k -/
def gxLiK (g N : Nat) : Nat → SS → Nat
  | 0, _ => 0
  | k + 1, T => if gxFiR T g N < 0 then 0 else gxLiK g N k (gxLiS T g N) + 1
theorem gxLiK_le (g N : Nat) : ∀ k T, gxLiK g N k T ≤ k := by
  intro k
  induction k with
  | zero => intro T; exact Nat.le_refl 0
  | succ k ih =>
    intro T
    unfold gxLiK
    split
    · exact Nat.zero_le _
    · exact Nat.succ_le_succ (ih _)
theorem gxLiI_s (S : SS) (g N : Nat) : ∀ n, gxLiI (gxLiS S g N) g N n = gxLiI S g N (n + 1) := by
  intro n
  induction n with
  | zero => rfl
  | succ n ih => show gxLiS _ g N = gxLiS _ g N; rw [ih]
theorem gxLiK_no {g N : Nat} : ∀ k T i, i < gxLiK g N k T → ¬ gxFiR (gxLiI T g N i) g N < 0 := by
  intro k
  induction k with
  | zero => intro T i h; exact absurd h (Nat.not_lt_zero i)
  | succ k ih =>
    intro T i h
    unfold gxLiK at h
    split at h
    · exact absurd h (Nat.not_lt_zero i)
    · rename_i h1
      cases i with
      | zero => exact h1
      | succ i => rw [← gxLiI_s]; exact ih _ i (by omega)
theorem gxLiK_yes {g N : Nat} : ∀ k T, gxLiK g N k T < k → gxFiR (gxLiI T g N (gxLiK g N k T)) g N < 0 := by
  intro k
  induction k with
  | zero => intro T h; exact absurd h (Nat.not_lt_zero _)
  | succ k ih =>
    intro T h
    unfold gxLiK at h ⊢
    split at h
    · rename_i h1; rw [if_pos h1]; exact h1
    · rename_i h1
      rw [if_neg h1, ← gxLiI_s]
      exact ih _ (by omega)
def gxLiF (S : SS) (g N : Nat) : SS := gxLiI S g N (gxLiK g N N S)
def gxWoA (T : SS) (i : Nat) : SS := up2 (up2 (up2 T 15 i (T 15 i + 1)) 16 i (T 16 i + 1)) 13 i (T 13 i - 1)
def gxWoT (T : SS) (g i : Nat) : SS := if gxWt T i (nI g) = 0 then T else (if 0 < gxWoA T i 13 i then gxWoA T i else up2 (gxRest (gxWoA T i) i) 7 g (gxRest (gxWoA T i) i 7 g + 1))
def gxWo (S : SS) (g : Nat) : Nat → SS
  | 0 => S
  | n + 1 => gxWoT (gxWo S g n) g n
def gxLg (S : SS) (N : Nat) : Nat → SS
  | 0 => gxLv S N
  | n + 1 => gxLiF (gxLg S N n) n N
def gxWg (S : SS) (N G : Nat) : Nat → SS
  | 0 => gxLg S N G
  | n + 1 => gxWo (gxWg S N G n) n N
def gxMin (S : SS) (G N : Nat) : SS := up2 (gxWg S N G G) 0 0 (gxWg S N G G 0 0 + 1)
-- the numbers of row 0 that stay
theorem gxRest_0 (S : SS) (i : Nat) : gxRest S i 0 = S 0 := rfl
theorem gxEnt_0 (S : SS) (i : Nat) (g t mi : Int32) : gxEnt S i g t mi 0 = S 0 := rfl
theorem gxLvT_0 (T : SS) (i : Nat) : gxLvT T i 0 = T 0 := by
  unfold gxLvT
  split
  · split
    · rfl
    · rfl
  · rfl
theorem gxLv_0 (S : SS) : ∀ n, gxLv S n 0 = S 0 := by
  intro n
  induction n with
  | zero => rfl
  | succ n ih => exact (gxLvT_0 _ n).trans ih
theorem gxLiS_0 (T : SS) (g N : Nat) {c : Nat} (h : c ≠ 4) : gxLiS T g N 0 c = T 0 c := by
  unfold gxLiS
  rw [up2_c _ _ _ _ h]
  rfl
theorem gxLiI_0 (S : SS) (g N : Nat) {c : Nat} (h : c ≠ 4) : ∀ n, gxLiI S g N n 0 c = S 0 c := by
  intro n
  induction n with
  | zero => rfl
  | succ n ih => exact (gxLiS_0 _ g N h).trans ih
theorem gxLiF_0 (S : SS) (g N : Nat) {c : Nat} (h : c ≠ 4) : gxLiF S g N 0 c = S 0 c := gxLiI_0 S g N h _
theorem gxWoT_0 (T : SS) (g i : Nat) : gxWoT T g i 0 = T 0 := by
  unfold gxWoT
  split
  · rfl
  · split
    · rfl
    · rfl
theorem gxWo_0 (S : SS) (g : Nat) : ∀ n, gxWo S g n 0 = S 0 := by
  intro n
  induction n with
  | zero => rfl
  | succ n ih => exact (gxWoT_0 _ g n).trans ih
theorem gxLg_0 (S : SS) (N : Nat) {c : Nat} (h : c ≠ 4) : ∀ n, gxLg S N n 0 c = S 0 c := by
  intro n
  induction n with
  | zero => exact congrFun (gxLv_0 S N) c
  | succ n ih => exact (gxLiF_0 _ n N h).trans ih
theorem gxWg_0 (S : SS) (N G : Nat) {c : Nat} (h : c ≠ 4) : ∀ n, gxWg S N G n 0 c = S 0 c := by
  intro n
  induction n with
  | zero => exact gxLg_0 S N h G
  | succ n ih => exact (congrFun (gxWo_0 _ n N) c).trans ih
theorem gxMin_0 (S : SS) (G N : Nat) {c : Nat} (h : c ≠ 4) (h0 : c ≠ 0) : gxMin S G N 0 c = S 0 c := by
  unfold gxMin
  rw [up2_c _ _ _ _ h0]
  exact gxWg_0 S N G h G
