/-! The tower: two Scenes; what its methods do, as functions of the first one's rows. -/
theorem gx_cellc {cI : ClassId} {n : Nat} {f g : Nat → Int32} (h : ∀ j, j < n → f j = g j) : vp_cell cI (n, .inl f) = vp_cell cI (n, .inl g) := by
  rw [vp_cell_i, vp_cell_i]
  unfold arrV
  congr 2
  funext j
  show Value.int (f j.val) = Value.int (g j.val)
  rw [h j.val j.isLt]
/-- two states that agree where the arrays reach -/
def swEq (X T : SS) : Prop := (∀ c, c < 5 → X 0 c = T 0 c) ∧ (∀ k, 5 ≤ k → k < 8 → ∀ i, i < 4 → X k i = T k i) ∧ ∀ k, 8 ≤ k → k < 17 → ∀ i, i < 12 → X k i = T k i
theorem sw_fst (cI : ClassId) (o : Nat) (r : Nat → Nat) (X T : SS) : (sw cI o r X).map Prod.fst = (sw cI o r T).map Prod.fst := rfl
theorem sw_same {D : va_G} {cI : ClassId} {o : Nat} {r : Nat → Nat} {X T : SS} (h : swEq X T) (wa : va_W) {H : Heap} (hP : va_P D vwCl (wa ++ sw cI o r X) H) : va_P D vwCl (wa ++ sw cI o r T) H := by
  rw [gt_Pm] at hP ⊢
  have a1 : ∀ (k n : Nat) (f g : Nat → Int32), (r k, (.inl (cI, n, .inl f) : va_E)) ∈ sw cI o r X → (∀ j, j < n → f j = g j) → va_at D vwCl (r k, .inl (cI, n, .inl g)) H := by
    intro k n f g hm he
    have h1 := hP _ (List.mem_append_right _ hm)
    show H[r k]? = some (vp_cell cI (n, .inl g))
    rw [← gx_cellc he]
    exact h1
  intro q hq
  rcases List.mem_append.mp hq with hq | hq
  · exact hP q (List.mem_append_left _ hq)
  · obtain ⟨h0, h1, h2⟩ := h
    unfold sw at hq
    simp only [List.mem_cons, List.not_mem_nil, or_false] at hq
    rcases hq with rfl | rfl | rfl | rfl | rfl | rfl | rfl | rfl | rfl | rfl | rfl | rfl | rfl
    · rw [← h0 0 (by decide), ← h0 1 (by decide), ← h0 2 (by decide), ← h0 3 (by decide), ← h0 4 (by decide)]
      exact hP _ (List.mem_append_right _ List.mem_cons_self)
    · exact a1 5 4 (X 5) (T 5) (by simp [sw]) (fun j hj => h1 5 (by decide) (by decide) j hj)
    · exact a1 6 4 (X 6) (T 6) (by simp [sw]) (fun j hj => h1 6 (by decide) (by decide) j hj)
    · exact a1 7 4 (X 7) (T 7) (by simp [sw]) (fun j hj => h1 7 (by decide) (by decide) j hj)
    · exact a1 8 12 (X 8) (T 8) (by simp [sw]) (fun j hj => h2 8 (by decide) (by decide) j hj)
    · exact a1 9 12 (X 9) (T 9) (by simp [sw]) (fun j hj => h2 9 (by decide) (by decide) j hj)
    · exact a1 10 12 (X 10) (T 10) (by simp [sw]) (fun j hj => h2 10 (by decide) (by decide) j hj)
    · exact a1 11 12 (X 11) (T 11) (by simp [sw]) (fun j hj => h2 11 (by decide) (by decide) j hj)
    · exact a1 12 12 (X 12) (T 12) (by simp [sw]) (fun j hj => h2 12 (by decide) (by decide) j hj)
    · exact a1 13 12 (X 13) (T 13) (by simp [sw]) (fun j hj => h2 13 (by decide) (by decide) j hj)
    · exact a1 14 12 (X 14) (T 14) (by simp [sw]) (fun j hj => h2 14 (by decide) (by decide) j hj)
    · exact a1 15 12 (X 15) (T 15) (by simp [sw]) (fun j hj => h2 15 (by decide) (by decide) j hj)
    · exact a1 16 12 (X 16) (T 16) (by simp [sw]) (fun j hj => h2 16 (by decide) (by decide) j hj)
theorem gt_Dsame {A : Nat → Prop} {w1 w2 : va_W} (h : w1.map Prod.fst = w2.map Prod.fst) (hD : va_D A w1) : va_D A w2 := by
  rw [gt_Dm] at hD ⊢
  refine ⟨by rw [← h]; exact hD.1, fun q hq => ?_⟩
  have hm : q.1 ∈ w1.map Prod.fst := by rw [h]; exact List.mem_map_of_mem hq
  obtain ⟨q', hq', he⟩ := List.mem_map.mp hm
  rw [← he]
  exact hD.2 q' hq'
-- become
def gxCa (X T : SS) : Nat → SS
  | 0 => X
  | n + 1 => up2 (up2 (up2 (gxCa X T n) 5 n (T 5 n)) 6 n (T 6 n)) 7 n (T 7 n)
def gxCb (X T : SS) : Nat → SS
  | 0 => X
  | n + 1 => up2 (up2 (up2 (up2 (up2 (up2 (up2 (up2 (up2 (gxCb X T n) 8 n (T 8 n)) 9 n (T 9 n)) 10 n (T 10 n)) 11 n (T 11 n)) 12 n (T 12 n)) 13 n (T 13 n)) 14 n (T 14 n)) 15 n (T 15 n)) 16 n (T 16 n)
theorem gxCa_at (X T : SS) : ∀ n k i, gxCa X T n k i = if (k = 5 ∨ k = 6 ∨ k = 7) ∧ i < n then T k i else X k i := by
  intro n
  induction n with
  | zero => intro k i; simp [gxCa]
  | succ n ih =>
    intro k i
    show up2 _ 7 n (T 7 n) k i = _
    simp only [up2_at, ih]
    by_cases h5 : k = 5
    · subst h5; by_cases hi : i = n
      · subst hi; simp
      · have e : (i < n + 1) = (i < n) := by simp; omega
        simp [hi, e]
    · by_cases h6 : k = 6
      · subst h6; by_cases hi : i = n
        · subst hi; simp
        · have e : (i < n + 1) = (i < n) := by simp; omega
          simp [hi, e]
      · by_cases h7 : k = 7
        · subst h7; by_cases hi : i = n
          · subst hi; simp
          · have e : (i < n + 1) = (i < n) := by simp; omega
            simp [hi, e]
        · simp [h5, h6, h7]
theorem gxCb_at (X T : SS) : ∀ n k i, gxCb X T n k i = if (8 ≤ k ∧ k < 17) ∧ i < n then T k i else X k i := by
  intro n
  induction n with
  | zero => intro k i; simp [gxCb]
  | succ n ih =>
    intro k i
    show up2 _ 16 n (T 16 n) k i = _
    simp only [up2_at, ih]
    by_cases hk : 8 ≤ k ∧ k < 17
    · by_cases hi : i = n
      · subst hi
        have : k = 8 ∨ k = 9 ∨ k = 10 ∨ k = 11 ∨ k = 12 ∨ k = 13 ∨ k = 14 ∨ k = 15 ∨ k = 16 := by omega
        rcases this with h | h | h | h | h | h | h | h | h <;> subst h <;> simp
      · have e : (i < n + 1) = (i < n) := by simp; omega
        simp [hi, hk, e]
    · have : k ≠ 8 ∧ k ≠ 9 ∧ k ≠ 10 ∧ k ≠ 11 ∧ k ≠ 12 ∧ k ≠ 13 ∧ k ≠ 14 ∧ k ≠ 15 ∧ k ≠ 16 := by omega
      obtain ⟨h1, h2, h3, h4, h5, h6, h7, h8, h9⟩ := this
      simp [hk, h1, h2, h3, h4, h5, h6, h7, h8, h9]
def gxHd (S T : SS) : SS := up2 (up2 (up2 (up2 (up2 S 0 0 (T 0 0)) 0 1 (T 0 1)) 0 2 (T 0 2)) 0 3 (T 0 3)) 0 4 (T 0 4)
theorem gxCopy_eq (S T : SS) : swEq (gxCb (gxCa (gxHd S T) T 4) T 12) T := by
  refine ⟨fun c hc => ?_, fun k h1 h2 i hi => ?_, fun k h1 h2 i hi => ?_⟩
  · rw [gxCb_at, if_neg (by omega), gxCa_at, if_neg (by omega)]
    have : c = 0 ∨ c = 1 ∨ c = 2 ∨ c = 3 ∨ c = 4 := by omega
    rcases this with h | h | h | h | h <;> subst h <;> simp [gxHd, up2_at]
  · rw [gxCb_at, if_neg (by omega), gxCa_at, if_pos (by omega)]
  · rw [gxCb_at, if_pos (by omega)]
-- the first of some
def gxF (p : Nat → Bool) : Nat → Nat
  | 0 => 0
  | n + 1 => if gxF p n < n then gxF p n else (if p n = true then n else n + 1)
theorem gxF_le (p : Nat → Bool) : ∀ n, gxF p n ≤ n := by
  intro n
  induction n with
  | zero => exact Nat.le_refl 0
  | succ n ih =>
    show (if gxF p n < n then gxF p n else (if p n = true then n else n + 1)) ≤ n + 1
    split
    · omega
    · split <;> omega
theorem gxF_no (p : Nat → Bool) : ∀ n i, i < gxF p n → p i = false := by
  intro n
  induction n with
  | zero => intro i h; exact absurd h (Nat.not_lt_zero i)
  | succ n ih =>
    intro i h
    have hle := gxF_le p n
    by_cases h1 : gxF p n < n
    · have e : gxF p (n + 1) = gxF p n := if_pos h1
      exact ih i (by rw [← e]; exact h)
    · have e : gxF p (n + 1) = if p n = true then n else n + 1 := if_neg h1
      by_cases h2 : p n = true
      · rw [e, if_pos h2] at h
        exact ih i (by omega)
      · rw [e, if_neg h2] at h
        by_cases hi : i = n
        · subst hi; simpa using h2
        · exact ih i (by omega)
theorem gxF_yes (p : Nat → Bool) : ∀ n, gxF p n < n → p (gxF p n) = true := by
  intro n
  induction n with
  | zero => intro h; exact absurd h (Nat.not_lt_zero _)
  | succ n ih =>
    intro h
    by_cases h1 : gxF p n < n
    · have e : gxF p (n + 1) = gxF p n := if_pos h1
      rw [e]; exact ih h1
    · have e : gxF p (n + 1) = if p n = true then n else n + 1 := if_neg h1
      by_cases h2 : p n = true
      · rw [e, if_pos h2]; exact h2
      · rw [e, if_neg h2] at h; omega
-- what is thrown
def xGate (S : SS) (g : Int32) : Option String := if g < 0 then some gxIO else (if g < S 0 1 then none else some gxIO)
def xGoat (S : SS) (k : Int32) : Option String := if k < 0 then some gxIO else (if k < S 0 2 then none else some gxIO)
def xNum (n most : Int32) : Option String := if n < 1 then some gxIA else (if n ≤ most then none else some gxIA)
def xIdle (S : SS) (i : Nat) : Option String := if S 9 i = 0 then none else some gxIS
def xOrd (b : Int32) : Option String := if b = 0 then none else (if b = 1 then none else some gxIA)
def xRg (S : SS) : Option String := if S 0 1 < 4 then none else some gxIS
def xRk (S : SS) : Option String := if S 0 2 < 12 then none else some gxIS
def xCb (S : SS) (i : Nat) : Option String := if S 9 i = 0 then some gxIS else none
def xFr (S : SS) (j N : Nat) (w : Int32) : Option String := if w ≤ gxFree S j N then none else some gxIS
theorem xGate_n {S : SS} {g : Int32} {G : Nat} (hG : S 0 1 = nI G) (hG4 : G ≤ 4) (h : xGate S g = none) : ∃ j, j < G ∧ g = nI j := by
  unfold xGate at h
  split at h
  · cases h
  · rename_i h1
    split at h
    · rename_i h2
      obtain ⟨j, hj, e⟩ := nI_of h1
      refine ⟨j, ?_, e⟩
      rw [e, hG] at h2
      exact (nI_ltI hj (by omega)).mp h2
    · cases h
theorem xGoat_n {S : SS} {k : Int32} {N : Nat} (hN : S 0 2 = nI N) (hN12 : N ≤ 12) (h : xGoat S k = none) : ∃ i, i < N ∧ k = nI i := by
  unfold xGoat at h
  split at h
  · cases h
  · rename_i h1
    split at h
    · rename_i h2
      obtain ⟨j, hj, e⟩ := nI_of h1
      refine ⟨j, ?_, e⟩
      rw [e, hN] at h2
      exact (nI_ltI hj (by omega)).mp h2
    · cases h
theorem xNum_n {n : Int32} {M : Nat} (hM : M < 2 ^ 31) (h : xNum n (nI M) = none) : ∃ i, 1 ≤ i ∧ i ≤ M ∧ n = nI i := by
  unfold xNum at h
  split at h
  · cases h
  · rename_i h1
    split at h
    · rename_i h2
      obtain ⟨j, hj, e⟩ := nI_of (x := n) (fun q => h1 (Int32.lt_of_lt_of_le q (by decide)))
      rw [e] at h1 h2
      refine ⟨j, ?_, (nI_leI hj hM).mp h2, e⟩
      have : ¬ j < 1 := fun q => h1 ((nI_ltI (a := j) (b := 1) hj (by decide)).mpr q)
      omega
    · cases h
theorem xGate_ok {S : SS} {G j : Nat} (hG : S 0 1 = nI G) (hG4 : G ≤ 4) (h : j < G) : xGate S (nI j) = none := by
  unfold xGate
  rw [if_neg (nI_pos (by omega)), if_pos (by rw [hG]; exact nI_lt h (by omega))]
theorem xGoat_ok {S : SS} {N i : Nat} (hN : S 0 2 = nI N) (hN12 : N ≤ 12) (h : i < N) : xGoat S (nI i) = none := by
  unfold xGoat
  rw [if_neg (nI_pos (by omega)), if_pos (by rw [hN]; exact nI_lt h (by omega))]
-- what would be
def gxIt (S : SS) (G N : Nat) : Nat → SS
  | 0 => S
  | n + 1 => gxMin (gxIt S G N n) G N
theorem gxIt_0 (S : SS) (G N : Nat) {c : Nat} (h : c ≠ 4) (h0 : c ≠ 0) : ∀ n, gxIt S G N n 0 c = S 0 c := by
  intro n
  induction n with
  | zero => rfl
  | succ n ih => exact (gxMin_0 _ G N h h0).trans ih
def gxUnN (S : SS) (G N k : Nat) : Nat := gxF (fun i => decide (gxIt S G N i 9 k ≠ 1)) 60
def gxUn (S : SS) (G N k : Nat) : Int32 := if nI (gxUnN S G N k) ≤ 0 then -1 else (if gxIt S G N (gxUnN S G N k) 9 k = 2 then nI (gxUnN S G N k) else -1)
def gxGuS (S : SS) (j : Nat) (p o : Int32) : SS := up2 (up2 S 5 j p) 6 j o
def gxGuN (S : SS) (G N j : Nat) (p o : Int32) : Nat := gxF (fun i => decide (gxWat (gxIt (gxGuS S j p o) G N i) (nI j) N ≤ 0)) 60
def gxGuT (S : SS) (G N j : Nat) (p o : Int32) : SS := gxIt (gxGuS S j p o) G N (gxGuN S G N j p o)
def gxGu (S : SS) (G N j : Nat) (p o : Int32) : Int32 := gxGuT S G N j p o 7 j - S 7 j
def gxPwT (S T : SS) (G N j : Nat) : Nat → SS
  | 0 => T
  | n + 1 => gxGuT S G N j (S 5 j + nI n) (S 6 j)
def gxPwN (S : SS) (G N j : Nat) : Nat := gxF (fun i => decide (gxGu S G N j (S 5 j + nI i) (S 6 j) = 0)) 10
def gxPw (S : SS) (G N j : Nat) : Int32 := if gxPwN S G N j < 10 then nI (gxPwN S G N j) else -1
def gxPwF (S T : SS) (G N j : Nat) : SS := if gxPwN S G N j < 10 then gxPwT S T G N j (gxPwN S G N j + 1) else gxPwT S T G N j (gxPwN S G N j)
def gxBo (S : SS) (G N j : Nat) : Int32 := if gxGu S G N j (S 5 j) 0 ≤ gxGu S G N j (S 5 j) 1 then 0 else 1
def gxPl (S : SS) (N k : Nat) : Int32 := if S 9 k = 1 then gxAhd S k N else -1
/-- the tower's world -/
def tw (cI : ClassId) (t o : Nat) (r : Nat → Nat) (S : SS) (o1 : Nat) (r1 : Nat → Nat) (T : SS) : va_W := (t, .inr (1, [.ref o, .ref o1])) :: (sw cI o r S ++ sw cI o1 r1 T)
theorem xRg_n {S : SS} {G : Nat} (hG : S 0 1 = nI G) (hG4 : G ≤ 4) (h : xRg S = none) : G < 4 := by
  unfold xRg at h
  split at h
  · rename_i h1
    rw [hG] at h1
    exact (nI_ltI (a := G) (b := 4) (by omega) (by decide)).mp h1
  · cases h
theorem xRk_n {S : SS} {N : Nat} (hN : S 0 2 = nI N) (hN12 : N ≤ 12) (h : xRk S = none) : N < 12 := by
  unfold xRk at h
  split at h
  · rename_i h1
    rw [hN] at h1
    exact (nI_ltI (a := N) (b := 12) (by omega) (by decide)).mp h1
  · cases h
