/-! The reference: its rows M: 0 to 7 what is told of each goat (state, gate, many, left, most wait, this, total, turn), 8 minute, let in, given up, asked; 9 permits, 10 order, 11 horns, 12 thrown, gates, goats. -/
def enc (M : SS) : Nat → Int32 := fun z => if z < 4 then M 8 z else M ((z - 4) % 8) ((z - 4) / 8)
theorem enc_at (M : SS) (k : Nat) {w : Nat} (hw : w < 8) : enc M (4 + 8 * k + w) = M w k := by
  unfold enc
  rw [if_neg (by omega)]
  have h1 : (4 + 8 * k + w - 4) % 8 = w := by omega
  have h2 : (4 + 8 * k + w - 4) / 8 = k := by omega
  rw [h1, h2]
theorem enc_set (M : SS) (k : Nat) (v : Int32) {w : Nat} (hw : w < 8) : upd (enc M) (4 + 8 * k + w) v = enc (up2 M w k v) := by
  funext z
  unfold upd enc
  by_cases h : z = 4 + 8 * k + w
  · subst h
    have h1 : (4 + 8 * k + w - 4) % 8 = w := by omega
    have h2 : (4 + 8 * k + w - 4) / 8 = k := by omega
    rw [if_pos rfl, if_neg (by omega), h1, h2, up2_s]
  · rw [if_neg h]
    by_cases h4 : z < 4
    · rw [if_pos h4, if_pos h4, up2_at, if_neg (by omega)]
    · rw [if_neg h4, if_neg h4, up2_at, if_neg]
      rintro ⟨e1, e2⟩
      omega
theorem enc_hdr (M : SS) (c : Nat) (v : Int32) (hc : c < 4) : upd (enc M) c v = enc (up2 M 8 c v) := by
  funext z
  unfold upd enc
  by_cases h : z = c
  · subst h
    rw [if_pos rfl, if_pos hc, up2_s]
  · rw [if_neg h]
    by_cases h4 : z < 4
    · rw [if_pos h4, if_pos h4, up2_c _ _ _ _ h]
    · rw [if_neg h4, if_neg h4, up2_at, if_neg]
      rintro ⟨e1, e2⟩
      omega
/-- the reference's world -/
def mw (cI : ClassId) (t : Nat) (q : Nat → Nat) (M K : SS) : va_W := [(t, .inr (2, [.int (M 12 0), .int (M 12 1), .int (M 12 2), .ref (q 3), .ref (q 4), .ref (q 5), .ref (q 6), .ref (q 7)])), (q 3, .inl (cI, 4, .inl (M 9))), (q 4, .inl (cI, 4, .inl (M 10))), (q 5, .inl (cI, 12, .inl (M 11))), (q 6, .inl (cI, 100, .inl (enc M))), (q 7, .inl (cI, 100, .inl (enc K)))]
theorem mw_let (cI : ClassId) (t : Nat) (q : Nat → Nat) (M K : SS) (k : Nat) (v : Int32) {w : Nat} (hw : w < 8) : (mw cI t q M K).set 4 (q 6, .inl (cI, 100, .inl (upd (enc M) (4 + 8 * k + w) v))) = mw cI t q (up2 M w k v) K := by
  have e9 : up2 M w k v 9 = M 9 := up2_r _ _ _ _ (by omega)
  have e10 : up2 M w k v 10 = M 10 := up2_r _ _ _ _ (by omega)
  have e11 : up2 M w k v 11 = M 11 := up2_r _ _ _ _ (by omega)
  have e12 : up2 M w k v 12 = M 12 := up2_r _ _ _ _ (by omega)
  unfold mw
  rw [e9, e10, e11, e12, ← enc_set M k v hw]
  rfl
theorem mw_hdr (cI : ClassId) (t : Nat) (q : Nat → Nat) (M K : SS) (c : Nat) (v : Int32) (hc : c < 4) : (mw cI t q M K).set 4 (q 6, .inl (cI, 100, .inl (upd (enc M) c v))) = mw cI t q (up2 M 8 c v) K := by
  unfold mw
  rw [← enc_hdr M c v hc]
  rfl
/-- what is put back -/
def mBack (M K : SS) : SS := fun a => if a ≤ 8 then K a else M a
theorem enc_back (M K : SS) : enc (mBack M K) = enc K := by
  funext z
  unfold enc mBack
  split
  · rfl
  · rw [if_pos (by omega)]
theorem cpy_all {n : Nat} (f g : Nat → Int32) (cI : ClassId) : vp_cell cI (n, .inl (va_cpy f g 0 0 n)) = vp_cell cI (n, .inl f) := gx_cellc (fun j hj => by
  unfold va_cpy
  rw [if_pos (by omega)]
  congr 1
  omega)
def mIn (v lo hi : Int32) : Int32 := if v < lo then 0 else (if hi < v then 0 else 1)
theorem mIn_01 (v lo hi : Int32) : mIn v lo hi = 0 ∨ mIn v lo hi = 1 := by
  unfold mIn
  split
  · exact Or.inl rfl
  · split
    · exact Or.inl rfl
    · exact Or.inr rfl
def mGate (M : SS) (g : Int32) : Int32 := mIn g 0 (M 12 1 - 1)
def mGoat (M : SS) (k : Int32) : Int32 := mIn k 0 (M 12 2 - 1)
theorem mIn_n {g x : Int32} {G : Nat} (hG : x = nI G) (hG4 : G < 2 ^ 31) (h : ¬ mIn g 0 (x - 1) = 0) : ∃ j, j < G ∧ g = nI j := by
  unfold mIn at h
  split at h
  · exact absurd rfl h
  · rename_i h1
    split at h
    · exact absurd rfl h
    · rename_i h2
      obtain ⟨j, hj, e⟩ := nI_of h1
      refine ⟨j, ?_, e⟩
      cases G with
      | zero =>
        exfalso
        apply h2
        rw [hG, e, show nI 0 - 1 = (-1 : Int32) from by decide]
        exact Int32.lt_of_lt_of_le (by decide : (-1 : Int32) < 0) (nI_pos' hj)
      | succ G =>
        rw [hG, nI_pred, e] at h2
        have : ¬ G < j := fun z => h2 ((nI_ltI (by omega) hj).mpr z)
        omega
theorem mIn_ok {x : Int32} {G j : Nat} (hG : x = nI G) (hG4 : G < 2 ^ 31) (h : j < G) : mIn (nI j) 0 (x - 1) = 1 := by
  unfold mIn
  rw [if_neg (nI_pos (by omega))]
  cases G with
  | zero => omega
  | succ G =>
    rw [hG, nI_pred, if_neg (nI_nlt (by omega) (by omega))]
def mIs (M : SS) (k : Nat) (w : Int32) : Int32 := if M 0 k = w then 1 else 0
theorem mIs_01 (M : SS) (k : Nat) (w : Int32) : mIs M k w = 0 ∨ mIs M k w = 1 := by
  unfold mIs
  split
  · exact Or.inr rfl
  · exact Or.inl rfl
def mAt (M : SS) (k : Nat) (g : Int32) : Int32 := if mIs M k 1 = 0 then 0 else (if M 1 k = g then 1 else 0)
theorem mAt_01 (M : SS) (k : Nat) (w : Int32) : mAt M k w = 0 ∨ mAt M k w = 1 := by
  unfold mAt
  split
  · exact Or.inl rfl
  · split
    · exact Or.inr rfl
    · exact Or.inl rfl
def mFree (M : SS) (g : Nat) : Nat → Int32
  | 0 => M 9 g
  | n + 1 => if mIs M n 2 = 0 then mFree M g n else (if M 1 n = nI g then mFree M g n - M 2 n else mFree M g n)
def mSeI (M : SS) (k : Nat) : Int32 := if mIs M k 1 = 0 then 0 else M 5 k / 3
def mSeem (M : SS) (k : Nat) : Int32 := M 11 k + mSeI M k
def mFst (M : SS) (g : Nat) : Nat → Int32
  | 0 => -1
  | n + 1 => if mAt M n (nI g) = 0 then mFst M g n else (if mFst M g n = -1 then nI n else (if M 7 (mFst M g n).toNatClampNeg ≤ M 7 n then mFst M g n else nI n))
def mNb (M : SS) (fr : Int32) (g : Nat) : Nat → Int32
  | 0 => -1
  | n + 1 => if mAt M n (nI g) = 0 then mNb M fr g n else (if M 2 n ≤ fr then (if mNb M fr g n = -1 then nI n else (if mSeem M (mNb M fr g n).toNatClampNeg < mSeem M n then nI n else (if mSeem M n = mSeem M (mNb M fr g n).toNatClampNeg then (if M 7 (mNb M fr g n).toNatClampNeg ≤ M 7 n then mNb M fr g n else nI n) else mNb M fr g n))) else mNb M fr g n)
theorem ix_of {f : Int32} {n : Nat} (hn : n ≤ 12) (h : ∃ j, j < n ∧ f = nI j) : f = nI f.toNatClampNeg ∧ f.toNatClampNeg < n := by
  obtain ⟨j, h1, h2⟩ := h
  rw [h2, nI_clamp (by omega)]
  exact ⟨rfl, h1⟩
theorem mFst_ix {M : SS} {g : Nat} : ∀ n, n ≤ 12 → ¬ mFst M g n = -1 → ∃ j, j < n ∧ mFst M g n = nI j := by
  intro n
  induction n with
  | zero => intro _ h; exact absurd rfl h
  | succ n ih =>
    intro hn h
    have key : mFst M g (n + 1) = mFst M g n ∨ mFst M g (n + 1) = nI n := by
      show (if _ then _ else _) = _ ∨ (if _ then _ else _) = _
      split
      · exact Or.inl rfl
      · split
        · exact Or.inr rfl
        · split
          · exact Or.inl rfl
          · exact Or.inr rfl
    rcases key with e | e
    · rw [e] at h ⊢
      obtain ⟨j, h1, h2⟩ := ih (by omega) h
      exact ⟨j, by omega, h2⟩
    · exact ⟨n, by omega, e⟩
theorem mNb_ix {M : SS} {fr : Int32} {g : Nat} : ∀ n, n ≤ 12 → ¬ mNb M fr g n = -1 → ∃ j, j < n ∧ mNb M fr g n = nI j := by
  intro n
  induction n with
  | zero => intro _ h; exact absurd rfl h
  | succ n ih =>
    intro hn h
    have key : mNb M fr g (n + 1) = mNb M fr g n ∨ mNb M fr g (n + 1) = nI n := by
      show (if _ then _ else _) = _ ∨ (if _ then _ else _) = _
      split
      · exact Or.inl rfl
      · split
        · split
          · exact Or.inr rfl
          · split
            · exact Or.inr rfl
            · split
              · split
                · exact Or.inl rfl
                · exact Or.inr rfl
              · exact Or.inl rfl
        · exact Or.inl rfl
    rcases key with e | e
    · rw [e] at h ⊢
      obtain ⟨j, h1, h2⟩ := ih (by omega) h
      exact ⟨j, by omega, h2⟩
    · exact ⟨n, by omega, e⟩
def mNfR (M : SS) (g N : Nat) : Int32 := if mFst M g N = -1 then -1 else (if M 2 (mFst M g N).toNatClampNeg ≤ mFree M g N then mFst M g N else -1)
def mNx (M : SS) (g N : Nat) : Int32 := if M 10 g = 0 then mNfR M g N else mNb M (mFree M g N) g N
theorem mNx_ix {M : SS} {g N : Nat} (hN : N ≤ 12) (h : ¬ mNx M g N = -1) : ∃ j, j < N ∧ mNx M g N = nI j := by
  unfold mNx at h ⊢
  split at h
  · rename_i h0
    rw [if_pos h0]
    unfold mNfR at h ⊢
    split at h
    · exact absurd rfl h
    · rename_i h1
      rw [if_neg h1]
      split at h
      · rename_i h2
        rw [if_pos h2]
        exact mFst_ix N hN h1
      · exact absurd rfl h
  · rename_i h0
    rw [if_neg h0]
    exact mNb_ix N hN h
def mMat (M : SS) (g : Int32) : Nat → Int32
  | 0 => 0
  | n + 1 => mMat M g n + (if mAt M n g = 0 then 0 else 1)
def mMany (M : SS) (w : Int32) : Nat → Int32
  | 0 => 0
  | n + 1 => mMany M w n + (if mIs M n w = 0 then 0 else 1)
def mStv (M : SS) : Nat → Int32
  | 0 => 0
  | n + 1 => mStv M n + (if mIs M n 1 = 0 then 0 else (if M 5 n ≤ 7 then 0 else 1))
def mPlL (M : SS) (k : Nat) : Nat → Int32
  | 0 => 0
  | n + 1 => mPlL M k n + (if mAt M n (M 1 k) = 0 then 0 else (if M 7 k ≤ M 7 n then 0 else 1))
def mPl (M : SS) (N k : Nat) : Int32 := if mIs M k 1 = 0 then -1 else mPlL M k N
def mSum (M : SS) : Nat → Int32
  | 0 => 0
  | n + 1 => mSum M n + M 6 n
def mHeld (M : SS) (k : Nat) : Int32 := if mIs M k 2 = 0 then 0 else M 2 k
def mWhere (M : SS) (k : Nat) : Int32 := if mIs M k 0 = 0 then M 1 k else -1
def mLeft (M : SS) (k : Nat) : Int32 := if mIs M k 1 = 0 then (if mIs M k 2 = 0 then 0 else M 3 k) else M 4 k - M 5 k
def mStT (M : SS) (k : Nat) : SS := if mIs M k 2 = 0 then M else (if (up2 M 3 k (M 3 k - 1)) 3 k = 0 then up2 (up2 M 3 k (M 3 k - 1)) 0 k 0 else up2 M 3 k (M 3 k - 1))
def mWaA (M : SS) (k : Nat) : SS := up2 (up2 M 5 k (M 5 k + 1)) 6 k (M 6 k + 1)
def mWaT (M : SS) (k : Nat) : SS := if mIs M k 1 = 0 then M else (if M 4 k ≤ mWaA M k 5 k then up2 (up2 (mWaA M k) 0 k 0) 8 2 (M 8 2 + 1) else mWaA M k)
def mSt (M : SS) : Nat → SS
  | 0 => M
  | n + 1 => mStT (mSt M n) n
def mWa (M : SS) : Nat → SS
  | 0 => M
  | n + 1 => mWaT (mWa M n) n
def mOpS (M : SS) (g N : Nat) : SS := up2 (up2 M 0 (mNx M g N).toNatClampNeg 2) 8 1 (M 8 1 + 1)
def mOpI (M : SS) (g N : Nat) : Nat → SS
  | 0 => M
  | n + 1 => mOpS (mOpI M g N n) g N
def mOpN (M : SS) (g N : Nat) : Nat := gxF (fun i => decide (mNx (mOpI M g N i) g N = -1)) 13
def mOpF (M : SS) (g N : Nat) : SS := mOpI M g N (mOpN M g N)
def mOp (M : SS) (N : Nat) : Nat → SS
  | 0 => mSt M N
  | n + 1 => mOpF (mOp M N n) n N
def mWg (M : SS) (N G : Nat) : Nat → SS := mWa (mOp M N G)
def mMin (M : SS) (G N : Nat) : SS := up2 (mWg M N G N) 8 0 (mWg M N G N 8 0 + 1)
def mIt (M : SS) (G N : Nat) : Nat → SS
  | 0 => M
  | n + 1 => mMin (mIt M G N n) G N
-- rows 9 to 12 stay
theorem mStT_r (M : SS) (k : Nat) {a : Nat} (ha : 9 ≤ a) : mStT M k a = M a := by
  unfold mStT
  split
  · rfl
  · split
    · rw [up2_r _ _ _ _ (by omega), up2_r _ _ _ _ (by omega)]
    · rw [up2_r _ _ _ _ (by omega)]
theorem mWaT_r (M : SS) (k : Nat) {a : Nat} (ha : 9 ≤ a) : mWaT M k a = M a := by
  unfold mWaT mWaA
  split
  · rfl
  · split
    · rw [up2_r _ _ _ _ (by omega), up2_r _ _ _ _ (by omega), up2_r _ _ _ _ (by omega), up2_r _ _ _ _ (by omega)]
    · rw [up2_r _ _ _ _ (by omega), up2_r _ _ _ _ (by omega)]
theorem mOpS_r (M : SS) (g N : Nat) {a : Nat} (ha : 9 ≤ a) : mOpS M g N a = M a := by
  unfold mOpS
  rw [up2_r _ _ _ _ (by omega), up2_r _ _ _ _ (by omega)]
theorem mSt_r (M : SS) {a : Nat} (ha : 9 ≤ a) : ∀ n, mSt M n a = M a := by
  intro n
  induction n with
  | zero => rfl
  | succ n ih => exact (mStT_r _ n ha).trans ih
theorem mWa_r (M : SS) {a : Nat} (ha : 9 ≤ a) : ∀ n, mWa M n a = M a := by
  intro n
  induction n with
  | zero => rfl
  | succ n ih => exact (mWaT_r _ n ha).trans ih
theorem mOpI_r (M : SS) (g N : Nat) {a : Nat} (ha : 9 ≤ a) : ∀ n, mOpI M g N n a = M a := by
  intro n
  induction n with
  | zero => rfl
  | succ n ih => exact (mOpS_r _ g N ha).trans ih
theorem mOpF_r (M : SS) (g N : Nat) {a : Nat} (ha : 9 ≤ a) : mOpF M g N a = M a := mOpI_r M g N ha _
theorem mOp_r (M : SS) (N : Nat) {a : Nat} (ha : 9 ≤ a) : ∀ n, mOp M N n a = M a := by
  intro n
  induction n with
  | zero => exact mSt_r M ha N
  | succ n ih => exact (mOpF_r _ n N ha).trans ih
theorem mWg_r (M : SS) (N G : Nat) {a : Nat} (ha : 9 ≤ a) (n : Nat) : mWg M N G n a = M a := (mWa_r _ ha n).trans (mOp_r M N ha G)
theorem mMin_r (M : SS) (G N : Nat) {a : Nat} (ha : 9 ≤ a) : mMin M G N a = M a := by
  unfold mMin
  rw [up2_r _ _ _ _ (by omega)]
  exact mWg_r M N G ha N
theorem mIt_r (M : SS) (G N : Nat) {a : Nat} (ha : 9 ≤ a) : ∀ n, mIt M G N n a = M a := by
  intro n
  induction n with
  | zero => rfl
  | succ n ih => exact (mMin_r _ G N ha).trans ih
theorem mBack_it (M : SS) (G N n : Nat) : mBack (mIt M G N n) M = M := by
  funext a
  unfold mBack
  split
  · rfl
  · exact mIt_r M G N (by omega) n
theorem enc_up (M : SS) (a j : Nat) (v : Int32) (h : 9 ≤ a) : enc (up2 M a j v) = enc M := by
  funext z
  unfold enc
  rw [up2_r _ _ _ _ (by omega : 8 ≠ a), up2_r _ _ _ _ (by omega : (z - 4) % 8 ≠ a)]
theorem gt_Pcell {D : va_G} {cI : ClassId} {ws : va_W} {k a n : Nat} {f g : Nat → Int32} {H : Heap} (h : vp_cell cI (n, .inl f) = vp_cell cI (n, .inl g)) (hk : k < ws.length) (hP : va_P D vwCl (ws.set k (a, .inl (cI, n, .inl f))) H) : va_P D vwCl (ws.set k (a, .inl (cI, n, .inl g))) H := by
  intro j z hz
  by_cases hj : j = k
  · subst hj
    rw [List.getElem?_set_self hk] at hz
    cases hz
    have h1 := hP j (a, .inl (cI, n, .inl f)) (List.getElem?_set_self hk)
    show H[a]? = some (vp_cell cI (n, .inl g))
    rw [← h]
    exact h1
  · rw [List.getElem?_set_ne (Ne.symm hj)] at hz
    exact hP j z (by rw [List.getElem?_set_ne (Ne.symm hj)]; exact hz)
theorem mw_keepP {D : va_G} {cI : ClassId} {t : Nat} {q : Nat → Nat} {M K : SS} {H : Heap} (hP : va_P D vwCl ((mw cI t q M K).set 5 (q 7, .inl (cI, 100, .inl (va_cpy (enc M) (enc K) 0 0 100)))) H) : va_P D vwCl (mw cI t q M M) H := gt_Pcell (ws := mw cI t q M K) (cpy_all _ _ cI) (by show 5 < 6; decide) hP
theorem mw_backP {D : va_G} {cI : ClassId} {t : Nat} {q : Nat → Nat} {M K : SS} {H : Heap} (hP : va_P D vwCl ((mw cI t q M K).set 4 (q 6, .inl (cI, 100, .inl (va_cpy (enc K) (enc M) 0 0 100)))) H) : va_P D vwCl (mw cI t q (mBack M K) K) H := by
  have h := gt_Pcell (ws := mw cI t q M K) (cpy_all _ _ cI) (by show 4 < 6; decide) hP
  have e : (mw cI t q M K).set 4 (q 6, .inl (cI, 100, .inl (enc K))) = mw cI t q (mBack M K) K := by
    unfold mw
    rw [enc_back]
    rfl
  rw [← e]
  exact h
def mUnN (M : SS) (G N k : Nat) : Nat := gxF (fun i => decide (mIs (mIt M G N i) k 1 = 0)) 61
def mUnR (M : SS) (G N k : Nat) : Int32 := if mIs (mIt M G N (mUnN M G N k)) k 2 = 0 then -1 else nI (mUnN M G N k)
def mUn (M : SS) (G N k : Nat) : Int32 := if mIs M k 1 = 0 then -1 else mUnR M G N k
def mMk (M : SS) (g : Nat) : Nat → Int32
  | 0 => 0
  | n + 1 => mMk M g n ||| (if mAt M n (nI g) = 0 then (0 : Int32) else ((1 : Int32) <<< (nI n &&& 31)))
def mLiS (X : SS) (k : Nat) (z : Int32 × Int32) : Int32 × Int32 := if (z.2 >>> (nI k &&& 31)) &&& 1 = 0 then z else (if mIs X k 1 = 0 then (z.1 + (if mIs X k 0 = 0 then 0 else 1), z.2 &&& (((1 : Int32) <<< (nI k &&& 31)) ^^^ (-1))) else z)
def mLi (X : SS) (z : Int32 × Int32) : Nat → Int32 × Int32
  | 0 => z
  | n + 1 => mLiS X n (mLi X z n)
def mLo (M : SS) (G N g : Nat) : Nat → Int32 × Int32
  | 0 => (0, mMk M g N)
  | n + 1 => mLi (mIt M G N (n + 1)) (mLo M G N g n) N
def mLost (M : SS) (G N g : Nat) : Int32 := (mLo M G N g 60).1
def mWm (M : SS) (g : Nat) : Nat → SS
  | 0 => M
  | n + 1 => up2 (mWm M g n) 9 g (M 9 g + nI n)
def mWk (M K : SS) (g : Nat) : Nat → SS
  | 0 => K
  | n + 1 => mWm M g (n + 1)
def mWb (M : SS) (G N g : Nat) : Nat → Int32
  | 0 => -1
  | n + 1 => if mLost (mWm M g (n + 1)) G N g = 0 then nI n else mWb M G N g n
def mWf (M : SS) (G N g : Nat) : Nat := gxF (fun i => decide (mLost (mWm M g (i + 1)) G N g = 0)) 10
def mWn (M : SS) (G N g : Nat) : Nat := if mWf M G N g < 10 then mWf M G N g + 1 else 10
def mWan (M : SS) (G N g : Nat) : Int32 := mWb M G N g (mWn M G N g)
theorem mWn_le (M : SS) (G N g : Nat) : mWn M G N g ≤ 10 := by
  unfold mWn
  split <;> omega
theorem mWf_no {M : SS} {G N g i : Nat} (h : i < mWf M G N g) : ¬ mLost (mWm M g (i + 1)) G N g = 0 := of_decide_eq_false (gxF_no (fun i => decide (mLost (mWm M g (i + 1)) G N g = 0)) 10 i h)
theorem mWf_yes {M : SS} {G N g : Nat} (h : mWf M G N g < 10) : mLost (mWm M g (mWf M G N g + 1)) G N g = 0 := of_decide_eq_true (gxF_yes (fun i => decide (mLost (mWm M g (i + 1)) G N g = 0)) 10 h)
theorem mWb_m1 {M : SS} {G N g : Nat} : ∀ n, n ≤ mWf M G N g → mWb M G N g n = -1 := by
  intro n
  induction n with
  | zero => intro _; rfl
  | succ n ih =>
    intro h
    show (if _ then _ else _) = _
    rw [if_neg (mWf_no (by omega))]
    exact ih (by omega)
theorem mWb_no {M : SS} {G N g n : Nat} (h : n < mWn M G N g) : mWb M G N g n = -1 := by
  refine mWb_m1 n ?_
  unfold mWn at h
  split at h
  · omega
  · have := gxF_le (fun i => decide (mLost (mWm M g (i + 1)) G N g = 0)) 10
    unfold mWf at *
    omega
theorem mWn_end {M : SS} {G N g : Nat} (h : mWn M G N g < 10) : ¬ mWb M G N g (mWn M G N g) = -1 := by
  have h2 : mWf M G N g < 10 := by
    rcases Nat.lt_or_ge (mWf M G N g) 10 with h2 | h2
    · exact h2
    · unfold mWn at h
      rw [if_neg (Nat.not_lt.mpr h2)] at h
      exact absurd h (Nat.lt_irrefl 10)
  have e : mWn M G N g = mWf M G N g + 1 := if_pos h2
  rw [e, show mWb M G N g (mWf M G N g + 1) = if mLost (mWm M g (mWf M G N g + 1)) G N g = 0 then nI (mWf M G N g) else mWb M G N g (mWf M G N g) from rfl]
  rw [if_pos (mWf_yes h2)]
  intro z
  have h3 := nI_toInt (n := mWf M G N g) (by omega)
  rw [z] at h3
  have h4 : ((-1 : Int32)).toInt = -1 := by decide
  rw [h4] at h3
  omega
theorem up2_up2 (M : SS) (a i : Nat) (v w : Int32) : up2 (up2 M a i v) a i w = up2 M a i w := by
  funext b j
  rw [up2_at, up2_at, up2_at]
  split <;> rfl
theorem up2_id (M : SS) (a i : Nat) : up2 M a i (M a i) = M := by
  funext b j
  rw [up2_at]
  split
  · rename_i h; rw [h.1, h.2]
  · rfl
theorem up2_back (M : SS) (a i : Nat) (v : Int32) : up2 (up2 M a i v) a i (M a i) = M := by rw [up2_up2, up2_id]
theorem mWm_back (M : SS) (g : Nat) : ∀ n, up2 (mWm M g n) 9 g (M 9 g) = M := by
  intro n
  induction n with
  | zero => exact up2_id M 9 g
  | succ n ih =>
    rw [show mWm M g (n + 1) = up2 (mWm M g n) 9 g (M 9 g + nI n) from rfl, up2_up2]
    exact ih
theorem mWm_12 (M : SS) (g : Nat) (c : Nat) : ∀ n, mWm M g n 12 c = M 12 c := by
  intro n
  induction n with
  | zero => rfl
  | succ n ih => exact ih
def mBet (M : SS) (G N g : Nat) : Int32 := if mLost (up2 M 10 g 0) G N g ≤ mLost (up2 M 10 g 1) G N g then 0 else 1
theorem mw_a3 (cI : ClassId) (t : Nat) (q : Nat → Nat) (M K : SS) (j : Nat) (v : Int32) : (mw cI t q M K).set 1 (q 3, .inl (cI, 4, .inl (upd (M 9) j v))) = mw cI t q (up2 M 9 j v) K := by
  unfold mw
  rw [enc_up M 9 j v (by decide)]
  rfl
theorem mw_a4 (cI : ClassId) (t : Nat) (q : Nat → Nat) (M K : SS) (j : Nat) (v : Int32) : (mw cI t q M K).set 2 (q 4, .inl (cI, 4, .inl (upd (M 10) j v))) = mw cI t q (up2 M 10 j v) K := by
  unfold mw
  rw [enc_up M 10 j v (by decide)]
  rfl
theorem mw_a5 (cI : ClassId) (t : Nat) (q : Nat → Nat) (M K : SS) (j : Nat) (v : Int32) : (mw cI t q M K).set 3 (q 5, .inl (cI, 12, .inl (upd (M 11) j v))) = mw cI t q (up2 M 11 j v) K := by
  unfold mw
  rw [enc_up M 11 j v (by decide)]
  rfl
theorem mw_f0 (cI : ClassId) (t : Nat) (q : Nat → Nat) (M K : SS) (v : Int32) : (mw cI t q M K).set 0 (t, .inr (2, [.int v, .int (M 12 1), .int (M 12 2), .ref (q 3), .ref (q 4), .ref (q 5), .ref (q 6), .ref (q 7)])) = mw cI t q (up2 M 12 0 v) K := by
  unfold mw
  rw [enc_up M 12 0 v (by decide)]
  rfl
theorem mw_f1 (cI : ClassId) (t : Nat) (q : Nat → Nat) (M K : SS) (v : Int32) : (mw cI t q M K).set 0 (t, .inr (2, [.int (M 12 0), .int v, .int (M 12 2), .ref (q 3), .ref (q 4), .ref (q 5), .ref (q 6), .ref (q 7)])) = mw cI t q (up2 M 12 1 v) K := by
  unfold mw
  rw [enc_up M 12 1 v (by decide)]
  rfl
theorem mw_f2 (cI : ClassId) (t : Nat) (q : Nat → Nat) (M K : SS) (v : Int32) : (mw cI t q M K).set 0 (t, .inr (2, [.int (M 12 0), .int (M 12 1), .int v, .ref (q 3), .ref (q 4), .ref (q 5), .ref (q 6), .ref (q 7)])) = mw cI t q (up2 M 12 2 v) K := by
  unfold mw
  rw [enc_up M 12 2 v (by decide)]
  rfl
