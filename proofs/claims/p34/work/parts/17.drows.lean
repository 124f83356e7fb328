/-! A loop whose turns make cells; the class's checksum. -/
section GTC
variable {p : Program} {l : Launch} {e : Env} {R : Room} {s : State} {m : MethodId} {args : Array Value} {below : List Frame} {meth : Method} {c : Code} {H : Heap} {locs : List Loc} {cells slots : Nat} {Q : State → Prop}
variable {pc : Nat} {ls : Array Slot} {rest : List Value}
theorem gt_loopC (D : va_G) (A : Nat → Prop) (H0 : Heap) (nL N c0 s0 dc ds : Nat) (lv : Nat → List (Nat × Value)) (wd : Nat → va_W) (hl : lv_has ls nL (lv 0)) (hP : va_P D vwCl (wd 0) H) (hD : va_D A (wd 0)) (hS : va_S A H0 H locs) (hc : cells ≤ c0) (hs : slots ≤ s0)
    (step : ∀ i, i < N → ∀ (H : Heap) (locs : List Loc) (ls : Array Slot), va_P D vwCl (wd i) H → va_D A (wd i) → va_S A H0 H locs → lv_has ls nL (lv i) → (∀ (H : Heap) (locs : List Loc) (ls : Array Slot), va_P D vwCl (wd (i + 1)) H → va_D A (wd (i + 1)) → va_S A H0 H locs → lv_has ls nL (lv (i + 1)) → W p l e R s m args below meth c H locs (c0 + (i + 1) * dc) (s0 + (i + 1) * ds) Q (F0 m pc ls rest)) → W p l e R s m args below meth c H locs (c0 + i * dc) (s0 + i * ds) Q (F0 m pc ls rest))
    (exit : ∀ (H : Heap) (locs : List Loc) (ls : Array Slot), va_P D vwCl (wd N) H → va_D A (wd N) → va_S A H0 H locs → lv_has ls nL (lv N) → W p l e R s m args below meth c H locs (c0 + N * dc) (s0 + N * ds) Q (F0 m pc ls rest)) : W p l e R s m args below meth c H locs cells slots Q (F0 m pc ls rest) := by
  have key : ∀ k i, i + k = N → ∀ (H : Heap) (locs : List Loc) (ls : Array Slot), va_P D vwCl (wd i) H → va_D A (wd i) → va_S A H0 H locs → lv_has ls nL (lv i) → W p l e R s m args below meth c H locs (c0 + i * dc) (s0 + i * ds) Q (F0 m pc ls rest) := by
    intro k
    induction k with
    | zero => intro i hi H locs ls h1 h2 h3 h4; obtain rfl : i = N := by omega
              exact exit H locs ls h1 h2 h3 h4
    | succ k ih =>
      intro i hi H locs ls h1 h2 h3 h4
      exact step i (by omega) H locs ls h1 h2 h3 h4 (ih (i + 1) (by omega))
  exact W.widen (k := c0 + 0 * dc) (n := s0 + 0 * ds) (by omega) (by omega) (key N 0 (by omega) H locs ls hP hD hS hl)
end GTC
def dk (d : Int64) (x : Int32) : Int64 := d * 31 + Int32.toInt64 x
def gxDh (S : SS) (G N : Nat) : Int64 := dk (dk (dk (dk (dk (dk (dk (dk 2161 (S 0 0)) (S 0 1)) (S 0 2)) (gxCnt S 1 N)) (gxCnt S 2 N)) (gxStv S N)) (S 0 4)) (gxGiv S G)
def gxDg (S : SS) (G N : Nat) : Nat → Int64
  | 0 => gxDh S G N
  | n + 1 => dk (dk (dk (dk (dk (dk (gxDg S G N n) (S 5 n)) (gxFree S n N)) (gxWat S (nI n) N)) (gxFiR S n N)) (gxPw S G N n)) (gxBo S G N n)
def gxDk (S : SS) (G N : Nat) : Nat → Int64
  | 0 => gxDg S G N G
  | n + 1 => dk (dk (dk (dk (dk (dk (dk (dk (gxDk S G N n) (S 9 n)) (S 10 n)) (gxHeld S n)) (gxSeem S n)) (S 13 n)) (S 16 n)) (gxPl S N n)) (gxUn S G N n)
def gxT1 (S T : SS) (G N : Nat) : Nat → SS
  | 0 => T
  | n + 1 => gxGuT S G N n (S 5 n) 1
def gxT2 (S T : SS) (G N : Nat) : Nat → SS
  | 0 => gxT1 S T G N G
  | n + 1 => gxIt S G N (gxUnN S G N n)
