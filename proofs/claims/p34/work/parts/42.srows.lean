/-! Rows over the Sim's cells. -/
section SM
variable {p : Program} {l : Launch} {e : Env} {R : Room} {s : State} {m : MethodId} {args : Array Value} {below : List Frame} {meth : Method} {c : Code} {H : Heap} {locs : List Loc} {cells slots : Nat} {Q : State → Prop}
variable {cc : ByteArray} {pc nL : Nat} {Ts : List Cond} {own : String} {ls : Array Slot} {rest st0 : List Value} {D : va_G} {A : Nat → Prop} {a : Nat} {cI cR : ClassId} {X : va_W} {L : List Nat} {f : Nat → va_E} {H0 : Heap}
variable {ad : Nat → Nat → Nat} {P N K : Nat} {M : SS} {Ls : Nat → List Nat}
/-- a field of the Sim is read -/
theorem sm_fld (S : CallFix p m c cc nL s args Ts own) (k i : Nat) {index : Nat} {v : Value} (hin : ∀ w ∈ wsX20, w ∈ Ts) {tys : List (ClassId × FieldType)} (hK : va_K D vwCl tys s) (hw : SW D A H0 X L f H locs) (hI : SimI cI cR L f ad P N K M Ls) (hdg : decode cc pc = .ok (.getfield index, 3)) (hv : ([.int (M 8 0), .int (M 8 1), .int (M 8 2), .ref (ad 0 1), .ref (ad 0 2), .ref (ad 0 3)] : List Value)[k]? = some v) (hk : k < 6) (hlink : Ts[i]? = some (Cond.fieldLink own index RX2 (TX2 k).2.1 (TX2 k).2.2.1)) (href : (TX2 k).1 = RX2)
    (kk : W p l e R s m args below meth c H locs cells slots Q (F0 m (pc + 3) ls (v :: rest))) : W p l e R s m args below meth c H locs cells slots Q (F0 m pc ls (.ref (ad 0 0) :: rest)) :=
  px_get S 2 k i hin hK hw hI.1.1 hI.1.2 hdg rfl hv hk hlink href kk
/-- a gate's, a goat's, a line's row -/
theorem sm_ga (S : CallFix p m c cc nL s args Ts own) (g : Nat) {x : Int32} (hK : va_K D vwCl (tyS cI cR) s) (hw : SW D A H0 X L f H locs) (hI : SimI cI cR L f ad P N K M Ls) (hdg : decode cc pc = .ok (.aaload, 1)) (hx : x = nI g) (hg : g < P) (hP : P < 2 ^ 31)
    (kk : W p l e R s m args below meth c H locs cells slots Q (F0 m (pc + 1) ls (.ref (ad 1 g) :: rest))) : W p l e R s m args below meth c H locs cells slots Q (F0 m pc ls (.int x :: .ref (ad 0 1) :: rest)) := by
  obtain ⟨-, ⟨h1, r, h2, h3⟩, -⟩ := hI
  exact px_ald S g hK hw h1 h2 hdg hx hg hP (h3 g hg) kk
theorem sm_ka (S : CallFix p m c cc nL s args Ts own) (k : Nat) {x : Int32} (hK : va_K D vwCl (tyS cI cR) s) (hw : SW D A H0 X L f H locs) (hI : SimI cI cR L f ad P N K M Ls) (hdg : decode cc pc = .ok (.aaload, 1)) (hx : x = nI k) (hk : k < N) (hN : N < 2 ^ 31)
    (kk : W p l e R s m args below meth c H locs cells slots Q (F0 m (pc + 1) ls (.ref (ad 2 k) :: rest))) : W p l e R s m args below meth c H locs cells slots Q (F0 m pc ls (.int x :: .ref (ad 0 2) :: rest)) := by
  obtain ⟨-, -, ⟨h1, r, h2, h3⟩, -⟩ := hI
  exact px_ald S k hK hw h1 h2 hdg hx hk hN (h3 k hk) kk
theorem sm_la (S : CallFix p m c cc nL s args Ts own) (g : Nat) {x : Int32} (hK : va_K D vwCl (tyS cI cR) s) (hw : SW D A H0 X L f H locs) (hI : SimI cI cR L f ad P N K M Ls) (hdg : decode cc pc = .ok (.aaload, 1)) (hx : x = nI g) (hg : g < K) (hP : K < 2 ^ 31)
    (kk : W p l e R s m args below meth c H locs cells slots Q (F0 m (pc + 1) ls (.ref (ad 3 g) :: rest))) : W p l e R s m args below meth c H locs cells slots Q (F0 m pc ls (.int x :: .ref (ad 0 3) :: rest)) := by
  obtain ⟨-, -, -, ⟨h1, r, h2, h3⟩, -⟩ := hI
  exact px_ald S g hK hw h1 h2 hdg hx hg hP (h3 g hg) kk
/-- how many there are -/
theorem sm_gn (S : CallFix p m c cc nL s args Ts own) (hK : va_K D vwCl (tyS cI cR) s) (hw : SW D A H0 X L f H locs) (hI : SimI cI cR L f ad P N K M Ls) (hdg : decode cc pc = .ok (.arraylength, 1))
    (kk : W p l e R s m args below meth c H locs cells slots Q (F0 m (pc + 1) ls (.int (nI P) :: rest))) : W p l e R s m args below meth c H locs cells slots Q (F0 m pc ls (.ref (ad 0 1) :: rest)) := by
  obtain ⟨-, ⟨h1, r, h2, h3⟩, -⟩ := hI
  exact px_len S 1 hK hw h1 h2 rfl rfl hdg kk
theorem sm_kn (S : CallFix p m c cc nL s args Ts own) (hK : va_K D vwCl (tyS cI cR) s) (hw : SW D A H0 X L f H locs) (hI : SimI cI cR L f ad P N K M Ls) (hdg : decode cc pc = .ok (.arraylength, 1))
    (kk : W p l e R s m args below meth c H locs cells slots Q (F0 m (pc + 1) ls (.int (nI N) :: rest))) : W p l e R s m args below meth c H locs cells slots Q (F0 m pc ls (.ref (ad 0 2) :: rest)) := by
  obtain ⟨-, -, ⟨h1, r, h2, h3⟩, -⟩ := hI
  exact px_len S 1 hK hw h1 h2 rfl rfl hdg kk
theorem sm_ln (S : CallFix p m c cc nL s args Ts own) (hK : va_K D vwCl (tyS cI cR) s) (hw : SW D A H0 X L f H locs) (hI : SimI cI cR L f ad P N K M Ls) (hdg : decode cc pc = .ok (.arraylength, 1))
    (kk : W p l e R s m args below meth c H locs cells slots Q (F0 m (pc + 1) ls (.int (nI K) :: rest))) : W p l e R s m args below meth c H locs cells slots Q (F0 m pc ls (.ref (ad 0 3) :: rest)) := by
  obtain ⟨-, -, -, ⟨h1, r, h2, h3⟩, -⟩ := hI
  exact px_len S 1 hK hw h1 h2 rfl rfl hdg kk
theorem sm_lln (S : CallFix p m c cc nL s args Ts own) (hK : va_K D vwCl (tyS cI cR) s) (hw : SW D A H0 X L f H locs) (hI : SimI cI cR L f ad P N K M Ls) {g : Nat} (hg : g < K) (hdg : decode cc pc = .ok (.arraylength, 1))
    (kk : W p l e R s m args below meth c H locs cells slots Q (F0 m (pc + 1) ls (.int (nI (Ls g).length) :: rest))) : W p l e R s m args below meth c H locs cells slots Q (F0 m pc ls (.ref (ad 3 g) :: rest)) := by
  obtain ⟨h1, x, h2, h3⟩ := hI.2.2.2.2.2.2.1 g hg
  exact px_len S 0 hK hw h1 h2 rfl rfl hdg kk
/-- a gate's, a goat's number; who stands in a line -/
theorem sm_g (S : CallFix p m c cc nL s args Ts own) (i : Nat) {x : Int32} (hK : va_K D vwCl (tyS cI cR) s) (hw : SW D A H0 X L f H locs) (hI : SimI cI cR L f ad P N K M Ls) {g : Nat} (hg : g < P) (hdg : decode cc pc = .ok (.iaload, 1)) (hx : x = nI i) (hi : i < 2)
    (kk : W p l e R s m args below meth c H locs cells slots Q (F0 m (pc + 1) ls (.int (M (9 + i) g) :: rest))) : W p l e R s m args below meth c H locs cells slots Q (F0 m pc ls (.int x :: .ref (ad 1 g) :: rest)) := by
  obtain ⟨h1, y, h2, h3, h4⟩ := hI.2.2.2.2.1 g hg
  refine px_ild S i hK hw h1 h2 hdg hx hi (by decide) ?_ kk
  match i, hi with
  | 0, _ => exact h3
  | 1, _ => exact h4
theorem sm_k (S : CallFix p m c cc nL s args Ts own) (j r : Nat) {x : Int32} (hK : va_K D vwCl (tyS cI cR) s) (hw : SW D A H0 X L f H locs) (hI : SimI cI cR L f ad P N K M Ls) {k : Nat} (hk : k < N) (hdg : decode cc pc = .ok (.iaload, 1)) (hx : x = nI j) (hj : j < 8) (hr : rw8 j = r)
    (kk : W p l e R s m args below meth c H locs cells slots Q (F0 m (pc + 1) ls (.int (M r k) :: rest))) : W p l e R s m args below meth c H locs cells slots Q (F0 m pc ls (.int x :: .ref (ad 2 k) :: rest)) := by
  subst hr
  obtain ⟨h1, y, h2, h3⟩ := hI.2.2.2.2.2.1 k hk
  exact px_ild S j hK hw h1 h2 hdg hx hj (by decide) (h3 j hj) kk
theorem sm_l (S : CallFix p m c cc nL s args Ts own) (i : Nat) {x : Int32} (hK : va_K D vwCl (tyS cI cR) s) (hw : SW D A H0 X L f H locs) (hI : SimI cI cR L f ad P N K M Ls) {g k : Nat} (hg : g < K) (hdg : decode cc pc = .ok (.iaload, 1)) (hx : x = nI i) (hk : (Ls g)[i]? = some k) (hn : (Ls g).length < 2 ^ 31)
    (kk : W p l e R s m args below meth c H locs cells slots Q (F0 m (pc + 1) ls (.int (nI k) :: rest))) : W p l e R s m args below meth c H locs cells slots Q (F0 m pc ls (.int x :: .ref (ad 3 g) :: rest)) := by
  obtain ⟨h1, y, h2, h3⟩ := hI.2.2.2.2.2.2.1 g hg
  exact px_ild S i hK hw h1 h2 hdg hx (List.getElem?_eq_some_iff.mp hk).1 hn (h3 i k hk) kk
/-- a goat's number is written -/
theorem sm_kst (S : CallFix p m c cc nL s args Ts own) (j r : Nat) {x v : Int32} (hK : va_K D vwCl (tyS cI cR) s) (hw : SW D A H0 X L f H locs) (hI : SimI cI cR L f ad P N K M Ls) {k : Nat} (hk : k < N) (hdg : decode cc pc = .ok (.iastore, 1)) (hx : x = nI j) (hj : j < 8) (hr : rw8 j = r)
    (kk : ∀ (f1 : Nat → va_E) (H1 : Heap) (locs1 : List Loc), SW D A H0 X L f1 H1 locs1 → SimI cI cR L f1 ad P N K (up2 M r k v) Ls → pxF N L f ad L f1 ad → W p l e R s m args below meth c H1 locs1 cells slots Q (F0 m (pc + 1) ls rest)) : W p l e R s m args below meth c H locs cells slots Q (F0 m pc ls (.int v :: .int x :: .ref (ad 2 k) :: rest)) := by
  subst hr
  obtain ⟨h1, y, h2, h3⟩ := hI.2.2.2.2.2.1 k hk
  exact px_ist S j hK hw h1 h2 hdg hx hj (by decide) (fun H1 locs1 hw1 => kk _ H1 locs1 hw1 (hI.kst hk hj h2) ⟨fun _ h => h, fun a _ _ _ h => va_up_ne _ _ (h k hk), fun _ _ _ => rfl⟩)
/-- a number of the Sim's own is written -/
theorem sm_fst (S : CallFix p m c cc nL s args Ts own) (k i : Nat) {index : Nat} {v : Int32} (hin : ∀ w ∈ wsX20, w ∈ Ts) {tys : List (ClassId × FieldType)} (hK : va_K D vwCl tys s) (hw : SW D A H0 X L f H locs) (hI : SimI cI cR L f ad P N K M Ls) (hdg : decode cc pc = .ok (.putfield index, 3)) (hk : k < 3) (hlink : Ts[i]? = some (Cond.fieldLink own index RX2 (TX2 k).2.1 (TX2 k).2.2.1))
    (kk : ∀ (f1 : Nat → va_E) (H1 : Heap) (locs1 : List Loc), SW D A H0 X L f1 H1 locs1 → SimI cI cR L f1 ad P N K (up2 M 8 k v) Ls → pxF N L f ad L f1 ad → W p l e R s m args below meth c H1 locs1 cells slots Q (F0 m (pc + 3) ls rest)) : W p l e R s m args below meth c H locs cells slots Q (F0 m pc ls (.int v :: .ref (ad 0 0) :: rest)) := by
  have e1 : (TX2 k).1 = RX2 ∧ (TX2 k).2.2.2 = false ∧ tyX2 k = .int := by
    match k, hk with
    | 0, _ => exact ⟨rfl, rfl, rfl⟩
    | 1, _ => exact ⟨rfl, rfl, rfl⟩
    | 2, _ => exact ⟨rfl, rfl, rfl⟩
  exact px_put S 2 k i hin tyX2_ok nmX2 hK hw hI.1.1 hI.1.2 hdg rfl (by omega) hlink e1.1 e1.2.1 e1.2.2 rfl rfl (by show k < 6; omega) (fun H1 locs1 hw1 => kk _ H1 locs1 hw1 (hI.fst hk hI.1.2) ⟨fun _ h => h, fun a _ h _ _ => va_up_ne _ _ h, fun _ _ _ => rfl⟩)
/-- a line gets another row -/
theorem sm_lst (S : CallFix p m c cc nL s args Ts own) (g : Nat) {q : Nat} {x : Int32} {l0 : List Nat} (hE : SE s) (hK : va_K D vwCl (tyS cI cR) s) (hw : SW D A H0 X L f H locs) (hI : SimI cI cR L f ad P N K M Ls) (hdg : decode cc pc = .ok (.aastore, 1)) (hx : x = nI g) (hg : g < K) (hN : K < 2 ^ 31) (hq : q ∈ L) (hl : rowIs cI (f q) l0) (h1 : ∀ j, j < P → ad 1 j ≠ q) (h2 : ∀ k, k < N → ad 2 k ≠ q)
    (kk : ∀ (f1 : Nat → va_E) (H1 : Heap) (locs1 : List Loc), SW D A H0 X L f1 H1 locs1 → SimI cI cR L f1 (adU ad g q) P N K M (lsU Ls g l0) → pxF N L f ad L f1 (adU ad g q) → W p l e R s m args below meth c H1 locs1 cells slots Q (F0 m (pc + 1) ls rest)) : W p l e R s m args below meth c H locs cells slots Q (F0 m pc ls (.ref q :: .int x :: .ref (ad 0 3) :: rest)) := by
  obtain ⟨d1, r, d2, d3⟩ := hI.2.2.2.1
  obtain ⟨y, hy, -⟩ := id hl
  exact px_ast S g hE hK hw d1 d2 hq hy hdg hx hg hN (fun H1 locs1 hw1 => kk _ H1 locs1 hw1 (hI.lst hg d2 hq hl h1 h2) ⟨fun _ h => h, fun a _ _ h _ => va_up_ne _ _ h, fun _ _ h => adU_ne h⟩)
end SM
/-- an answer that leaves the pool as it is -/
def pxR (L : List Nat) (f : Nat → va_E) (v : Int32) : pxP := fun rv L1 f1 => rv = some (.int v) ∧ L1 = L ∧ f1 = f
