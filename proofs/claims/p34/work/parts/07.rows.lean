/-! Rows of my own over the kit's: contracts in one form, their calls, loads, stores, loops, ends. -/
theorem gt_Pm {D : va_G} {cl : List vw_C} {ws : va_W} {H : Heap} : va_P D cl ws H ↔ ∀ q ∈ ws, va_at D cl q H := by
  constructor
  · intro h q hq
    obtain ⟨i, hi⟩ := List.getElem?_of_mem hq
    exact h i q hi
  · intro h k q hk
    exact h q (List.mem_of_getElem? hk)
theorem gt_Dm {A : Nat → Prop} {ws : va_W} : va_D A ws ↔ (ws.map Prod.fst).Nodup ∧ ∀ q ∈ ws, A q.1 := by
  constructor
  · intro h
    refine ⟨?_, fun q hq => ?_⟩
    · rw [List.Nodup, List.pairwise_iff_getElem]
      intro i j hi hj hij he
      rw [List.length_map] at hi hj
      rw [List.getElem_map, List.getElem_map] at he
      have := h.1 i j ws[i] ws[j] (List.getElem?_eq_getElem hi) (List.getElem?_eq_getElem hj) he
      omega
    · obtain ⟨i, hi⟩ := List.getElem?_of_mem hq
      exact h.2 i q hi
  · rintro ⟨h1, h2⟩
    refine ⟨?_, fun k q hk => h2 q (List.mem_of_getElem? hk)⟩
    intro i j p q hi hj he
    rw [List.Nodup, List.pairwise_iff_getElem] at h1
    obtain ⟨li, ei⟩ := List.getElem?_eq_some_iff.mp hi
    obtain ⟨lj, ej⟩ := List.getElem?_eq_some_iff.mp hj
    rcases Nat.lt_trichotomy i j with hlt | heq | hgt
    · exact absurd (by rw [List.getElem_map, List.getElem_map, ei, ej]; exact he) (h1 i j (by rw [List.length_map]; exact li) (by rw [List.length_map]; exact lj) hlt)
    · exact heq
    · exact absurd (by rw [List.getElem_map, List.getElem_map, ei, ej]; exact he.symm) (h1 j i (by rw [List.length_map]; exact lj) (by rw [List.length_map]; exact li) hgt)
/-- a part of a world changes to w', the rest stays -/
theorem gt_swap {A : Nat → Prop} {D : va_G} {cl : List vw_C} {wa w wb w' : va_W} {H H1 : Heap} (hP : va_P D cl (wa ++ (w ++ wb)) H) (hD : va_D A (wa ++ (w ++ wb)))
    (hk : ∀ q : Nat, q < H.size → ¬ va_A w H.size q → H1[q]? = H[q]?) (hF : ∀ q, va_A w H.size q → A q) (hP1 : va_P D cl w' H1) (hD1 : va_D (va_A w H.size) w') : va_P D cl (wa ++ (w' ++ wb)) H1 ∧ va_D A (wa ++ (w' ++ wb)) := by
  rw [gt_Pm] at hP hP1
  rw [gt_Dm] at hD hD1
  obtain ⟨n1, n2⟩ := hD
  obtain ⟨m1, m2⟩ := hD1
  have out : ∀ q, (q ∈ wa ∨ q ∈ wb) → q.1 < H.size ∧ ¬ va_A w H.size q.1 := by
    intro q hq
    have hl : q.1 < H.size := (hP q (by
      rcases hq with h | h
      · exact List.mem_append_left _ h
      · exact List.mem_append_right _ (List.mem_append_right _ h))).lt
    refine ⟨hl, fun hA => ?_⟩
    rcases hA with ⟨k, e, hke⟩ | hge
    · have hw : (q.1, e) ∈ w := List.mem_of_getElem? hke
      rw [List.map_append, List.map_append, List.nodup_append, List.nodup_append] at n1
      obtain ⟨-, ⟨-, -, d2⟩, d1⟩ := n1
      rcases hq with h | h
      · exact d1 q.1 (List.mem_map_of_mem (f := Prod.fst) h) q.1 (List.mem_append_left _ (List.mem_map.mpr ⟨(q.1, e), hw, rfl⟩)) rfl
      · exact d2 q.1 (List.mem_map.mpr ⟨(q.1, e), hw, rfl⟩) q.1 (List.mem_map_of_mem (f := Prod.fst) h) rfl
    · omega
  rw [gt_Pm, gt_Dm]
  refine ⟨fun q hq => ?_, ?_, fun q hq => ?_⟩
  · rcases List.mem_append.mp hq with h | h
    · exact (hP q (List.mem_append_left _ h)).kept (hk _ (out q (Or.inl h)).1 (out q (Or.inl h)).2)
    · rcases List.mem_append.mp h with h | h
      · exact hP1 q h
      · exact (hP q (List.mem_append_right _ (List.mem_append_right _ h))).kept (hk _ (out q (Or.inr h)).1 (out q (Or.inr h)).2)
  · rw [List.map_append, List.map_append, List.nodup_append, List.nodup_append] at n1 ⊢
    obtain ⟨a1, ⟨a2, a3, d2⟩, d1⟩ := n1
    have o2 : ∀ x ∈ w'.map Prod.fst, va_A w H.size x := fun x hx => by
      obtain ⟨q, hq, rfl⟩ := List.mem_map.mp hx
      exact m2 q hq
    have o1 : ∀ x, (x ∈ wa.map Prod.fst ∨ x ∈ wb.map Prod.fst) → ¬ va_A w H.size x := by
      rintro x (h | h) <;> obtain ⟨q, hq, rfl⟩ := List.mem_map.mp h
      · exact (out q (Or.inl hq)).2
      · exact (out q (Or.inr hq)).2
    refine ⟨a1, ⟨m1, a3, fun x hx y hy he => ?_⟩, fun x hx y hy he => ?_⟩
    · subst he
      exact o1 x (Or.inr hy) (o2 x hx)
    · subst he
      rcases List.mem_append.mp hy with h | h
      · exact o1 x (Or.inl hx) (o2 x h)
      · exact d1 x hx x (List.mem_append_right _ h) rfl
  · rcases List.mem_append.mp hq with h | h
    · exact n2 q (List.mem_append_left _ h)
    · rcases List.mem_append.mp h with h | h
      · exact hF _ (m2 q h)
      · exact n2 q (List.mem_append_right _ (List.mem_append_right _ h))
/-- what a method begins with, and what it ends with: its world, before and behind; the answer -/
def gP (D : va_G) (tys : List (ClassId × FieldType)) (av : List Value) (w : va_W) (sz : Nat) : Array Value → State → Prop := va_Pc av (fun U => U.heap.size = sz ∧ va_P D vwCl w U.heap ∧ va_K D vwCl tys U ∧ va_D (fun _ => True) w)
def gQ (D : va_G) (tys : List (ClassId × FieldType)) (w' : va_W) (rv : Option Value) (A : Nat → Prop) : Array Value → State → Outcome → State → Prop := fun _ st oc t => (oc = .returned rv ∧ va_P D vwCl w' t.heap ∧ va_K D vwCl tys t ∧ va_D A w') ∧ va_F A st t
/-- A CONTRACT: with the world w the method answers rv, and leaves the world w' -/
def Ct (l : Launch) (D : va_G) (tys : List (ClassId × FieldType)) (y : MethodName) (wsy : List Cond) (fr lo mc ms : Nat) (av : List Value) (w : va_W) (rv : Option Value) (w' : va_W) : Prop :=
  ∀ sz : Nat, Met l y wsy ({ frames := fr, cells := mc, slots := ms, locals := lo } : Room) (gP D tys av w sz) (gQ D tys w' rv (va_A w sz)) mc ms (va_A w sz)
theorem gP_blind {D : va_G} {tys : List (ClassId × FieldType)} {av : List Value} {w : va_W} {sz : Nat} : FrameBlind (gP D tys av w sz) := by
  intro a U g mk q
  obtain ⟨q0, q1, qP, qK, qD⟩ := q
  exact ⟨q0, q1, qP, va_K.moved (u := U) (U := U.calling g mk a) (Vm.Alike.refl U.vm) qK, qD⟩
/-- a body's end, for a contract -/
def gZ (below : List Frame) (D : va_G) (tys : List (ClassId × FieldType)) (w' : va_W) (rv : Option Value) (A : Nat → Prop) (args : Array Value) (s : State) (mc ms : Nat) : State → Prop := MQ below (gQ D tys w' rv A) args s mc ms A
theorem Ct.ofW {l : Launch} {D : va_G} {tys : List (ClassId × FieldType)} {y : MethodName} {wsy ws0 : List Cond} {fr lo mc ms : Nat} {av : List Value} {w : va_W} {rv : Option Value} {w' : va_W} {cc : ByteArray} {maxL : Nat} {ret : Option FieldType}
    (hy : plainName y.cls = true) (hw : wsy = Cond.code y cc maxL ret :: ws0) (hav : (lg_sl av).length ≤ maxL)
    (h : ∀ (p : Program) (e : Env) (s : State) (m : MethodId) (below : List Frame) (meth : Method) (c : Code) (A : Nat → Prop) (ls : Array Slot),
      CallFix p m c cc maxL s av.toArray wsy y.cls → meth.sig.returnType = ret → meth.locks = false → (y.name = "<init>" → meth.name = "<init>") → va_P D vwCl w s.heap → va_D A w → va_S A s.heap s.heap [] → va_K D vwCl tys s → (∀ q, s.heap.size ≤ q → A q) → lv_has ls maxL (lv_args 0 av) →
      W p l e ({ frames := fr, cells := mc, slots := ms, locals := lo } : Room) s m av.toArray below meth c s.heap [] 0 0 (gZ below D tys w' rv A av.toArray s mc ms) (F0 m 0 ls [])) : Ct l D tys y wsy fr lo mc ms av w rv w' := by
  intro sz
  refine Met.ofW (cc := cc) (maxL := maxL) (ret := ret) hy hw ?_
  intro p e s m args below meth c s₁ B hml hv
  obtain ⟨rfl, hsz, hP, hK, hD0⟩ := hv
  have hts := atoms_spec (ws := wsy) B.pre
  have hown : s.vm.findClass y.cls = some m.cls := findClass_of_methodNamed B.named
  subst hsz
  have hD := hD0.self (sz := s.heap.size)
  have hl := lv_entry av (n := maxL) hav
  rw [lg_entry_eq]
  exact h p e s m below meth c (va_A w s.heap.size) _ ⟨B.exec, B.bytes, hml, hown, hts⟩ B.returns B.notSynchronized (fun hi => (name_of_methodNamed B.named B.method).1.trans hi) hP hD va_S.rf hK (fun q hq => Or.inr hq) hl
section GT
variable {p : Program} {l : Launch} {e : Env} {R : Room} {s : State} {m : MethodId} {args : Array Value} {below : List Frame} {meth : Method} {c : Code} {H : Heap} {locs : List Loc} {cells slots : Nat} {Q : State → Prop}
variable {cc : ByteArray} {pc nL : Nat} {Ts : List Cond} {own : String} {ls : Array Slot} {rest st0 : List Value} {D : va_G} {A : Nat → Prop} {a : Nat} {tys : List (ClassId × FieldType)} {ws ws' : va_W} {H0 : Heap}
variable {rv : Option Value} {w' : va_W} {mc ms : Nat}
theorem gt_iret (S : CallFix p m c cc nL s args Ts own) (hr : meth.sig.returnType = some .int) (hlocks : meth.locks = false) (hK : va_K D vwCl tys s) (hP : va_P D vwCl ws H) (hD : va_D A ws) (hS : va_S A s.heap H locs) {v : Int32} (hv : some (Value.int v) = rv) (hw : ws = w') (hdg : decode cc pc = .ok (.ireturn, 1)) (hc : cells ≤ mc) (hs : slots ≤ ms) :
    W p l e R s m args below meth c H locs cells slots (gZ below D tys w' rv A args s mc ms) (F0 m pc ls [.int v]) := by
  subst hw; subst hv
  refine W.widen hc hs ?_
  exact W.iret S.1 S.2.1 hr (fun t ht hW => ⟨⟨rfl, by rw [ht]; exact hP, va_K.moved hW.alike hK, hD⟩, hS.F ht⟩) hS.2.2 hdg hlocks
theorem gt_zret (S : CallFix p m c cc nL s args Ts own) (hr : meth.sig.returnType = some .boolean) (hlocks : meth.locks = false) (hK : va_K D vwCl tys s) (hP : va_P D vwCl ws H) (hD : va_D A ws) (hS : va_S A s.heap H locs) {v : Int32} (hz : v = 0 ∨ v = 1) (hv : some (Value.int v) = rv) (hw : ws = w') (hdg : decode cc pc = .ok (.ireturn, 1)) (hc : cells ≤ mc) (hs : slots ≤ ms) :
    W p l e R s m args below meth c H locs cells slots (gZ below D tys w' rv A args s mc ms) (F0 m pc ls [.int v]) := by
  subst hw; subst hv
  refine W.widen hc hs ?_
  exact W.zret S.1 S.2.1 hr (by rcases hz with rfl | rfl <;> rfl) (fun t ht hW => ⟨⟨rfl, by rw [ht]; exact hP, va_K.moved hW.alike hK, hD⟩, hS.F ht⟩) hS.2.2 hdg hlocks
theorem gt_vret (S : CallFix p m c cc nL s args Ts own) (hr : meth.sig.returnType = none) (hlocks : meth.locks = false) (hK : va_K D vwCl tys s) (hP : va_P D vwCl ws H) (hD : va_D A ws) (hS : va_S A s.heap H locs) (hv : none = rv) (hw : ws = w') (hdg : decode cc pc = .ok (.return_, 1)) (hc : cells ≤ mc) (hs : slots ≤ ms) :
    W p l e R s m args below meth c H locs cells slots (gZ below D tys w' rv A args s mc ms) (F0 m pc ls []) := by
  subst hw; subst hv
  refine W.widen hc hs ?_
  exact W.vret S.1 S.2.1 hr (fun t ht hW => ⟨⟨rfl, by rw [ht]; exact hP, va_K.moved hW.alike hK, hD⟩, hS.F ht⟩) hS.2.2 hdg hlocks
theorem gt_lret (S : CallFix p m c cc nL s args Ts own) (hr : meth.sig.returnType = some .long) (hlocks : meth.locks = false) (hK : va_K D vwCl tys s) (hP : va_P D vwCl ws H) (hD : va_D A ws) (hS : va_S A s.heap H locs) {v : Int64} (hv : some (Value.long v) = rv) (hw : ws = w') (hdg : decode cc pc = .ok (.lreturn, 1)) (hc : cells ≤ mc) (hs : slots ≤ ms) :
    W p l e R s m args below meth c H locs cells slots (gZ below D tys w' rv A args s mc ms) (F0 m pc ls [.long v]) := by
  subst hw; subst hv
  refine W.widen hc hs ?_
  exact W.lret S.1 S.2.1 hr (fun t ht hW => ⟨⟨rfl, by rw [ht]; exact hP, va_K.moved hW.alike hK, hD⟩, hS.F ht⟩) hS.2.2 hdg hlocks
/-- getfield -/
theorem gt_get (S : CallFix p m c cc nL s args Ts own) (q0 ci k i : Nat) {ref C : String} {T : u_T} {N index : Nat} {fs : List Value} {v : Value} (hin : ∀ w ∈ u_ws C T N, w ∈ Ts) (hK : va_K D vwCl tys s) (hP : va_P D vwCl ws H) (hdg : decode cc pc = .ok (.getfield index, 3)) (hc : vwCl[ci]? = some (C, T, N)) (he : ws[q0]? = some (a, .inr (ci, fs))) (hv : fs[k]? = some v) (hk : k < N) (hlink : Ts[i]? = some (Cond.fieldLink own index ref (T k).2.1 (T k).2.2.1)) (href : (T k).1 = ref)
    (kk : W p l e R s m args below meth c H locs cells slots Q (F0 m (pc + 3) ls (v :: rest))) : W p l e R s m args below meth c H locs cells slots Q (F0 m pc ls (.ref a :: rest)) :=
  va_get (ci := ci) S.1 S.2.1 S.2.2.2.2 hin S.2.2.2.1 hK hP q0 he hc k hk (S.2.2.2.2 _ (List.mem_of_getElem? hlink)) (fun x h => by rw [← href]; exact h) hv hdg kk
/-- putfield of an int -/
theorem gt_puti (S : CallFix p m c cc nL s args Ts own) (q0 ci k i : Nat) {ref C : String} {T : u_T} {N index : Nat} {fs : List Value} {v : Int32} (hin : ∀ w ∈ u_ws C T N, w ∈ Ts) {ty0 : Nat → FieldType} (hty : ∀ k, k < N → parseFieldDescriptor (T k).2.2.1 = some (ty0 k)) (hnm : ∀ a, a < N → ∀ b, b < N → a ≠ b → (T a).2.1 ≠ (T b).2.1) (hK : va_K D vwCl tys s) (hP : va_P D vwCl ws H) (hD : va_D A ws) (hS : va_S A H0 H locs) (hdg : decode cc pc = .ok (.putfield index, 3)) (hc : vwCl[ci]? = some (C, T, N)) (he : ws[q0]? = some (a, .inr (ci, fs))) (hk : k < N) (hlink : Ts[i]? = some (Cond.fieldLink own index ref (T k).2.1 (T k).2.2.1)) (href : (T k).1 = ref) (hfin : (T k).2.2.2 = false) (hd : ty0 k = .int) (hl : k < fs.length) (hw : ws.set q0 (a, .inr (ci, fs.set k (.int v))) = ws')
    (kk : ∀ (H1 : Heap) (locs1 : List Loc), va_P D vwCl ws' H1 → va_D A ws' → va_S A H0 H1 locs1 → W p l e R s m args below meth c H1 locs1 cells slots Q (F0 m (pc + 3) ls rest)) : W p l e R s m args below meth c H locs cells slots Q (F0 m pc ls (.int v :: .ref a :: rest)) := by
  subst hw
  exact va_put (ci := ci) (ty := .int) (v := .int v) S.1 S.2.1 S.2.2.2.2 hin ty0 hty hnm S.2.2.2.1 hK hP hD hS q0 he hc k hk (S.2.2.2.2 _ (List.mem_of_getElem? hlink)) (fun x h => by rw [← href]; exact h) hfin (by rw [hty k hk, hd]) rfl rfl hl hdg kk
/-- an int row is read -/
theorem gt_ald (S : CallFix p m c cc nL s args Ts own) (q0 t0 j : Nat) {cA : ClassId} {n : Nat} {f : Nat → Int32} {x : Int32} (hK : va_K D vwCl tys s) (hP : va_P D vwCl ws H) (hdg : decode cc pc = .ok (.iaload, 1)) (ha : ws[q0]? = some (a, .inl (cA, n, .inl f))) (ht : tys[t0]? = some (cA, .int)) (hx : x = nI j) (hj : j < n) (hn : n < 2 ^ 31)
    (kk : W p l e R s m args below meth c H locs cells slots Q (F0 m (pc + 1) ls (.int (f j) :: rest))) : W p l e R s m args below meth c H locs cells slots Q (F0 m pc ls (.int x :: .ref a :: rest)) := by
  subst hx
  refine va_iald S.1 S.2.1 hK hP q0 t0 ha ht (vp_in_nI hj hn) hdg ?_
  rw [nI_clamp (by omega)]
  exact kk
/-- .. and written -/
theorem gt_ast (S : CallFix p m c cc nL s args Ts own) (q0 t0 j : Nat) {cA : ClassId} {n : Nat} {f : Nat → Int32} {x v : Int32} (hK : va_K D vwCl tys s) (hP : va_P D vwCl ws H) (hD : va_D A ws) (hS : va_S A H0 H locs) (hdg : decode cc pc = .ok (.iastore, 1)) (ha : ws[q0]? = some (a, .inl (cA, n, .inl f))) (ht : tys[t0]? = some (cA, .int)) (hx : x = nI j) (hj : j < n) (hn : n < 2 ^ 31) (hw : ws.set q0 (a, .inl (cA, n, .inl (upd f j v))) = ws')
    (kk : ∀ (H1 : Heap) (locs1 : List Loc), va_P D vwCl ws' H1 → va_D A ws' → va_S A H0 H1 locs1 → W p l e R s m args below meth c H1 locs1 cells slots Q (F0 m (pc + 1) ls rest)) : W p l e R s m args below meth c H locs cells slots Q (F0 m pc ls (.int v :: .int x :: .ref a :: rest)) := by
  subst hx; subst hw
  refine va_iast S.1 S.2.1 hK hP hD hS q0 t0 ha ht (vp_in_nI hj hn) hdg ?_
  rw [nI_clamp (by omega)]
  exact kk
/-- a comparison of two numbers that are known -/
theorem gt_ge_f (S : CallFix p m c cc nL s args Ts own) (i n : Nat) {x y : Int32} {off : Int} {tgt : Nat} (hdg : decode cc pc = .ok (.if_icmp .ge off, 3)) (ht : (pc : Int) + off = (tgt : Int)) (hx : x = nI i) (hy : y = nI n) (h : i < n) (hn : n < 2 ^ 31)
    (kk : W p l e R s m args below meth c H locs cells slots Q (F0 m (pc + 3) ls rest)) : W p l e R s m args below meth c H locs cells slots Q (F0 m pc ls (.int y :: .int x :: rest)) :=
  lv_icmp_ge S.1 S.2.1 hdg ht (fun c9 => absurd c9 (by rw [hx, hy]; exact nI_ge h hn)) (fun _ => kk)
theorem gt_ge_t (S : CallFix p m c cc nL s args Ts own) (i n : Nat) {x y : Int32} {off : Int} {tgt : Nat} (hdg : decode cc pc = .ok (.if_icmp .ge off, 3)) (ht : (pc : Int) + off = (tgt : Int)) (hx : x = nI i) (hy : y = nI n) (h : n ≤ i) (hn : i < 2 ^ 31)
    (kk : W p l e R s m args below meth c H locs cells slots Q (F0 m tgt ls rest)) : W p l e R s m args below meth c H locs cells slots Q (F0 m pc ls (.int y :: .int x :: rest)) :=
  lv_icmp_ge S.1 S.2.1 hdg ht (fun _ => kk) (fun c9 => absurd (by rw [hx, hy]; exact nI_le h hn) c9)
theorem gt_gt_f (S : CallFix p m c cc nL s args Ts own) (i n : Nat) {x y : Int32} {off : Int} {tgt : Nat} (hdg : decode cc pc = .ok (.if_icmp .gt off, 3)) (ht : (pc : Int) + off = (tgt : Int)) (hx : x = nI i) (hy : y = nI n) (h : i ≤ n) (hn : n < 2 ^ 31)
    (kk : W p l e R s m args below meth c H locs cells slots Q (F0 m (pc + 3) ls rest)) : W p l e R s m args below meth c H locs cells slots Q (F0 m pc ls (.int y :: .int x :: rest)) :=
  lv_icmp_gt S.1 S.2.1 hdg ht (fun c9 => absurd c9 (by rw [hx, hy]; exact nI_nlt h hn)) (fun _ => kk)
theorem gt_gt_t (S : CallFix p m c cc nL s args Ts own) (i n : Nat) {x y : Int32} {off : Int} {tgt : Nat} (hdg : decode cc pc = .ok (.if_icmp .gt off, 3)) (ht : (pc : Int) + off = (tgt : Int)) (hx : x = nI i) (hy : y = nI n) (h : n < i) (hn : i < 2 ^ 31)
    (kk : W p l e R s m args below meth c H locs cells slots Q (F0 m tgt ls rest)) : W p l e R s m args below meth c H locs cells slots Q (F0 m pc ls (.int y :: .int x :: rest)) :=
  lv_icmp_gt S.1 S.2.1 hdg ht (fun _ => kk) (fun c9 => absurd (by rw [hx, hy]; exact nI_lt h hn) c9)
/-- a counter grows by one -/
theorem gt_inc (S : CallFix p m c cc nL s args Ts own) (k j : Nat) {i : Nat} {x : Int32} {lv lv' : List (Nat × Value)} (hdg : decode cc pc = .ok (.iinc i 1, 3)) (h : lv_has ls nL lv) (hk : lv[k]? = some (i, .int x)) (hx : x = nI j) (hn : i < nL) (hl : (i, Value.int (nI (j + 1))) :: lv.filter (fun q => !(q.1 == i) && !(q.1 + 1 == i && q.2.category == 2)) = lv')
    (kk : ∀ ls' : Array Slot, lv_has ls' nL lv' → W p l e R s m args below meth c H locs cells slots Q (F0 m (pc + 3) ls' rest)) : W p l e R s m args below meth c H locs cells slots Q (F0 m pc ls rest) := by
  subst hx
  exact lv_iinc S.1 S.2.1 hdg h hk (nI_1 j) hn hl kk
/-- two ways meet again, with one number on the stack -/
theorem gt_meet (t : Nat) (E : Int32) (k1 : (∀ w : Int32, w = E → W p l e R s m args below meth c H locs cells slots Q (F0 m t ls (.int w :: rest))) → W p l e R s m args below meth c H locs cells slots Q (F0 m pc ls st0)) (k2 : W p l e R s m args below meth c H locs cells slots Q (F0 m t ls (.int E :: rest))) : W p l e R s m args below meth c H locs cells slots Q (F0 m pc ls st0) :=
  k1 (fun _ h => h ▸ k2)
/-- .. where something was called on the ways -/
theorem gt_meetH (D : va_G) (A : Nat → Prop) (H0 : Heap) (ws : va_W) (hP : va_P D vwCl ws H) (hD : va_D A ws) (hS : va_S A H0 H locs) (t : Nat) (E : Int32) (k1 : (∀ (w : Int32) (H : Heap) (locs : List Loc), va_P D vwCl ws H → va_D A ws → va_S A H0 H locs → w = E → W p l e R s m args below meth c H locs cells slots Q (F0 m t ls (.int w :: rest))) → W p l e R s m args below meth c H locs cells slots Q (F0 m pc ls st0)) (k2 : ∀ (H : Heap) (locs : List Loc), va_P D vwCl ws H → va_D A ws → va_S A H0 H locs → W p l e R s m args below meth c H locs cells slots Q (F0 m t ls (.int E :: rest))) : W p l e R s m args below meth c H locs cells slots Q (F0 m pc ls st0) :=
  k1 (fun _ H locs h1 h2 h3 h => h ▸ k2 H locs h1 h2 h3)
/-- a loop whose turns are told by a number: locals lv i, world wd i, at its head hd -/
theorem gt_loop (D : va_G) (A : Nat → Prop) (H0 : Heap) (nL N : Nat) (lv : Nat → List (Nat × Value)) (wd : Nat → va_W) (hl : lv_has ls nL (lv 0)) (hP : va_P D vwCl (wd 0) H) (hD : va_D A (wd 0)) (hS : va_S A H0 H locs)
    (step : ∀ i, i < N → ∀ (H : Heap) (locs : List Loc) (ls : Array Slot), va_P D vwCl (wd i) H → va_D A (wd i) → va_S A H0 H locs → lv_has ls nL (lv i) → (∀ (H : Heap) (locs : List Loc) (ls : Array Slot), va_P D vwCl (wd (i + 1)) H → va_D A (wd (i + 1)) → va_S A H0 H locs → lv_has ls nL (lv (i + 1)) → W p l e R s m args below meth c H locs cells slots Q (F0 m pc ls rest)) → W p l e R s m args below meth c H locs cells slots Q (F0 m pc ls rest))
    (exit : ∀ (H : Heap) (locs : List Loc) (ls : Array Slot), va_P D vwCl (wd N) H → va_D A (wd N) → va_S A H0 H locs → lv_has ls nL (lv N) → W p l e R s m args below meth c H locs cells slots Q (F0 m pc ls rest)) : W p l e R s m args below meth c H locs cells slots Q (F0 m pc ls rest) := by
  have key : ∀ k i, i + k = N → ∀ (H : Heap) (locs : List Loc) (ls : Array Slot), va_P D vwCl (wd i) H → va_D A (wd i) → va_S A H0 H locs → lv_has ls nL (lv i) → W p l e R s m args below meth c H locs cells slots Q (F0 m pc ls rest) := by
    intro k
    induction k with
    | zero => intro i hi H locs ls h1 h2 h3 h4; obtain rfl : i = N := by omega
              exact exit H locs ls h1 h2 h3 h4
    | succ k ih =>
      intro i hi H locs ls h1 h2 h3 h4
      exact step i (by omega) H locs ls h1 h2 h3 h4 (ih (i + 1) (by omega))
  exact key N 0 (by omega) H locs ls hP hD hS hl
/-- a call of a contract, by the run of any kind; behind it the callee's world w', what isn't its own stays -/
theorem gt_run0 {D : va_G} {tysC : List (ClassId × FieldType)} {av : Array Value} {w : va_W} (hr : va_Run p l e R s m args below meth c H locs cells slots mc ms (F0 m pc ls st0) rest (gQ D tysC w' rv (va_A w H.size) av) (va_A w H.size)) (hDw : va_D A w) (hS : va_S A H0 H locs) (hA : ∀ q, H0.size ≤ q → A q)
    (kk : ∀ (H1 : Heap) (locs1 : List Loc), va_P D vwCl w' H1 → va_D (va_A w H.size) w' → (∀ q : Nat, q < H.size → ¬ va_A w H.size q → H1[q]? = H[q]?) → (∀ q, va_A w H.size q → A q) → va_S A H0 H1 locs1 → W p l e R s m args below meth c H1 locs1 (cells + mc) (slots + ms) Q (F0 m (pc + 3) ls (rv.toList ++ rest))) : W p l e R s m args below meth c H locs cells slots Q (F0 m pc ls st0) := by
  have hF : ∀ q, va_A w H.size q → A q := by
    rintro q (⟨k, e9, h⟩ | h)
    · exact hDw.2 k (q, e9) h
    · exact hA q (Nat.le_trans hS.1 h)
  intro T hT X
  obtain ⟨v, st₀, t, T', L, h0, X', hL, e1, e2, ⟨⟨hv, hP', hK', hD'⟩, hz, hk⟩, st⟩ := hr T hT X
  cases hv
  rw [h0] at hz hk
  obtain ⟨t2, a1, b1⟩ := kk T'.heap (locs ++ L) (by rw [e1]; exact hP') hD' (fun q h1 h2 => by rw [e1]; exact hk q h1 h2) hF
    ⟨Nat.le_trans hS.1 (by rw [e1]; exact hz), fun q h1 h2 => by rw [e1, hk q (Nat.lt_of_lt_of_le h1 hS.1) (fun z => h2 (hF q z))]; exact hS.2.1 q h1 h2, fun q hq => by
      rcases List.mem_append.mp hq with h | h
      · exact hS.2.2 q h
      · exact hF _ (hL q h)⟩ T' rfl X'
  exact ⟨t2, st t2 a1, b1⟩
/-- the stack, seen otherwise -/
theorem gt_stk (st1 : List Value) (h : st0 = st1) (k : W p l e R s m args below meth c H locs cells slots Q (F0 m pc ls st1)) : W p l e R s m args below meth c H locs cells slots Q (F0 m pc ls st0) := h ▸ k
/-- an invokevirtual of a contract whose world is the caller's -/
theorem gt_call0 (S : CallFix p m c cc nL s args Ts own) (q0 ci n : Nat) {fr lo : Nat} {tysC : List (ClassId × FieldType)} {y : MethodName} {wsy : List Cond} {b : Nat} {As : List Value} {C : String} {index maxL : Nat} {bytes : ByteArray} {ret : Option FieldType} {T : u_T} {N : Nat} {fs : List Value} {ws0 : List Cond}
    (hM : Ct l D tysC y wsy fr lo mc ms (.ref b :: As) ws rv w') (hG : GoodIn Ts (wsV own index C y wsy)) (hdg : decode cc pc = .ok (.invokevirtual index, 3)) (hKc : va_K D vwCl tysC s) (hP : va_P D vwCl ws H) (hD : va_D A ws) (hS : va_S A H0 H locs) (hA : ∀ q, H0.size ≤ q → A q) (hlL : ls.size = nL)
    (hwy : wsy = Cond.code y bytes maxL ret :: ws0) (hd : y.cls = C ∧ y.cls ≠ "java/lang/invoke/MethodHandle" ∧ y.cls ≠ "java/lang/invoke/VarHandle" ∧ (parseMethodDescriptor y.desc).map (fun d => d.parameters.length) = some n) (hR : fr + 1 ≤ R.frames ∧ 8 + (maxL + 11) + lo ≤ R.locals) (hroom : cells + mc ≤ R.cells ∧ slots + ms ≤ R.slots)
    (he : ws[q0]? = some (b, .inr (ci, fs))) (hc : vwCl[ci]? = some (C, T, N)) (hn : As.length = n) (hst : st0 = As.reverse ++ .ref b :: rest) (hcat : (rest.map fun v => v.category).sum ≤ 8)
    (kk : ∀ (H1 : Heap) (locs1 : List Loc), va_P D vwCl w' H1 → va_D A w' → va_S A H0 H1 locs1 → W p l e R s m args below meth c H1 locs1 (cells + mc) (slots + ms) Q (F0 m (pc + 3) ls (rv.toList ++ rest))) : W p l e R s m args below meth c H locs cells slots Q (F0 m pc ls st0) :=
  gt_run0 (w := ws) (va_runV (C := C) (As := As) (rest := rest) S (hM H.size) (cwV n S.2.2.2.2 hG hwy rfl rfl hd hR) ⟨gP_blind, va_recv hKc hP hc he, fun U hU hW => ⟨rfl, by rw [hU], by rw [hU]; exact hP, va_K.moved hW.alike hKc, hD.weaken (fun _ _ _ _ => trivial)⟩⟩ rfl hn hlL hst (lv_room hcat) hdg hroom) hD hS hA (fun H1 locs1 g1 g2 _ g4 g5 => kk H1 locs1 g1 (g2.weaken (fun _ q _ h => g4 q.1 h)) g5)
/-- .. a part of it -/
theorem gt_callV (S : CallFix p m c cc nL s args Ts own) (wa wb : va_W) (q0 ci n : Nat) {fr lo : Nat} {tysC : List (ClassId × FieldType)} {w : va_W} {y : MethodName} {wsy : List Cond} {b : Nat} {As : List Value} {C : String} {index maxL : Nat} {bytes : ByteArray} {ret : Option FieldType} {T : u_T} {N : Nat} {fs : List Value} {ws0 : List Cond}
    (hM : Ct l D tysC y wsy fr lo mc ms (.ref b :: As) w rv w') (hG : GoodIn Ts (wsV own index C y wsy)) (hdg : decode cc pc = .ok (.invokevirtual index, 3)) (hKc : va_K D vwCl tysC s) (hP : va_P D vwCl ws H) (hD : va_D A ws) (hS : va_S A H0 H locs) (hA : ∀ q, H0.size ≤ q → A q) (hlL : ls.size = nL)
    (hwy : wsy = Cond.code y bytes maxL ret :: ws0) (hd : y.cls = C ∧ y.cls ≠ "java/lang/invoke/MethodHandle" ∧ y.cls ≠ "java/lang/invoke/VarHandle" ∧ (parseMethodDescriptor y.desc).map (fun d => d.parameters.length) = some n) (hR : fr + 1 ≤ R.frames ∧ 8 + (maxL + 11) + lo ≤ R.locals) (hroom : cells + mc ≤ R.cells ∧ slots + ms ≤ R.slots)
    (hws : ws = wa ++ (w ++ wb)) (hws' : wa ++ (w' ++ wb) = ws') (he : w[q0]? = some (b, .inr (ci, fs))) (hc : vwCl[ci]? = some (C, T, N)) (hn : As.length = n) (hst : st0 = As.reverse ++ .ref b :: rest) (hcat : (rest.map fun v => v.category).sum ≤ 8)
    (kk : ∀ (H1 : Heap) (locs1 : List Loc), va_P D vwCl ws' H1 → va_D A ws' → va_S A H0 H1 locs1 → W p l e R s m args below meth c H1 locs1 (cells + mc) (slots + ms) Q (F0 m (pc + 3) ls (rv.toList ++ rest))) : W p l e R s m args below meth c H locs cells slots Q (F0 m pc ls st0) := by
  subst hws; subst hws'
  have hPw : va_P D vwCl w H := gt_Pm.mpr fun q hq => gt_Pm.mp hP q (List.mem_append_right _ (List.mem_append_left _ hq))
  have hDw : va_D A w := by
    have h := gt_Dm.mp hD
    refine gt_Dm.mpr ⟨?_, fun q hq => h.2 q (List.mem_append_right _ (List.mem_append_left _ hq))⟩
    have h1 := h.1
    rw [List.map_append, List.map_append, List.nodup_append, List.nodup_append] at h1
    exact h1.2.1.1
  refine gt_run0 (w := w) (va_runV (C := C) (As := As) (rest := rest) S (hM H.size) (cwV n S.2.2.2.2 hG hwy rfl rfl hd hR) ⟨gP_blind, va_recv hKc hPw hc he, fun U hU hW => ⟨rfl, by rw [hU], by rw [hU]; exact hPw, va_K.moved hW.alike hKc, hDw.weaken (fun _ _ _ _ => trivial)⟩⟩ rfl hn hlL hst (lv_room hcat) hdg hroom) hDw hS hA (fun H1 locs1 g1 g2 g3 g4 g5 => ?_)
  obtain ⟨j1, j2⟩ := gt_swap hP hD g3 g4 g1 g2
  exact kk H1 locs1 j1 j2 g5
/-- a static call without a world -/
theorem gt_callS (S : CallFix p m c cc nL s args Ts own) (n : Nat) {fr lo : Nat} {y : MethodName} {wsy : List Cond} {As : List Value} {index maxL : Nat} {bytes : ByteArray} {ret : Option FieldType} {ws0 : List Cond}
    (hM : Ct l D [] y wsy fr lo mc ms As [] rv []) (hG : GoodIn Ts (va_wsS own index y wsy)) (hdg : decode cc pc = .ok (.invokestatic index, 3)) (hK : va_K D vwCl tys s) (hP : va_P D vwCl ws H) (hD : va_D A ws) (hS : va_S A H0 H locs) (hA : ∀ q, H0.size ≤ q → A q) (hlL : ls.size = nL)
    (hwy : wsy = Cond.code y bytes maxL ret :: ws0) (hd : y.cls ≠ "java/lang/invoke/MethodHandle" ∧ y.cls ≠ "java/lang/invoke/VarHandle" ∧ (parseMethodDescriptor y.desc).map (fun d => d.parameters.length) = some n) (hR : fr + 1 ≤ R.frames ∧ 8 + (maxL + 11) + lo ≤ R.locals) (hroom : cells + mc ≤ R.cells ∧ slots + ms ≤ R.slots)
    (hn : As.length = n) (hst : st0 = As.reverse ++ rest) (hcat : (rest.map fun v => v.category).sum ≤ 8)
    (kk : ∀ (H1 : Heap) (locs1 : List Loc), va_P D vwCl ws H1 → va_D A ws → va_S A H0 H1 locs1 → W p l e R s m args below meth c H1 locs1 (cells + mc) (slots + ms) Q (F0 m (pc + 3) ls (rv.toList ++ rest))) : W p l e R s m args below meth c H locs cells slots Q (F0 m pc ls st0) := by
  have hPw : va_P D vwCl ([] : va_W) H := gt_Pm.mpr fun q hq => nomatch hq
  have hDw : va_D A ([] : va_W) := gt_Dm.mpr ⟨List.nodup_nil, fun q hq => nomatch hq⟩
  have hKc : va_K D vwCl [] s := ⟨hK.1, fun k z hz => by cases hz⟩
  refine gt_run0 (w := ([] : va_W)) (va_runS (As := As) (rest := rest) S (hM H.size) (va_cwS n S.2.2.2.2 hG hwy rfl rfl hd hR) ⟨gP_blind, fun U hU hW => ⟨rfl, by rw [hU], by rw [hU]; exact hPw, va_K.moved hW.alike hKc, hDw.weaken (fun _ _ _ _ => trivial)⟩⟩ rfl hn hlL hst (lv_room hcat) hdg hroom) hDw hS hA (fun H1 locs1 g1 g2 g3 g4 g5 => ?_)
  obtain ⟨j1, j2⟩ := gt_swap (wa := []) (w := []) (wb := ws) (w' := []) hP hD g3 g4 g1 g2
  exact kk H1 locs1 j1 j2 g5
end GT
