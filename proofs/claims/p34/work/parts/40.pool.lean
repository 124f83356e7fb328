/-! The Sim's cells: a pool of cells L, with what f says of each; rows of my own over it. -/
abbrev tyS (cI cR : ClassId) : List (ClassId × FieldType) := [(cI, .int), (cR, .array .int)]
/-- what the tables say of rows of rows, and of copies of rows -/
def SE (U : State) : Prop := (Cond.arrayOver (.array .int)).before #[] U = true ∧ va_Nw (.castable "[I" "java/lang/Cloneable") U
theorem px_AO_moved {u U : State} (hvm : u.vm.Alike U.vm) (h : (Cond.arrayOver (.array .int)).before #[] u = true) : (Cond.arrayOver (.array .int)).before #[] U = true := by
  obtain ⟨comp, c, k, h1, h2, h3, h4, h5⟩ := arrayOverA_spec h
  obtain ⟨k', hk', he⟩ := hvm.2.2 _ _ h3
  have hi : (U.vm.classes.findIdx? fun (x : Class) => match x.kind with | .array component _ => component == comp | _ => false) = some c := by
    rw [hvm.findIdx?_eq _ (fun _ => rfl)]
    exact h2
  have hkind : k'.kind = .array comp (.array .int) := by rw [he]; exact h4
  have f1 : U.vm.findClass (FieldType.array .int).toString = some comp := by rw [hvm.findClass]; exact h1
  have f2 : U.vm.findClass ("[" ++ (FieldType.array .int).toString) = some c := by rw [hvm.findClass]; exact h5
  unfold Cond.before Cond.holds
  simp only [Cond.value]
  rw [f1, Option.bind_some]
  refine (congrArg (fun o : Option Nat => (o.bind (fun c => (U.vm.classes[c]?).map fun (k : Class) => match k.kind with | .array _ ty => decide (ty = FieldType.array .int) && decide (U.vm.findClass ("[" ++ (FieldType.array .int).toString) = some c) | _ => false) == some true)) hi).trans ?_
  simp [hk', hkind, f2]
theorem SE.warm {s U : State} (hW : s.WarmedH U.vm) (h : SE s) : SE U := ⟨px_AO_moved hW.alike h.1, va_Nw.warmC hW h.2⟩
theorem SE.call {U : State} {g : JFrame} {mk : MethodId} {a : Array Value} (h : SE U) : SE (U.calling g mk a) := ⟨px_AO_moved (Vm.Alike.refl U.vm) h.1, va_Nw.same rfl rfl h.2⟩
abbrev pxP : Type := Option Value → List Nat → (Nat → va_E) → Prop
def gPX (D : va_G) (cI cR : ClassId) (av : List Value) (L : List Nat) (f : Nat → va_E) (sz : Nat) : Array Value → State → Prop := va_Pc av (fun U => U.heap.size = sz ∧ va_P D vwCl (va_pl L f) U.heap ∧ va_K D vwCl (tyS cI cR) U ∧ va_D (fun _ => True) (va_pl L f) ∧ SE U)
def gQX (D : va_G) (post : pxP) (A : Nat → Prop) : Array Value → State → Outcome → State → Prop := fun _ st oc t => (∃ (rv : Option Value) (L : List Nat) (f : Nat → va_E), oc = .returned rv ∧ post rv L f ∧ va_P D vwCl (va_pl L f) t.heap ∧ va_D A (va_pl L f)) ∧ va_F A st t
/-- A CONTRACT over a pool: with the cells L as f says the method answers, and leaves a pool, as post says -/
def CtX (l : Launch) (D : va_G) (cI cR : ClassId) (y : MethodName) (wsy : List Cond) (fr lo mc ms : Nat) (av : List Value) (L : List Nat) (f : Nat → va_E) (post : pxP) : Prop :=
  ∀ sz : Nat, Met l y wsy ({ frames := fr, cells := mc, slots := ms, locals := lo } : Room) (gPX D cI cR av L f sz) (gQX D post (va_A (va_pl L f) sz)) mc ms (va_A (va_pl L f) sz)
theorem gPX_blind {D : va_G} {cI cR : ClassId} {av : List Value} {L : List Nat} {f : Nat → va_E} {sz : Nat} : FrameBlind (gPX D cI cR av L f sz) := by
  intro a U g mk q
  obtain ⟨q0, q1, qP, qK, qD, qE⟩ := q
  exact ⟨q0, q1, qP, va_K.moved (u := U) (U := U.calling g mk a) (Vm.Alike.refl U.vm) qK, qD, qE.call⟩
def gZX (below : List Frame) (D : va_G) (post : pxP) (A : Nat → Prop) (args : Array Value) (s : State) (mc ms : Nat) : State → Prop := MQ below (gQX D post A) args s mc ms A
/-- the world: X beside the pool -/
def SW (D : va_G) (A : Nat → Prop) (H0 : Heap) (X : va_W) (L : List Nat) (f : Nat → va_E) (H : Heap) (locs : List Loc) : Prop := va_P D vwCl (X ++ va_pl L f) H ∧ va_D A (X ++ va_pl L f) ∧ va_S A H0 H locs
theorem CtX.ofW {l : Launch} {D : va_G} {cI cR : ClassId} {y : MethodName} {wsy ws0 : List Cond} {fr lo mc ms : Nat} {av : List Value} {L : List Nat} {f : Nat → va_E} {post : pxP} {cc : ByteArray} {maxL : Nat} {ret : Option FieldType}
    (hy : plainName y.cls = true) (hw : wsy = Cond.code y cc maxL ret :: ws0) (hav : (lg_sl av).length ≤ maxL)
    (h : ∀ (p : Program) (e : Env) (s : State) (m : MethodId) (below : List Frame) (meth : Method) (c : Code) (A : Nat → Prop) (ls : Array Slot),
      CallFix p m c cc maxL s av.toArray wsy y.cls → meth.sig.returnType = ret → meth.locks = false → SE s → SW D A s.heap [] L f s.heap [] → va_K D vwCl (tyS cI cR) s → (∀ q, s.heap.size ≤ q → A q) → lv_has ls maxL (lv_args 0 av) →
      W p l e ({ frames := fr, cells := mc, slots := ms, locals := lo } : Room) s m av.toArray below meth c s.heap [] 0 0 (gZX below D post A av.toArray s mc ms) (F0 m 0 ls [])) : CtX l D cI cR y wsy fr lo mc ms av L f post := by
  intro sz
  refine Met.ofW (cc := cc) (maxL := maxL) (ret := ret) hy hw ?_
  intro p e s m args below meth c s₁ B hml hv
  obtain ⟨rfl, hsz, hP, hK, hD0, hE⟩ := hv
  have hts := atoms_spec (ws := wsy) B.pre
  have hown : s.vm.findClass y.cls = some m.cls := findClass_of_methodNamed B.named
  subst hsz
  have hD := hD0.self (sz := s.heap.size)
  have hl := lv_entry av (n := maxL) hav
  rw [lg_entry_eq]
  exact h p e s m below meth c (va_A (va_pl L f) s.heap.size) _ ⟨B.exec, B.bytes, hml, hown, hts⟩ B.returns B.notSynchronized hE ⟨hP, hD, va_S.rf⟩ hK (fun q hq => Or.inr hq) hl
theorem px_nm {cI cR : ClassId} {s : State} {D : va_G} (hE : SE s) (hK : va_K D vwCl (tyS cI cR) s) : ∃ kA : Class, s.vm.classes[cR]? = some kA ∧ kA.kind = .array cI (.array .int) := by
  obtain ⟨comp, c, k, h1, -, h3, h4, h5⟩ := arrayOverA_spec hE.1
  have e1 : s.vm.findClass "[I" = some cI := va_nm_int (hK.2 0 _ rfl).2
  have e2 : s.vm.findClass ("[" ++ (FieldType.array .int).toString) = some cR := (hK.2 1 _ rfl).2
  have e3 : (FieldType.array .int).toString = "[I" := by decide +kernel
  rw [e3] at h1
  have e4 : comp = cI := Option.some.inj (h1.symm.trans e1)
  have e5 : c = cR := Option.some.inj (h5.symm.trans e2)
  subst e4; subst e5
  exact ⟨k, h3, h4⟩
theorem px_lt {D : va_G} {A : Nat → Prop} {H0 : Heap} {X : va_W} {L : List Nat} {f : Nat → va_E} {H : Heap} {locs : List Loc} (hw : SW D A H0 X L f H locs) {a : Nat} (h : a ∈ L) : a < H.size := va_pl_lt hw.1 h
theorem px_ix {X : va_W} {L : List Nat} {f : Nat → va_E} {a : Nat} {e : va_E} (h : a ∈ L) (hf : f a = e) : ∃ k : Nat, (X ++ va_pl L f)[k]? = some (a, e) ∧ (X ++ va_pl L f)[k]? = some (a, f a) := by
  obtain ⟨k, hk⟩ := va_pl_get (X := X) (f := f) h
  exact ⟨k, by rw [← hf]; exact hk, hk⟩
abbrev qr (n : Nat) (g : Nat → Option Nat) : vp_A := (n, .inr (.inr (.inr (.inr g))))
section PX
variable {p : Program} {l : Launch} {e : Env} {R : Room} {s : State} {m : MethodId} {args : Array Value} {below : List Frame} {meth : Method} {c : Code} {H : Heap} {locs : List Loc} {cells slots : Nat} {Q : State → Prop}
variable {cc : ByteArray} {pc nL : Nat} {Ts : List Cond} {own : String} {ls : Array Slot} {rest st0 : List Value} {D : va_G} {A : Nat → Prop} {a : Nat} {cI cR : ClassId} {X : va_W} {L : List Nat} {f : Nat → va_E} {H0 : Heap}
variable {post : pxP} {mc ms : Nat}
theorem px_iret (S : CallFix p m c cc nL s args Ts own) (hr : meth.sig.returnType = some .int) (hlocks : meth.locks = false) (hw : SW D A s.heap [] L f H locs) {v : Int32} (hp : post (some (.int v)) L f) (hdg : decode cc pc = .ok (.ireturn, 1)) (hc : cells ≤ mc) (hs : slots ≤ ms) :
    W p l e R s m args below meth c H locs cells slots (gZX below D post A args s mc ms) (F0 m pc ls [.int v]) := by
  refine W.widen hc hs ?_
  exact W.iret S.1 S.2.1 hr (fun t ht hW => ⟨⟨_, L, f, rfl, hp, by rw [ht]; exact hw.1, hw.2.1⟩, hw.2.2.F ht⟩) hw.2.2.2.2 hdg hlocks
theorem px_zret (S : CallFix p m c cc nL s args Ts own) (hr : meth.sig.returnType = some .boolean) (hlocks : meth.locks = false) (hw : SW D A s.heap [] L f H locs) {v : Int32} (hz : v = 0 ∨ v = 1) (hp : post (some (.int v)) L f) (hdg : decode cc pc = .ok (.ireturn, 1)) (hc : cells ≤ mc) (hs : slots ≤ ms) :
    W p l e R s m args below meth c H locs cells slots (gZX below D post A args s mc ms) (F0 m pc ls [.int v]) := by
  refine W.widen hc hs ?_
  exact W.zret S.1 S.2.1 hr (by rcases hz with rfl | rfl <;> rfl) (fun t ht hW => ⟨⟨_, L, f, rfl, hp, by rw [ht]; exact hw.1, hw.2.1⟩, hw.2.2.F ht⟩) hw.2.2.2.2 hdg hlocks
theorem px_vret (S : CallFix p m c cc nL s args Ts own) (hr : meth.sig.returnType = none) (hlocks : meth.locks = false) (hw : SW D A s.heap [] L f H locs) (hp : post none L f) (hdg : decode cc pc = .ok (.return_, 1)) (hc : cells ≤ mc) (hs : slots ≤ ms) :
    W p l e R s m args below meth c H locs cells slots (gZX below D post A args s mc ms) (F0 m pc ls []) := by
  refine W.widen hc hs ?_
  exact W.vret S.1 S.2.1 hr (fun t ht hW => ⟨⟨_, L, f, rfl, hp, by rw [ht]; exact hw.1, hw.2.1⟩, hw.2.2.F ht⟩) hw.2.2.2.2 hdg hlocks
theorem px_aret {rt : FieldType} (S : CallFix p m c cc nL s args Ts own) (hr : meth.sig.returnType = some rt) (hrt : (∃ n, rt = .object n) ∨ ∃ t, rt = .array t) (hlocks : meth.locks = false) (hw : SW D A s.heap [] L f H locs) {v : Nat} (hp : post (some (.ref v)) L f) (hdg : decode cc pc = .ok (.areturn, 1)) (hc : cells ≤ mc) (hs : slots ≤ ms) :
    W p l e R s m args below meth c H locs cells slots (gZX below D post A args s mc ms) (F0 m pc ls [.ref v]) := by
  refine W.widen hc hs ?_
  exact W.aret S.1 S.2.1 hr hrt (Or.inr ⟨v, rfl⟩) (fun t ht hW => ⟨⟨_, L, f, rfl, hp, by rw [ht]; exact hw.1, hw.2.1⟩, hw.2.2.F ht⟩) hw.2.2.2.2 hdg hlocks
/-- getfield -/
theorem px_get (S : CallFix p m c cc nL s args Ts own) (ci k i : Nat) {ref C : String} {T : u_T} {N index : Nat} {fs : List Value} {v : Value} (hin : ∀ w ∈ u_ws C T N, w ∈ Ts) {tys : List (ClassId × FieldType)} (hK : va_K D vwCl tys s) (hw : SW D A H0 X L f H locs) (hL : a ∈ L) (hf : f a = .inr (ci, fs)) (hdg : decode cc pc = .ok (.getfield index, 3)) (hc : vwCl[ci]? = some (C, T, N)) (hv : fs[k]? = some v) (hk : k < N) (hlink : Ts[i]? = some (Cond.fieldLink own index ref (T k).2.1 (T k).2.2.1)) (href : (T k).1 = ref)
    (kk : W p l e R s m args below meth c H locs cells slots Q (F0 m (pc + 3) ls (v :: rest))) : W p l e R s m args below meth c H locs cells slots Q (F0 m pc ls (.ref a :: rest)) := by
  obtain ⟨q0, he, -⟩ := px_ix (X := X) hL hf
  exact gt_get S q0 ci k i hin hK hw.1 hdg hc he hv hk hlink href kk
/-- putfield -/
theorem px_put (S : CallFix p m c cc nL s args Ts own) (ci k i : Nat) {ref C : String} {T : u_T} {N index : Nat} {fs : List Value} {v : Value} {ty : FieldType} (hin : ∀ w ∈ u_ws C T N, w ∈ Ts) {ty0 : Nat → FieldType} (hty : ∀ k, k < N → parseFieldDescriptor (T k).2.2.1 = some (ty0 k)) (hnm : ∀ a, a < N → ∀ b, b < N → a ≠ b → (T a).2.1 ≠ (T b).2.1) {tys : List (ClassId × FieldType)} (hK : va_K D vwCl tys s) (hw : SW D A H0 X L f H locs) (hL : a ∈ L) (hf : f a = .inr (ci, fs)) (hdg : decode cc pc = .ok (.putfield index, 3)) (hc : vwCl[ci]? = some (C, T, N)) (hk : k < N) (hlink : Ts[i]? = some (Cond.fieldLink own index ref (T k).2.1 (T k).2.2.1)) (href : (T k).1 = ref) (hfin : (T k).2.2.2 = false) (hd : ty0 k = ty) (hnar : narrow ty v = v) (hfit : fits ty v = true) (hl : k < fs.length)
    (kk : ∀ (H1 : Heap) (locs1 : List Loc), SW D A H0 X L (va_up f a (.inr (ci, fs.set k v))) H1 locs1 → W p l e R s m args below meth c H1 locs1 cells slots Q (F0 m (pc + 3) ls rest)) : W p l e R s m args below meth c H locs cells slots Q (F0 m pc ls (v :: .ref a :: rest)) := by
  obtain ⟨q0, he, he2⟩ := px_ix (X := X) hL hf
  refine va_put (ci := ci) (ty := ty) (v := v) S.1 S.2.1 S.2.2.2.2 hin ty0 hty hnm S.2.2.2.1 hK hw.1 hw.2.1 hw.2.2 q0 he hc k hk (S.2.2.2.2 _ (List.mem_of_getElem? hlink)) (fun x h => by rw [← href]; exact h) hfin (by rw [hty k hk, hd]) hnar hfit hl hdg (fun H1 locs1 h1 h2 h3 => kk H1 locs1 ?_)
  rw [va_pl_set hw.2.1 hL he2] at h1 h2
  exact ⟨h1, h2, h3⟩
/-- a number of a row is read -/
theorem px_ild (S : CallFix p m c cc nL s args Ts own) (j : Nat) {n : Nat} {g : Nat → Int32} {x v : Int32} (hK : va_K D vwCl (tyS cI cR) s) (hw : SW D A H0 X L f H locs) (hL : a ∈ L) (hf : f a = .inl (cI, n, .inl g)) (hdg : decode cc pc = .ok (.iaload, 1)) (hx : x = nI j) (hj : j < n) (hn : n < 2 ^ 31) (hv : g j = v)
    (kk : W p l e R s m args below meth c H locs cells slots Q (F0 m (pc + 1) ls (.int v :: rest))) : W p l e R s m args below meth c H locs cells slots Q (F0 m pc ls (.int x :: .ref a :: rest)) := by
  subst hv
  obtain ⟨q0, he, -⟩ := px_ix (X := X) hL hf
  exact gt_ald S q0 0 j hK hw.1 hdg he rfl hx hj hn kk
/-- .. and written -/
theorem px_ist (S : CallFix p m c cc nL s args Ts own) (j : Nat) {n : Nat} {g : Nat → Int32} {x v : Int32} (hK : va_K D vwCl (tyS cI cR) s) (hw : SW D A H0 X L f H locs) (hL : a ∈ L) (hf : f a = .inl (cI, n, .inl g)) (hdg : decode cc pc = .ok (.iastore, 1)) (hx : x = nI j) (hj : j < n) (hn : n < 2 ^ 31)
    (kk : ∀ (H1 : Heap) (locs1 : List Loc), SW D A H0 X L (va_up f a (.inl (cI, n, .inl (upd g j v)))) H1 locs1 → W p l e R s m args below meth c H1 locs1 cells slots Q (F0 m (pc + 1) ls rest)) : W p l e R s m args below meth c H locs cells slots Q (F0 m pc ls (.int v :: .int x :: .ref a :: rest)) := by
  obtain ⟨q0, he, he2⟩ := px_ix (X := X) hL hf
  refine gt_ast S q0 0 j hK hw.1 hw.2.1 hw.2.2 hdg he rfl hx hj hn rfl (fun H1 locs1 h1 h2 h3 => kk H1 locs1 ?_)
  rw [va_pl_set hw.2.1 hL he2] at h1 h2
  exact ⟨h1, h2, h3⟩
/-- a row of rows is read -/
theorem px_ald (S : CallFix p m c cc nL s args Ts own) (j : Nat) {n b : Nat} {g : Nat → Option Nat} {x : Int32} (hK : va_K D vwCl (tyS cI cR) s) (hw : SW D A H0 X L f H locs) (hL : a ∈ L) (hf : f a = .inl (cR, qr n g)) (hdg : decode cc pc = .ok (.aaload, 1)) (hx : x = nI j) (hj : j < n) (hn : n < 2 ^ 31) (hv : g j = some b)
    (kk : W p l e R s m args below meth c H locs cells slots Q (F0 m (pc + 1) ls (.ref b :: rest))) : W p l e R s m args below meth c H locs cells slots Q (F0 m pc ls (.int x :: .ref a :: rest)) := by
  subst hx
  obtain ⟨q0, he, -⟩ := px_ix (X := X) hL hf
  have hin := vp_in_nI hj hn
  have hcl : (nI j).toNatClampNeg = j := nI_clamp (by omega)
  have hb : va_rf (g (nI j).toNatClampNeg) = .ref b := by rw [hcl, hv]; rfl
  rw [← hb] at kk
  have hlt : (nI j).toNatClampNeg < n := Nat.not_le.mp fun q => hin (Or.inr q)
  exact W.aald (v := va_rf (g (nI j).toNatClampNeg)) (ty := .array .int) S.1 S.2.1 (hw.1 q0 _ he) ((hK.2 1 _ rfl).1 n (fun j => va_rf (g j))) rfl (fun q => by cases q) (by show ¬ (_ < 0 ∨ (arrV _ _ _).slots.size ≤ _); rw [arrV_size]; exact hin) (by show (arrV _ _ _).slots[_]? = _; rw [arrV_read _ _ hlt]) rfl rfl hdg kk
/-- .. and written -/
theorem px_ast (S : CallFix p m c cc nL s args Ts own) (j : Nat) {n b : Nat} {y : vp_A} {g : Nat → Option Nat} {x : Int32} (hE : SE s) (hK : va_K D vwCl (tyS cI cR) s) (hw : SW D A H0 X L f H locs) (hL : a ∈ L) (hf : f a = .inl (cR, qr n g)) (hbL : b ∈ L) (hbf : f b = .inl (cI, y)) (hdg : decode cc pc = .ok (.aastore, 1)) (hx : x = nI j) (hj : j < n) (hn : n < 2 ^ 31)
    (kk : ∀ (H1 : Heap) (locs1 : List Loc), SW D A H0 X L (va_up f a (.inl (cR, qr n (va_up g j (some b))))) H1 locs1 → W p l e R s m args below meth c H1 locs1 cells slots Q (F0 m (pc + 1) ls rest)) : W p l e R s m args below meth c H locs cells slots Q (F0 m pc ls (.ref b :: .int x :: .ref a :: rest)) := by
  subst hx
  obtain ⟨q0, he, he2⟩ := px_ix (X := X) hL hf
  obtain ⟨qb, hbe, -⟩ := px_ix (X := X) hbL hbf
  have hin := vp_in_nI hj hn
  have hcl : (nI j).toNatClampNeg = j := nI_clamp (by omega)
  have hlt : (nI j).toNatClampNeg < n := Nat.not_le.mp fun q => hin (Or.inr q)
  have h0 : ¬ nI j < 0 := fun q => hin (Or.inl q)
  obtain ⟨kA, k1, k2⟩ := px_nm hE hK
  have hcb : H[b]? = some (vp_cell cI y) := hw.1 qb _ hbe
  have hvm0 : (vp_cell cI y).vm = .none := by
    obtain ⟨n, f | f | f | f | f⟩ := y <;> rfl
  have hcl0 : (vp_cell cI y).cls = cI := by
    obtain ⟨n, f | f | f | f | f⟩ := y <;> rfl
  obtain ⟨-, kI, hkI, -⟩ := (hK.2 0 _ rfl).1 0 (fun _ => .null)
  refine W.aast (t := .array .int) S.1 S.2.1 (hw.1 q0 _ he) (fun q h => by cases h) (fun h => by cases h) k1 k2 rfl hkI ⟨h0, by show _ < (arrV _ _ _).slots.size; rw [arrV_size]; exact hlt⟩ hcb (fun q h => by rw [hvm0] at h; cases h) (by rw [hcl0]; exact hkI) (by rw [hcl0]; exact va_asg _ _) rfl rfl hdg fun H1 e z oq => ?_
  have hP1 : va_P D vwCl ((X ++ va_pl L f).set q0 (a, .inl (cR, qr n (va_up g j (some b))))) H1 := by
    refine hw.1.set hw.2.1 he ?_ oq
    show H1[a]? = some (vp_cell _ _)
    rw [e]
    rw [vp_cell_q, vp_cell_q, arrV_store, hcl]
    congr 2
    funext q
    by_cases hq : q = j
    · subst hq
      simp [updV, va_up, va_rf]
    · simp [updV, va_up, hq]
  have hD1 : va_D A ((X ++ va_pl L f).set q0 (a, .inl (cR, qr n (va_up g j (some b))))) := hw.2.1.set he
  rw [va_pl_set hw.2.1 hL he2] at hP1 hD1
  exact kk H1 _ ⟨hP1, hD1, hw.2.2.put z oq (hw.2.1.2 q0 _ he)⟩
/-- a row's length -/
theorem px_len (S : CallFix p m c cc nL s args Ts own) (t0 : Nat) {cA : ClassId} {ty : FieldType} {x : vp_A} {v : Int32} {tys : List (ClassId × FieldType)} (hK : va_K D vwCl tys s) (hw : SW D A H0 X L f H locs) (hL : a ∈ L) (hf : f a = .inl (cA, x)) (ht : tys[t0]? = some (cA, ty)) (hv : Int32.ofNat x.1 = v) (hdg : decode cc pc = .ok (.arraylength, 1))
    (kk : W p l e R s m args below meth c H locs cells slots Q (F0 m (pc + 1) ls (.int v :: rest))) : W p l e R s m args below meth c H locs cells slots Q (F0 m pc ls (.ref a :: rest)) := by
  obtain ⟨q0, he, -⟩ := px_ix (X := X) hL hf
  exact va_alen S.1 S.2.1 hK hw.1 q0 t0 he ht hv hdg kk
/-- one cell more -/
theorem px_more {D : va_G} {A : Nat → Prop} {H0 H1 : Heap} {X : va_W} {L : List Nat} {f : Nat → va_E} {q : Nat} {e : va_E} {locs : List Loc} (h1 : va_P D vwCl ((X ++ va_pl L f) ++ [(q, e)]) H1) (h2 : va_D A ((X ++ va_pl L f) ++ [(q, e)])) (h3 : va_S A H0 H1 locs) : q ∉ L ∧ SW D A H0 X (L ++ [q]) (va_up f q e) H1 locs := by
  have hq : q ∉ L := by
    intro hq
    obtain ⟨k, hk⟩ := va_pl_get (X := X) (f := f) hq
    have hl := (List.getElem?_eq_some_iff.mp hk).1
    have e1 : ((X ++ va_pl L f) ++ [(q, e)])[k]? = some (q, f q) := by rw [List.getElem?_append_left hl]; exact hk
    have e2 : ((X ++ va_pl L f) ++ [(q, e)])[(X ++ va_pl L f).length]? = some (q, e) := by simp
    have := h2.1 _ _ _ _ e1 e2 rfl
    omega
  have e9 : (X ++ va_pl L f) ++ [(q, e)] = X ++ va_pl (L ++ [q]) (va_up f q e) := by rw [List.append_assoc, va_pl_push hq]
  rw [e9] at h1 h2
  exact ⟨hq, h1, h2, h3⟩
/-- a new row of numbers -/
theorem px_newi (S : CallFix p m c cc nL s args Ts own) (i : Nat) (harr : Ts[i]? = some (Cond.arrayClass .int)) (hK : va_K D vwCl (tyS cI cR) s) (hw : SW D A H0 X L f H locs) (hA : ∀ q, H0.size ≤ q → A q) {n : Int32} (N' : Nat) (hn : n = nI N') (hN : N' < 2 ^ 20) (hroom : cells + 1 ≤ R.cells ∧ slots + N' ≤ R.slots) (hdg : decode cc pc = .ok (.newarray .int, 2))
    (kk : ∀ (q : Nat) (H1 : Heap), q ∉ L → SW D A H0 X (L ++ [q]) (va_up f q (.inl (cI, N', .inl (fun _ => 0)))) H1 locs → W p l e R s m args below meth c H1 locs (cells + 1) (slots + N') Q (F0 m (pc + 2) ls (.ref q :: rest))) : W p l e R s m args below meth c H locs cells slots Q (F0 m pc ls (.int n :: rest)) := by
  subst hn
  refine va_newa (atype := .int) (ty := .int) (a0 := (N', .inl (fun _ => 0))) S.1 S.2.1 (S.2.2.2.2 _ (List.mem_of_getElem? harr)) rfl hK hw.1 hw.2.1 hw.2.2 hA (fun _ => rfl) (nI_pos (by omega)) (nI_clamp (by omega)) (by show N' * 4 ≤ 536870912; omega) hroom.1 hroom.2 hdg (fun q cA H1 hK1 hP1 hD1 hS1 => ?_)
  have e1 := (hK1.2 2 (cA, .int) rfl).2
  have e2 := (hK.2 0 (cI, .int) rfl).2
  have e3 : cA = cI := Option.some.inj (e1.symm.trans e2)
  subst e3
  obtain ⟨g1, g2⟩ := px_more hP1 hD1 hS1
  exact kk q H1 g1 g2
/-- a new row of rows -/
theorem px_newr (S : CallFix p m c cc nL s args Ts own) (i : Nat) {index : Nat} (hlink : Ts[i]? = some (Cond.classLink own index "[I")) (hE : SE s) (hK : va_K D vwCl (tyS cI cR) s) (hw : SW D A H0 X L f H locs) (hA : ∀ q, H0.size ≤ q → A q) {n : Int32} (N' : Nat) (hn : n = nI N') (hN : N' < 2 ^ 20) (hroom : cells + 1 ≤ R.cells ∧ slots + N' ≤ R.slots) (hdg : decode cc pc = .ok (.anewarray index, 3))
    (kk : ∀ (q : Nat) (H1 : Heap), q ∉ L → SW D A H0 X (L ++ [q]) (va_up f q (.inl (cR, qr N' (fun _ => none)))) H1 locs → W p l e R s m args below meth c H1 locs (cells + 1) (slots + N') Q (F0 m (pc + 3) ls (.ref q :: rest))) : W p l e R s m args below meth c H locs cells slots Q (F0 m pc ls (.int n :: rest)) := by
  subst hn
  have e3 : (FieldType.array .int).toString = "[I" := by decide +kernel
  have hcl : (nI N').toNatClampNeg = N' := nI_clamp (by omega)
  have ho : (Cond.arrayOver (.array .int)).before args s = true := by
    have h := hE.1
    unfold Cond.before Cond.holds at h ⊢
    simp only [Cond.value] at h ⊢
    exact h
  refine W.anewA (t := .int) S.1 S.2.1 S.2.2.2.1 (by rw [e3]; exact S.2.2.2.2 _ (List.mem_of_getElem? hlink)) ho rfl hdg rfl (nI_pos (by omega)) (by rw [hcl]; omega) hroom.1 (by rw [hcl]; exact hroom.2) fun cA kA comp f1 f2 f3 f4 => ?_
  rw [hcl]
  have e2 : s.vm.findClass ("[" ++ (FieldType.array .int).toString) = some cR := (hK.2 1 _ rfl).2
  have e5 : cA = cR := Option.some.inj (f1.symm.trans e2)
  subst e5
  generalize hH1 : H.push ({ cls := cA, slots := Array.replicate N' .null, vm := .none } : Cell) = H1
  have z1 : H1.size = H.size + 1 := by rw [← hH1, Array.size_push]
  have e1 : H1[H.size]? = some (arrV cA N' (fun _ => .null)) := by rw [← hH1, Array.getElem?_push_size, ← arrV_new]
  have o1 : ∀ q : Nat, q < H.size → H1[q]? = H[q]? := fun q hq => by rw [← hH1, Array.getElem?_push, if_neg (Nat.ne_of_lt hq)]
  have hk : ∀ (k : Nat) (x : Nat × va_E), (X ++ va_pl L f)[k]? = some x → H1[x.1]? = H[x.1]? := fun k x hx => o1 x.1 ((hw.1 k x hx).lt)
  have hS := hw.2.2
  obtain ⟨g1, g2⟩ := px_more (q := H.size) (e := .inl (cA, qr N' (fun _ => none))) (H0 := H0) (locs := locs) ((hw.1.kept hk).app (fun k x hx => by
    have hz : k < 1 := (List.getElem?_eq_some_iff.mp hx).1
    rw [show k = 0 by omega] at hx
    cases hx
    show H1[H.size]? = some (vp_cell _ _)
    rw [vp_cell_q]
    exact e1)) (hw.2.1.push hw.1 rfl (hA _ hS.1)) ⟨Nat.le_trans hS.1 (by omega), fun x h1 h2 => (o1 x (Nat.lt_of_lt_of_le h1 hS.1)).trans (hS.2.1 x h1 h2), hS.2.2⟩
  exact kk H.size H1 g1 g2
/-- a row's copy -/
theorem px_clone (S : CallFix p m c cc nL s args Ts own) (i1 i2 i3 i4 i5 : Nat) {index : Nat} (hlink : Ts[i1]? = some (Cond.methodLink own index ⟨"[I", "clone", "()Ljava/lang/Object;"⟩)) (hsame : Ts[i2]? = some (Cond.sameMethod "[I" "java/lang/Object" "clone" "()Ljava/lang/Object;")) (hnat : Ts[i3]? = some (Cond.native ⟨"java/lang/Object", "clone", "()Ljava/lang/Object;"⟩)) (hinst : Ts[i4]? = some (Cond.instanceMethod ⟨"java/lang/Object", "clone", "()Ljava/lang/Object;"⟩)) (hsel : Ts[i5]? = some (Cond.selects "[I" ⟨"[I", "clone", "()Ljava/lang/Object;"⟩ ⟨"java/lang/Object", "clone", "()Ljava/lang/Object;"⟩)) (hE : SE s) (hK : va_K D vwCl (tyS cI cR) s) (hw : SW D A H0 X L f H locs) (hA : ∀ q, H0.size ≤ q → A q) (hL : a ∈ L) {n : Nat} {g : Nat → Int32} (hf : f a = .inl (cI, n, .inl g)) (hlL : ls.size = nL) (hframes : 1 ≤ R.frames) (hlocals : (rest.map fun v => v.category).sum + 14 ≤ R.locals) (hroom : cells + 1 ≤ R.cells ∧ slots + n ≤ R.slots) (hdg : decode cc pc = .ok (.invokevirtual index, 3))
    (kk : ∀ (q : Nat) (H1 : Heap), q ∉ L → SW D A H0 X (L ++ [q]) (va_up f q (.inl (cI, n, .inl g))) H1 locs → W p l e R s m args below meth c H1 locs (cells + 1) (slots + n) Q (F0 m (pc + 3) ls (.ref q :: rest))) : W p l e R s m args below meth c H locs cells slots Q (F0 m pc ls (.ref a :: rest)) := by
  obtain ⟨q0, he, -⟩ := px_ix (X := X) hL hf
  refine va_clone (ad := "[I") (x := (n, .inl g)) S.1 S.2.1 (S.2.2.1.trans hlL.symm) S.2.2.2.1 (S.2.2.2.2 _ (List.mem_of_getElem? hlink)) (S.2.2.2.2 _ (List.mem_of_getElem? hsame)) (S.2.2.2.2 _ (List.mem_of_getElem? hnat)) (S.2.2.2.2 _ (List.mem_of_getElem? hinst)) (S.2.2.2.2 _ (List.mem_of_getElem? hsel)) hE.2 hK hw.1 hw.2.1 hw.2.2 hA q0 0 he rfl (va_nm_int (hK.2 0 _ rfl).2) (va_fit (F := fun j => .int (g j)) (fun _ _ => rfl)) hframes hlocals hroom.1 hroom.2 hdg (fun q H1 hK1 hP1 hD1 hS1 => ?_)
  obtain ⟨g1, g2⟩ := px_more hP1 hD1 hS1
  exact kk q H1 g1 g2
/-- a new object -/
theorem px_new (S : CallFix p m c cc nL s args Ts own) (ci i1 i2 i3 : Nat) {C : String} {T : u_T} {N index : Nat} (hin : ∀ w ∈ u_ws C T N, w ∈ Ts) {ty : Nat → FieldType} (hty : ∀ k, k < N → parseFieldDescriptor (T k).2.2.1 = some (ty k)) (hcl : Ts[i1]? = some (Cond.classLink own index C)) (hinst : Ts[i2]? = some (Cond.instantiable C N)) (hini : Ts[i3]? = some (Cond.initialized C)) {tys : List (ClassId × FieldType)} (hK : va_K D vwCl tys s) (hw : SW D A H0 X L f H locs) (hA : ∀ q, H0.size ≤ q → A q) (hc : vwCl[ci]? = some (C, T, N)) {fs : List Value} (hfs : ∀ j, j < N → defaultValue (ty j) = vp_V fs j) (hroom : cells + 1 ≤ R.cells ∧ slots + N ≤ R.slots) (hdg : decode cc pc = .ok (.new index, 3))
    (kk : ∀ (q : Nat) (H1 : Heap), q ∉ L → SW D A H0 X (L ++ [q]) (va_up f q (.inr (ci, fs))) H1 locs → W p l e R s m args below meth c H1 locs (cells + 1) (slots + N) Q (F0 m (pc + 3) ls (.ref q :: rest))) : W p l e R s m args below meth c H locs cells slots Q (F0 m pc ls rest) := by
  refine va_new (ci := ci) (fs := fs) (C := C) (T := T) (N := N) S.1 S.2.1 S.2.2.2.2 hin ty hty S.2.2.2.1 (S.2.2.2.2 _ (List.mem_of_getElem? hcl)) (S.2.2.2.2 _ (List.mem_of_getElem? hinst)) (S.2.2.2.2 _ (List.mem_of_getElem? hini)) hK hw.1 hw.2.1 hw.2.2 hA hc hfs hroom.1 hroom.2 hdg (fun q H1 hP1 hD1 hS1 => ?_)
  obtain ⟨g1, g2⟩ := px_more hP1 hD1 hS1
  exact kk q H1 g1 g2
/-- the pool alone, out of the world -/
theorem px_part {D : va_G} {A : Nat → Prop} {H0 : Heap} {X : va_W} {L : List Nat} {f : Nat → va_E} {H : Heap} {locs : List Loc} (hw : SW D A H0 X L f H locs) : va_P D vwCl (va_pl L f) H ∧ va_D A (va_pl L f) := by
  refine ⟨gt_Pm.mpr fun q hq => gt_Pm.mp hw.1 q (List.mem_append_right _ hq), ?_⟩
  have h := gt_Dm.mp hw.2.1
  refine gt_Dm.mpr ⟨?_, fun q hq => h.2 q (List.mem_append_right _ hq)⟩
  have h1 := h.1
  rw [List.map_append, List.nodup_append] at h1
  exact h1.2.1
/-- behind a call of a contract over the pool -/
theorem px_run0 {av : Array Value} (hr : va_Run p l e R s m args below meth c H locs cells slots mc ms (F0 m pc ls st0) rest (gQX D post (va_A (va_pl L f) H.size) av) (va_A (va_pl L f) H.size)) (hw : SW D A H0 X L f H locs) (hA : ∀ q, H0.size ≤ q → A q)
    (kk : ∀ (rv : Option Value) (L1 : List Nat) (f1 : Nat → va_E) (H1 : Heap) (locs1 : List Loc), post rv L1 f1 → SW D A H0 X L1 f1 H1 locs1 → W p l e R s m args below meth c H1 locs1 (cells + mc) (slots + ms) Q (F0 m (pc + 3) ls (rv.toList ++ rest))) : W p l e R s m args below meth c H locs cells slots Q (F0 m pc ls st0) := by
  obtain ⟨-, hDw⟩ := px_part hw
  obtain ⟨hP, hD, hS⟩ := hw
  have hF : ∀ q, va_A (va_pl L f) H.size q → A q := by
    rintro q (⟨k, e9, h⟩ | h)
    · exact hDw.2 k (q, e9) h
    · exact hA q (Nat.le_trans hS.1 h)
  intro T hT Y
  obtain ⟨v, st₀, t, T', Lc, h0, Y', hL, e1, e2, ⟨⟨rv9, L1, f1, hv, hp, hP', hD'⟩, hz, hk⟩, st⟩ := hr T hT Y
  cases hv
  rw [h0] at hz hk
  have e0 : X ++ va_pl L f = X ++ (va_pl L f ++ []) := by rw [List.append_nil]
  rw [e0] at hP hD
  obtain ⟨j1, j2⟩ := gt_swap hP hD (H1 := T'.heap) (fun q h1 h2 => by rw [e1]; exact hk q h1 h2) hF (by rw [e1]; exact hP') hD'
  rw [List.append_nil] at j1 j2
  obtain ⟨t2, a1, b1⟩ := kk _ L1 f1 T'.heap (locs ++ Lc) hp ⟨j1, j2,
    ⟨Nat.le_trans hS.1 (by rw [e1]; exact hz), fun q h1 h2 => by rw [e1, hk q (Nat.lt_of_lt_of_le h1 hS.1) (fun z => h2 (hF q z))]; exact hS.2.1 q h1 h2, fun q hq => by
      rcases List.mem_append.mp hq with h | h
      · exact hS.2.2 q h
      · exact hF _ (hL q h)⟩⟩ T' rfl Y'
  exact ⟨t2, st t2 a1, b1⟩
theorem px_pre {av : List Value} (hE : SE s) (hK : va_K D vwCl (tyS cI cR) s) (hw : SW D A H0 X L f H locs) : ∀ U : State, U.heap = H → s.WarmedH U.vm → gPX D cI cR av L f H.size av.toArray U := by
  obtain ⟨hPw, hDw⟩ := px_part hw
  exact fun U hU hW => ⟨rfl, by rw [hU], by rw [hU]; exact hPw, va_K.moved hW.alike hK, hDw.weaken (fun _ _ _ _ => trivial), hE.warm hW⟩
/-- an invokevirtual of such a contract -/
theorem px_callV (S : CallFix p m c cc nL s args Ts own) (ci n : Nat) {fr lo : Nat} {y : MethodName} {wsy : List Cond} {b : Nat} {As : List Value} {C : String} {index maxL : Nat} {bytes : ByteArray} {ret : Option FieldType} {T : u_T} {N : Nat} {fs : List Value} {ws0 : List Cond}
    (hM : CtX l D cI cR y wsy fr lo mc ms (.ref b :: As) L f post) (hG : GoodIn Ts (wsV own index C y wsy)) (hdg : decode cc pc = .ok (.invokevirtual index, 3)) (hE : SE s) (hK : va_K D vwCl (tyS cI cR) s) (hw : SW D A H0 X L f H locs) (hA : ∀ q, H0.size ≤ q → A q) (hlL : ls.size = nL)
    (hwy : wsy = Cond.code y bytes maxL ret :: ws0) (hd : y.cls = C ∧ y.cls ≠ "java/lang/invoke/MethodHandle" ∧ y.cls ≠ "java/lang/invoke/VarHandle" ∧ (parseMethodDescriptor y.desc).map (fun d => d.parameters.length) = some n) (hR : fr + 1 ≤ R.frames ∧ 8 + (maxL + 11) + lo ≤ R.locals) (hroom : cells + mc ≤ R.cells ∧ slots + ms ≤ R.slots)
    (hL : b ∈ L) (he : f b = .inr (ci, fs)) (hc : vwCl[ci]? = some (C, T, N)) (hn : As.length = n) (hst : st0 = As.reverse ++ .ref b :: rest) (hcat : (rest.map fun v => v.category).sum ≤ 8)
    (kk : ∀ (rv : Option Value) (L1 : List Nat) (f1 : Nat → va_E) (H1 : Heap) (locs1 : List Loc), post rv L1 f1 → SW D A H0 X L1 f1 H1 locs1 → W p l e R s m args below meth c H1 locs1 (cells + mc) (slots + ms) Q (F0 m (pc + 3) ls (rv.toList ++ rest))) : W p l e R s m args below meth c H locs cells slots Q (F0 m pc ls st0) := by
  obtain ⟨q0, hq, -⟩ := px_ix (X := X) hL he
  exact px_run0 (va_runV (C := C) (As := As) (rest := rest) S (hM H.size) (cwV n S.2.2.2.2 hG hwy rfl rfl hd hR) ⟨gPX_blind, va_recv hK hw.1 hc hq, px_pre hE hK hw⟩ rfl hn hlL hst (lv_room hcat) hdg hroom) hw hA kk
/-- an invokestatic of such a contract -/
theorem px_callS (S : CallFix p m c cc nL s args Ts own) (n : Nat) {fr lo : Nat} {y : MethodName} {wsy : List Cond} {As : List Value} {index maxL : Nat} {bytes : ByteArray} {ret : Option FieldType} {ws0 : List Cond}
    (hM : CtX l D cI cR y wsy fr lo mc ms As L f post) (hG : GoodIn Ts (va_wsS own index y wsy)) (hdg : decode cc pc = .ok (.invokestatic index, 3)) (hE : SE s) (hK : va_K D vwCl (tyS cI cR) s) (hw : SW D A H0 X L f H locs) (hA : ∀ q, H0.size ≤ q → A q) (hlL : ls.size = nL)
    (hwy : wsy = Cond.code y bytes maxL ret :: ws0) (hd : y.cls ≠ "java/lang/invoke/MethodHandle" ∧ y.cls ≠ "java/lang/invoke/VarHandle" ∧ (parseMethodDescriptor y.desc).map (fun d => d.parameters.length) = some n) (hR : fr + 1 ≤ R.frames ∧ 8 + (maxL + 11) + lo ≤ R.locals) (hroom : cells + mc ≤ R.cells ∧ slots + ms ≤ R.slots)
    (hn : As.length = n) (hst : st0 = As.reverse ++ rest) (hcat : (rest.map fun v => v.category).sum ≤ 8)
    (kk : ∀ (rv : Option Value) (L1 : List Nat) (f1 : Nat → va_E) (H1 : Heap) (locs1 : List Loc), post rv L1 f1 → SW D A H0 X L1 f1 H1 locs1 → W p l e R s m args below meth c H1 locs1 (cells + mc) (slots + ms) Q (F0 m (pc + 3) ls (rv.toList ++ rest))) : W p l e R s m args below meth c H locs cells slots Q (F0 m pc ls st0) :=
  px_run0 (va_runS (As := As) (rest := rest) S (hM H.size) (va_cwS n S.2.2.2.2 hG hwy rfl rfl hd hR) ⟨gPX_blind, px_pre hE hK hw⟩ rfl hn hlL hst (lv_room hcat) hdg hroom) hw hA kk
/-- a loop whose turns are told by a number; x: what else there is -/
theorem px_loop {σ : Type} (N : Nat) (cf sf : Nat → Nat) (I : Nat → σ → Heap → List Loc → Array Slot → Prop) (x0 : σ) (h0 : I 0 x0 H locs ls) (hc : cells ≤ cf 0) (hs : slots ≤ sf 0)
    (step : ∀ i, i < N → ∀ (x : σ) (H : Heap) (locs : List Loc) (ls : Array Slot), I i x H locs ls → (∀ (x : σ) (H : Heap) (locs : List Loc) (ls : Array Slot) (c1 s1 : Nat), I (i + 1) x H locs ls → c1 ≤ cf (i + 1) → s1 ≤ sf (i + 1) → W p l e R s m args below meth c H locs c1 s1 Q (F0 m pc ls rest)) → W p l e R s m args below meth c H locs (cf i) (sf i) Q (F0 m pc ls rest))
    (exit : ∀ (x : σ) (H : Heap) (locs : List Loc) (ls : Array Slot), I N x H locs ls → W p l e R s m args below meth c H locs (cf N) (sf N) Q (F0 m pc ls rest)) : W p l e R s m args below meth c H locs cells slots Q (F0 m pc ls rest) := by
  have key : ∀ k i, i + k = N → ∀ (x : σ) (H : Heap) (locs : List Loc) (ls : Array Slot), I i x H locs ls → W p l e R s m args below meth c H locs (cf i) (sf i) Q (F0 m pc ls rest) := by
    intro k
    induction k with
    | zero => intro i hi x H locs ls h1; obtain rfl : i = N := by omega
              exact exit x H locs ls h1
    | succ k ih =>
      intro i hi x H locs ls h1
      exact step i (by omega) x H locs ls h1 (fun x H locs ls c1 s1 h2 hc1 hs1 => W.widen hc1 hs1 (ih (i + 1) (by omega) x H locs ls h2))
  exact W.widen hc hs (key N 0 (by omega) x0 H locs ls h0)
end PX
