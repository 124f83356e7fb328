/-! Contracts of the law's own methods, and of isSame: a tower beside a pool of cells; the script beside them. -/
def LE (b n : Nat) (xs : Nat → Int32) (A : Nat → Prop) (U : State) : Prop := SE U ∧ gTh A U U.heap ∧ va_X b n xs U U.heap ∧ b < U.heap.size ∧ (¬ A b) ∧ va_Nw (.methodLinkNest RL 64 yX2_init RL) U
theorem LE.on {b n : Nat} {xs : Nat → Int32} {A B : Nat → Prop} {s U : State} {H : Heap} {locs : List Loc} (h : LE b n xs A s) (hS : va_S A s.heap H locs) (hAB : ∀ q, B q → A q) (hW : s.WarmedH U.vm) (hU : U.heap = H) : LE b n xs B U := by
  obtain ⟨h1, h2, h3, h4, h5, h6⟩ := h
  refine ⟨h1.warm hW, by rw [hU]; exact h2.on hS hAB hW, ?_, by rw [hU]; exact Nat.lt_of_lt_of_le h4 hS.1, fun z => h5 (hAB b z), h6.warmM hW⟩
  rw [hU]
  exact (h3.kept (hS.2.1 b h4 h5)).moved hW.alike
abbrev plP : Type := Option Value → va_W → List Nat → (Nat → va_E) → Prop
def gPL (D : va_G) (cI cR : ClassId) (b n : Nat) (xs : Nat → Int32) (av : List Value) (X : va_W) (L : List Nat) (f : Nat → va_E) (sz : Nat) : Array Value → State → Prop := va_Pc av (fun U => U.heap.size = sz ∧ va_P D vwCl (X ++ va_pl L f) U.heap ∧ va_K D vwCl (tyS cI cR) U ∧ va_D (fun _ => True) (X ++ va_pl L f) ∧ LE b n xs (va_A (X ++ va_pl L f) sz) U)
def gQL (D : va_G) (post : plP) (A : Nat → Prop) : Array Value → State → Outcome → State → Prop := fun _ st oc t => (∃ (rv : Option Value) (X : va_W) (L : List Nat) (f : Nat → va_E), oc = .returned rv ∧ post rv X L f ∧ va_P D vwCl (X ++ va_pl L f) t.heap ∧ va_D A (X ++ va_pl L f)) ∧ va_F A st t
/-- a contract over tower and pool -/
def CtL (l : Launch) (D : va_G) (cI cR : ClassId) (b n : Nat) (xs : Nat → Int32) (y : MethodName) (wsy : List Cond) (fr lo mc ms : Nat) (av : List Value) (X : va_W) (L : List Nat) (f : Nat → va_E) (post : plP) : Prop :=
  ∀ sz : Nat, Met l y wsy ({ frames := fr, cells := mc, slots := ms, locals := lo } : Room) (gPL D cI cR b n xs av X L f sz) (gQL D post (va_A (X ++ va_pl L f) sz)) mc ms (va_A (X ++ va_pl L f) sz)
/-- .. of a method that catches -/
def CwL (l : Launch) (D : va_G) (cI cR : ClassId) (b n : Nat) (xs : Nat → Int32) (y : MethodName) (wsy : List Cond) (fr lo mc ms : Nat) (av : List Value) (X : va_W) (L : List Nat) (f : Nat → va_E) (post : plP) : Prop :=
  ∀ sz : Nat, vx_Met l y wsy ({ frames := fr, cells := mc, slots := ms, locals := lo } : Room) (gPL D cI cR b n xs av X L f sz) (gQL D post (va_A (X ++ va_pl L f) sz)) (fun _ _ _ => False) mc ms (va_A (X ++ va_pl L f) sz)
theorem gPL_blind {D : va_G} {cI cR : ClassId} {b n : Nat} {xs : Nat → Int32} {av : List Value} {X : va_W} {L : List Nat} {f : Nat → va_E} {sz : Nat} : FrameBlind (gPL D cI cR b n xs av X L f sz) := by
  intro a U g mk q
  obtain ⟨q0, q1, qP, qK, qD, qE⟩ := q
  exact ⟨q0, q1, qP, va_K.moved (u := U) (U := U.calling g mk a) (Vm.Alike.refl U.vm) qK, qD, qE.on (U := U.calling g mk a) va_S.rf (fun _ h => h) (State.WarmedH.refl U) rfl⟩
def gZL (below : List Frame) (D : va_G) (post : plP) (A : Nat → Prop) (args : Array Value) (s : State) (mc ms : Nat) : State → Prop := MQ below (gQL D post A) args s mc ms A
def gZW (below : List Frame) (D : va_G) (post : plP) (A : Nat → Prop) (args : Array Value) (s : State) (mc ms : Nat) : State → Prop := vx_MQ below (gQL D post A) (fun _ _ _ => False) args s mc ms A
theorem CtL.ofW {l : Launch} {D : va_G} {cI cR : ClassId} {b n : Nat} {xs : Nat → Int32} {y : MethodName} {wsy ws0 : List Cond} {fr lo mc ms : Nat} {av : List Value} {X : va_W} {L : List Nat} {f : Nat → va_E} {post : plP} {cc : ByteArray} {maxL : Nat} {ret : Option FieldType}
    (hy : plainName y.cls = true) (hw : wsy = Cond.code y cc maxL ret :: ws0) (hav : (lg_sl av).length ≤ maxL)
    (h : ∀ (p : Program) (e : Env) (s : State) (m : MethodId) (below : List Frame) (meth : Method) (c : Code) (A : Nat → Prop) (ls : Array Slot),
      CallFix p m c cc maxL s av.toArray wsy y.cls → meth.sig.returnType = ret → meth.locks = false → LE b n xs A s → SW D A s.heap X L f s.heap [] → va_K D vwCl (tyS cI cR) s → (∀ q, s.heap.size ≤ q → A q) → lv_has ls maxL (lv_args 0 av) →
      W p l e ({ frames := fr, cells := mc, slots := ms, locals := lo } : Room) s m av.toArray below meth c s.heap [] 0 0 (gZL below D post A av.toArray s mc ms) (F0 m 0 ls [])) : CtL l D cI cR b n xs y wsy fr lo mc ms av X L f post := by
  intro sz
  refine Met.ofW (cc := cc) (maxL := maxL) (ret := ret) hy hw ?_
  intro p e s m args below meth c s₁ B hml hv
  obtain ⟨rfl, hsz, hP, hK, hD0, hE⟩ := hv
  have hts := atoms_spec (ws := wsy) B.pre
  have hown : s.vm.findClass y.cls = some m.cls := findClass_of_methodNamed B.named
  subst hsz
  have hD := hD0.self (sz := s.heap.size)
  have hl := lv_entry av (n := maxL) hav
  rw [lg_entry_eq]
  exact h p e s m below meth c (va_A (X ++ va_pl L f) s.heap.size) _ ⟨B.exec, B.bytes, hml, hown, hts⟩ B.returns B.notSynchronized hE ⟨hP, hD, va_S.rf⟩ hK (fun q hq => Or.inr hq) hl
theorem CwL.ofW {l : Launch} {D : va_G} {cI cR : ClassId} {b n : Nat} {xs : Nat → Int32} {y : MethodName} {wsy ws0 : List Cond} {fr lo mc ms : Nat} {av : List Value} {X : va_W} {L : List Nat} {f : Nat → va_E} {post : plP} {cc : ByteArray} {maxL : Nat} {ret : Option FieldType} {hh : List (Nat × Nat × Nat × Nat)}
    (hy : plainName y.cls = true) (hw : wsy = Cond.codeWith y cc maxL ret hh :: ws0) (hav : (lg_sl av).length ≤ maxL)
    (h : ∀ (p : Program) (e : Env) (s : State) (m : MethodId) (below : List Frame) (meth : Method) (c : Code) (A : Nat → Prop) (ls : Array Slot),
      CallFix p m c cc maxL s av.toArray wsy y.cls → meth.sig.returnType = ret → meth.locks = false → c.exceptionTable.toList = tableOf hh → LE b n xs A s → SW D A s.heap X L f s.heap [] → va_K D vwCl (tyS cI cR) s → (∀ q, s.heap.size ≤ q → A q) → lv_has ls maxL (lv_args 0 av) →
      W p l e ({ frames := fr, cells := mc, slots := ms, locals := lo } : Room) s m av.toArray below meth c s.heap [] 0 0 (gZW below D post A av.toArray s mc ms) (F0 m 0 ls [])) : CwL l D cI cR b n xs y wsy fr lo mc ms av X L f post := by
  intro sz
  refine vx_ofWH (cc := cc) (maxL := maxL) (ret := ret) (hh := hh) hy hw ?_
  intro p e s m args below meth c s₁ B hml hv
  obtain ⟨rfl, hsz, hP, hK, hD0, hE⟩ := hv
  have hts := atoms_spec (ws := wsy) B.pre
  have hown : s.vm.findClass y.cls = some m.cls := findClass_of_methodNamed B.named
  have htab := vx_table (x := y) B (hts (Cond.codeWith y cc maxL ret hh) (by rw [hw]; exact List.mem_cons_self))
  subst hsz
  have hD := hD0.self (sz := s.heap.size)
  have hl := lv_entry av (n := maxL) hav
  rw [lg_entry_eq]
  exact h p e s m below meth c (va_A (X ++ va_pl L f) s.heap.size) _ ⟨B.exec, B.bytes, hml, hown, hts⟩ B.returns B.notSynchronized htab hE ⟨hP, hD, va_S.rf⟩ hK (fun q hq => Or.inr hq) hl
section GWR
variable {p : Program} {l : Launch} {e : Env} {R : Room} {s : State} {m : MethodId} {args : Array Value} {below : List Frame} {meth : Method} {c : Code} {H : Heap} {locs : List Loc} {cells slots : Nat} {Q : State → Prop}
variable {cc : ByteArray} {pc nL : Nat} {Ts : List Cond} {own : String} {ls : Array Slot} {rest st0 : List Value} {D : va_G} {A : Nat → Prop} {a : Nat} {tys : List (ClassId × FieldType)}
variable {mcC msC : Nat}
/-- an invokevirtual of a method that may throw, in a method that may catch -/
theorem gw_callV {tysC : List (ClassId × FieldType)} {xC : Option String} {rvC : Option Value} {w wC' wb : va_W} (S : CallFix p m c cc nL s args Ts own) (q0 ci n : Nat) {fr lo : Nat} {y : MethodName} {wsy : List Cond} {b : Nat} {As : List Value} {C : String} {index maxL : Nat} {bytes : ByteArray} {ret : Option FieldType} {T : u_T} {N : Nat} {fs : List Value} {ws0 : List Cond}
    (hM : Cx l D tysC y wsy fr lo mcC msC (.ref b :: As) w xC rvC wC') (hG : GoodIn Ts (wsV own index C y wsy)) (hdg : decode cc pc = .ok (.invokevirtual index, 3)) (hTh : gTh A s s.heap) (hK : va_K D vwCl tysC s) (hP : va_P D vwCl (w ++ wb) H) (hD : va_D A (w ++ wb)) (hS : va_S A s.heap H locs) (hA : ∀ q, s.heap.size ≤ q → A q) (hlL : ls.size = nL)
    (hwy : wsy = Cond.code y bytes maxL ret :: ws0) (hd : y.cls = C ∧ y.cls ≠ "java/lang/invoke/MethodHandle" ∧ y.cls ≠ "java/lang/invoke/VarHandle" ∧ (parseMethodDescriptor y.desc).map (fun d => d.parameters.length) = some n) (hR : fr + 1 ≤ R.frames ∧ 8 + (maxL + 11) + lo ≤ R.locals) (hroom : cells + mcC ≤ R.cells ∧ slots + msC ≤ R.slots)
    (he : w[q0]? = some (b, .inr (ci, fs))) (hc : vwCl[ci]? = some (C, T, N)) (hn : As.length = n) (hst : st0 = As.reverse ++ .ref b :: rest) (hcat : (rest.map fun v => v.category).sum ≤ 8)
    (kx : ∀ (E : String) (ce : Cell) (q9 : Addr) (H1 : Heap) (locs1 : List Loc), xC = some E → va_P D vwCl (w ++ wb) H1 → va_D A (w ++ wb) → va_S A s.heap H1 locs1 → H1[q9]? = some ce → ce.vm = .none → s.vm.findClass E = some ce.cls → vx_W p l e R s m args below meth c H1 locs1 (cells + mcC) (slots + msC) Q (F0 m pc ls rest) q9)
    (kk : xC = none → ∀ (H1 : Heap) (locs1 : List Loc), va_P D vwCl (wC' ++ wb) H1 → va_D A (wC' ++ wb) → va_S A s.heap H1 locs1 → W p l e R s m args below meth c H1 locs1 (cells + mcC) (slots + msC) Q (F0 m (pc + 3) ls (rvC.toList ++ rest))) : W p l e R s m args below meth c H locs cells slots Q (F0 m pc ls st0) := by
  have hPw : va_P D vwCl w H := gt_Pm.mpr fun q hq => gt_Pm.mp hP q (List.mem_append_left _ hq)
  have hDw : va_D A w := by
    have h := gt_Dm.mp hD
    refine gt_Dm.mpr ⟨?_, fun q hq => h.2 q (List.mem_append_left _ hq)⟩
    have h1 := h.1
    rw [List.map_append, List.nodup_append] at h1
    exact h1.1
  have hF : ∀ q, va_A w H.size q → A q := by
    rintro q (⟨k, e9, h⟩ | h)
    · exact hDw.2 k (q, e9) h
    · exact hA q (Nat.le_trans hS.1 h)
  refine gx_run0 (w := w) (vx_runV (C := C) (As := As) (rest := rest) S (hM H.size) (cwV n S.2.2.2.2 hG hwy rfl rfl hd hR) ⟨gPx_blind, va_recv hK hPw hc he, fun U hU hW => ⟨rfl, by rw [hU], by rw [hU]; exact hPw, va_K.moved hW.alike hK, hDw.weaken (fun _ _ _ _ => trivial), by rw [hU]; exact hTh.on hS hF hW⟩⟩ rfl hn hlL hst (lv_room hcat) hdg hroom) hDw hS hA (fun E ce q9 H1 locs1 g0 g1 g2 g3 g4 g5 g6 g7 g8 => ?_) (fun H1 locs1 g0 g1 g2 g3 g4 g5 => ?_)
  · obtain ⟨j1, j2⟩ := gt_swap (wa := []) (w := w) (wb := wb) (w' := w) hP hD g3 g4 g1 g2
    exact kx E ce q9 H1 locs1 g0 j1 j2 g5 g6 g7 g8
  · obtain ⟨j1, j2⟩ := gt_swap (wa := []) (w := w) (wb := wb) (w' := wC') hP hD g3 g4 g1 g2
    exact kk g0 H1 locs1 j1 j2 g5
end GWR
section LX
variable {p : Program} {l : Launch} {e : Env} {R : Room} {s : State} {m : MethodId} {args : Array Value} {below : List Frame} {meth : Method} {c : Code} {H : Heap} {locs : List Loc} {cells slots : Nat} {Q : State → Prop}
variable {cc : ByteArray} {pc nL : Nat} {Ts : List Cond} {own : String} {ls : Array Slot} {rest st0 : List Value} {D : va_G} {A : Nat → Prop} {a b n : Nat} {xs : Nat → Int32} {cI cR : ClassId} {X : va_W} {L : List Nat} {f : Nat → va_E}
variable {post : plP} {mc ms mcC msC : Nat}
theorem lx_zret (S : CallFix p m c cc nL s args Ts own) (hr : meth.sig.returnType = some .boolean) (hlocks : meth.locks = false) (hw : SW D A s.heap X L f H locs) {v : Int32} (hz : v = 0 ∨ v = 1) (hp : post (some (.int v)) X L f) (hdg : decode cc pc = .ok (.ireturn, 1)) (hc : cells ≤ mc) (hs : slots ≤ ms) :
    W p l e R s m args below meth c H locs cells slots (gZL below D post A args s mc ms) (F0 m pc ls [.int v]) := by
  refine W.widen hc hs ?_
  exact W.zret S.1 S.2.1 hr (by rcases hz with rfl | rfl <;> rfl) (fun t ht hW => ⟨⟨_, X, L, f, rfl, hp, by rw [ht]; exact hw.1, hw.2.1⟩, hw.2.2.F ht⟩) hw.2.2.2.2 hdg hlocks
theorem lx_aret {rt : FieldType} (S : CallFix p m c cc nL s args Ts own) (hr : meth.sig.returnType = some rt) (hrt : (∃ n, rt = .object n) ∨ ∃ t, rt = .array t) (hlocks : meth.locks = false) (hw : SW D A s.heap X L f H locs) {v : Nat} (hp : post (some (.ref v)) X L f) (hdg : decode cc pc = .ok (.areturn, 1)) (hc : cells ≤ mc) (hs : slots ≤ ms) :
    W p l e R s m args below meth c H locs cells slots (gZL below D post A args s mc ms) (F0 m pc ls [.ref v]) := by
  refine W.widen hc hs ?_
  exact W.aret S.1 S.2.1 hr hrt (Or.inr ⟨v, rfl⟩) (fun t ht hW => ⟨⟨_, X, L, f, rfl, hp, by rw [ht]; exact hw.1, hw.2.1⟩, hw.2.2.F ht⟩) hw.2.2.2.2 hdg hlocks
theorem lx_zretW (S : CallFix p m c cc nL s args Ts own) (hr : meth.sig.returnType = some .boolean) (hlocks : meth.locks = false) (hw : SW D A s.heap X L f H locs) {v : Int32} (hz : v = 0 ∨ v = 1) (hp : post (some (.int v)) X L f) (hdg : decode cc pc = .ok (.ireturn, 1)) (hc : cells ≤ mc) (hs : slots ≤ ms) :
    W p l e R s m args below meth c H locs cells slots (gZW below D post A args s mc ms) (F0 m pc ls [.int v]) := by
  refine vx_ret (W.widen hc hs ?_)
  exact W.zret S.1 S.2.1 hr (by rcases hz with rfl | rfl <;> rfl) (fun t ht hW => ⟨⟨_, X, L, f, rfl, hp, by rw [ht]; exact hw.1, hw.2.1⟩, hw.2.2.F ht⟩) hw.2.2.2.2 hdg hlocks
theorem lx_cov {Q : ExceptionTableEntry → Prop} {pre : List ExceptionTableEntry} {pc : Nat} (h : (pre.all fun z => !covers z pc) = true) : ∀ z ∈ pre, covers z pc = false ∨ Q z := fun z hz => Or.inl (by
  have h1 := List.all_eq_true.mp h z hz
  revert h1
  cases covers z pc
  · exact fun _ => rfl
  · exact fun h1 => absurd h1 (by decide))
theorem lx_iret (S : CallFix p m c cc nL s args Ts own) (hr : meth.sig.returnType = some .int) (hlocks : meth.locks = false) (hw : SW D A s.heap X L f H locs) {v : Int32} (hp : post (some (.int v)) X L f) (hdg : decode cc pc = .ok (.ireturn, 1)) (hc : cells ≤ mc) (hs : slots ≤ ms) :
    W p l e R s m args below meth c H locs cells slots (gZL below D post A args s mc ms) (F0 m pc ls [.int v]) := by
  refine W.widen hc hs ?_
  exact W.iret S.1 S.2.1 hr (fun t ht hW => ⟨⟨_, X, L, f, rfl, hp, by rw [ht]; exact hw.1, hw.2.1⟩, hw.2.2.F ht⟩) hw.2.2.2.2 hdg hlocks
theorem lx_hF (hw : SW D A s.heap X L f H locs) (hA : ∀ q, s.heap.size ≤ q → A q) : ∀ q, va_A (X ++ va_pl L f) H.size q → A q := by
  rintro q (⟨k, e9, h⟩ | h)
  · exact hw.2.1.2 k (q, e9) h
  · exact hA q (Nat.le_trans hw.2.2.1 h)
theorem lx_pre {av : List Value} (hE : LE b n xs A s) (hK : va_K D vwCl (tyS cI cR) s) (hw : SW D A s.heap X L f H locs) (hA : ∀ q, s.heap.size ≤ q → A q) : ∀ U : State, U.heap = H → s.WarmedH U.vm → gPL D cI cR b n xs av X L f H.size av.toArray U :=
  fun U hU hW => ⟨rfl, by rw [hU], by rw [hU]; exact hw.1, va_K.moved hW.alike hK, hw.2.1.weaken (fun _ _ _ _ => trivial), hE.on hw.2.2 (lx_hF hw hA) hW hU⟩
/-- behind a call over the whole world -/
theorem lx_run0 {av : Array Value} (hr : va_Run p l e R s m args below meth c H locs cells slots mcC msC (F0 m pc ls st0) rest (gQL D post (va_A (X ++ va_pl L f) H.size) av) (va_A (X ++ va_pl L f) H.size)) (hw : SW D A s.heap X L f H locs) (hA : ∀ q, s.heap.size ≤ q → A q)
    (kk : ∀ (rv : Option Value) (X1 : va_W) (L1 : List Nat) (f1 : Nat → va_E) (H1 : Heap) (locs1 : List Loc), post rv X1 L1 f1 → SW D A s.heap X1 L1 f1 H1 locs1 → W p l e R s m args below meth c H1 locs1 (cells + mcC) (slots + msC) Q (F0 m (pc + 3) ls (rv.toList ++ rest))) : W p l e R s m args below meth c H locs cells slots Q (F0 m pc ls st0) := by
  have hF := lx_hF hw hA
  obtain ⟨hP, hD, hS⟩ := hw
  intro T hT Y
  obtain ⟨v, st₀, t, T', Lc, h0, Y', hL, e1, e2, ⟨⟨rv9, X1, L1, f1, hv, hp, hP', hD'⟩, hz, hk⟩, st⟩ := hr T hT Y
  cases hv
  rw [h0] at hz hk
  obtain ⟨t2, a1, b1⟩ := kk _ X1 L1 f1 T'.heap (locs ++ Lc) hp ⟨by rw [e1]; exact hP', hD'.weaken (fun _ q _ h => hF q.1 h),
    ⟨Nat.le_trans hS.1 (by rw [e1]; exact hz), fun q h1 h2 => by rw [e1, hk q (Nat.lt_of_lt_of_le h1 hS.1) (fun z => h2 (hF q z))]; exact hS.2.1 q h1 h2, fun q hq => by
      rcases List.mem_append.mp hq with h | h
      · exact hS.2.2 q h
      · exact hF _ (hL q h)⟩⟩ T' rfl Y'
  exact ⟨t2, st t2 a1, b1⟩
theorem lx_runW {av : Array Value} (hr : vx_Run p l e R s m args below meth c H locs cells slots mcC msC (F0 m pc ls st0) rest (gQL D post (va_A (X ++ va_pl L f) H.size) av) (fun _ _ _ => False) (va_A (X ++ va_pl L f) H.size)) (hw : SW D A s.heap X L f H locs) (hA : ∀ q, s.heap.size ≤ q → A q)
    (kk : ∀ (rv : Option Value) (X1 : va_W) (L1 : List Nat) (f1 : Nat → va_E) (H1 : Heap) (locs1 : List Loc), post rv X1 L1 f1 → SW D A s.heap X1 L1 f1 H1 locs1 → W p l e R s m args below meth c H1 locs1 (cells + mcC) (slots + msC) Q (F0 m (pc + 3) ls (rv.toList ++ rest))) : W p l e R s m args below meth c H locs cells slots Q (F0 m pc ls st0) := by
  have hF := lx_hF hw hA
  obtain ⟨hP, hD, hS⟩ := hw
  intro T hT Y
  rcases hr T hT Y with ⟨v, st₀, t, T', Lc, h0, Y', hL, e1, e2, ⟨⟨rv9, X1, L1, f1, hv, hp, hP', hD'⟩, hz, hk⟩, st⟩ | ⟨q, st₀, t, T', Lc, E, ce, h0, Y', hL, e1, e2, hxs, hce, hcv, hcl, st⟩
  · cases hv
    rw [h0] at hz hk
    obtain ⟨t2, a1, b1⟩ := kk _ X1 L1 f1 T'.heap (locs ++ Lc) hp ⟨by rw [e1]; exact hP', hD'.weaken (fun _ q _ h => hF q.1 h),
      ⟨Nat.le_trans hS.1 (by rw [e1]; exact hz), fun q h1 h2 => by rw [e1, hk q (Nat.lt_of_lt_of_le h1 hS.1) (fun z => h2 (hF q z))]; exact hS.2.1 q h1 h2, fun q hq => by
        rcases List.mem_append.mp hq with h | h
        · exact hS.2.2 q h
        · exact hF _ (hL q h)⟩⟩ T' rfl Y'
    exact ⟨t2, st t2 a1, b1⟩
  · exact hxs.elim
/-- an invokestatic of such a method -/
theorem lx_callS (S : CallFix p m c cc nL s args Ts own) (k : Nat) {fr lo : Nat} {y : MethodName} {wsy : List Cond} {As : List Value} {index maxL : Nat} {bytes : ByteArray} {ret : Option FieldType} {ws0 : List Cond}
    (hM : CtL l D cI cR b n xs y wsy fr lo mcC msC As X L f post) (hG : GoodIn Ts (va_wsS own index y wsy)) (hdg : decode cc pc = .ok (.invokestatic index, 3)) (hE : LE b n xs A s) (hK : va_K D vwCl (tyS cI cR) s) (hw : SW D A s.heap X L f H locs) (hA : ∀ q, s.heap.size ≤ q → A q) (hlL : ls.size = nL)
    (hwy : wsy = Cond.code y bytes maxL ret :: ws0) (hd : y.cls ≠ "java/lang/invoke/MethodHandle" ∧ y.cls ≠ "java/lang/invoke/VarHandle" ∧ (parseMethodDescriptor y.desc).map (fun d => d.parameters.length) = some k) (hR : fr + 1 ≤ R.frames ∧ 8 + (maxL + 11) + lo ≤ R.locals) (hroom : cells + mcC ≤ R.cells ∧ slots + msC ≤ R.slots)
    (hn : As.length = k) (hst : st0 = As.reverse ++ rest) (hcat : (rest.map fun v => v.category).sum ≤ 8)
    (kk : ∀ (rv : Option Value) (X1 : va_W) (L1 : List Nat) (f1 : Nat → va_E) (H1 : Heap) (locs1 : List Loc), post rv X1 L1 f1 → SW D A s.heap X1 L1 f1 H1 locs1 → W p l e R s m args below meth c H1 locs1 (cells + mcC) (slots + msC) Q (F0 m (pc + 3) ls (rv.toList ++ rest))) : W p l e R s m args below meth c H locs cells slots Q (F0 m pc ls st0) :=
  lx_run0 (va_runS (As := As) (rest := rest) S (hM H.size) (va_cwS k S.2.2.2.2 hG hwy rfl rfl hd hR) ⟨gPL_blind, lx_pre hE hK hw hA⟩ rfl hn hlL hst (lv_room hcat) hdg hroom) hw hA kk
/-- .. of one that catches -/
theorem lx_callW (S : CallFix p m c cc nL s args Ts own) (k : Nat) {fr lo : Nat} {y : MethodName} {wsy : List Cond} {As : List Value} {index maxL : Nat} {bytes : ByteArray} {ret : Option FieldType} {hh : List (Nat × Nat × Nat × Nat)} {ws0 : List Cond}
    (hM : CwL l D cI cR b n xs y wsy fr lo mcC msC As X L f post) (hG : GoodIn Ts (va_wsS own index y wsy)) (hdg : decode cc pc = .ok (.invokestatic index, 3)) (hE : LE b n xs A s) (hK : va_K D vwCl (tyS cI cR) s) (hw : SW D A s.heap X L f H locs) (hA : ∀ q, s.heap.size ≤ q → A q) (hlL : ls.size = nL)
    (hwy : wsy = Cond.codeWith y bytes maxL ret hh :: ws0) (hd : y.cls ≠ "java/lang/invoke/MethodHandle" ∧ y.cls ≠ "java/lang/invoke/VarHandle" ∧ (parseMethodDescriptor y.desc).map (fun d => d.parameters.length) = some k) (hR : fr + 1 ≤ R.frames ∧ 8 + (maxL + 11) + lo ≤ R.locals) (hroom : cells + mcC ≤ R.cells ∧ slots + msC ≤ R.slots)
    (hn : As.length = k) (hst : st0 = As.reverse ++ rest) (hcat : (rest.map fun v => v.category).sum ≤ 8)
    (kk : ∀ (rv : Option Value) (X1 : va_W) (L1 : List Nat) (f1 : Nat → va_E) (H1 : Heap) (locs1 : List Loc), post rv X1 L1 f1 → SW D A s.heap X1 L1 f1 H1 locs1 → W p l e R s m args below meth c H1 locs1 (cells + mcC) (slots + msC) Q (F0 m (pc + 3) ls (rv.toList ++ rest))) : W p l e R s m args below meth c H locs cells slots Q (F0 m pc ls st0) :=
  lx_runW (vx_runSX S (hM H.size) (vx_cwSW k S.2.2.2.2 hG hwy rfl rfl hd hR) ⟨gPL_blind, lx_pre hE hK hw hA⟩ rfl hn hlL hst (lv_room hcat) hdg hroom) hw hA kk
/-- an invokevirtual of such a method, at an object of the pool -/
theorem lx_callV (S : CallFix p m c cc nL s args Ts own) (ci k : Nat) {fr lo : Nat} {y : MethodName} {wsy : List Cond} {o : Nat} {As : List Value} {C : String} {index maxL : Nat} {bytes : ByteArray} {ret : Option FieldType} {T : u_T} {N : Nat} {fs : List Value} {ws0 : List Cond}
    (hM : CtL l D cI cR b n xs y wsy fr lo mcC msC (.ref o :: As) X L f post) (hG : GoodIn Ts (wsV own index C y wsy)) (hdg : decode cc pc = .ok (.invokevirtual index, 3)) (hE : LE b n xs A s) (hK : va_K D vwCl (tyS cI cR) s) (hw : SW D A s.heap X L f H locs) (hA : ∀ q, s.heap.size ≤ q → A q) (hlL : ls.size = nL)
    (hwy : wsy = Cond.code y bytes maxL ret :: ws0) (hd : y.cls = C ∧ y.cls ≠ "java/lang/invoke/MethodHandle" ∧ y.cls ≠ "java/lang/invoke/VarHandle" ∧ (parseMethodDescriptor y.desc).map (fun d => d.parameters.length) = some k) (hR : fr + 1 ≤ R.frames ∧ 8 + (maxL + 11) + lo ≤ R.locals) (hroom : cells + mcC ≤ R.cells ∧ slots + msC ≤ R.slots)
    (hL : o ∈ L) (he : f o = .inr (ci, fs)) (hc : vwCl[ci]? = some (C, T, N)) (hn : As.length = k) (hst : st0 = As.reverse ++ .ref o :: rest) (hcat : (rest.map fun v => v.category).sum ≤ 8)
    (kk : ∀ (rv : Option Value) (X1 : va_W) (L1 : List Nat) (f1 : Nat → va_E) (H1 : Heap) (locs1 : List Loc), post rv X1 L1 f1 → SW D A s.heap X1 L1 f1 H1 locs1 → W p l e R s m args below meth c H1 locs1 (cells + mcC) (slots + msC) Q (F0 m (pc + 3) ls (rv.toList ++ rest))) : W p l e R s m args below meth c H locs cells slots Q (F0 m pc ls st0) := by
  obtain ⟨q0, hq, -⟩ := px_ix (X := X) hL he
  exact lx_run0 (va_runV (C := C) (As := As) (rest := rest) S (hM H.size) (cwV k S.2.2.2.2 hG hwy rfl rfl hd hR) ⟨gPL_blind, va_recv hK hw.1 hc hq, lx_pre hE hK hw hA⟩ rfl hn hlL hst (lv_room hcat) hdg hroom) hw hA kk
theorem lx_Ki (hK : va_K D vwCl (tyS cI cR) s) : va_K D vwCl [(cI, .int)] s := ⟨hK.1, fun k z hz => by
  cases k with
  | zero => exact hK.2 0 z hz
  | succ k => cases hz⟩
/-- a call of the tower that throws nothing here -/
theorem tx_call {rvC : Option Value} {X1 : va_W} {x : Option String} (S : CallFix p m c cc nL s args Ts own) (q0 ci k : Nat) {fr lo : Nat} {y : MethodName} {wsy : List Cond} {o : Nat} {As : List Value} {C : String} {index maxL : Nat} {bytes : ByteArray} {ret : Option FieldType} {T : u_T} {N : Nat} {fs : List Value} {ws0 : List Cond}
    (hM : Cx l D [(cI, .int)] y wsy fr lo mcC msC (.ref o :: As) X x rvC X1) (hxn : x = none) (hG : GoodIn Ts (wsV own index C y wsy)) (hdg : decode cc pc = .ok (.invokevirtual index, 3)) (hE : LE b n xs A s) (hK : va_K D vwCl (tyS cI cR) s) (hw : SW D A s.heap X L f H locs) (hA : ∀ q, s.heap.size ≤ q → A q) (hlL : ls.size = nL)
    (hwy : wsy = Cond.code y bytes maxL ret :: ws0) (hd : y.cls = C ∧ y.cls ≠ "java/lang/invoke/MethodHandle" ∧ y.cls ≠ "java/lang/invoke/VarHandle" ∧ (parseMethodDescriptor y.desc).map (fun d => d.parameters.length) = some k) (hR : fr + 1 ≤ R.frames ∧ 8 + (maxL + 11) + lo ≤ R.locals) (hroom : cells + mcC ≤ R.cells ∧ slots + msC ≤ R.slots)
    (he : X[q0]? = some (o, .inr (ci, fs))) (hc : vwCl[ci]? = some (C, T, N)) (hn : As.length = k) (hst : st0 = As.reverse ++ .ref o :: rest) (hcat : (rest.map fun v => v.category).sum ≤ 8)
    (kk : ∀ (H1 : Heap) (locs1 : List Loc), SW D A s.heap X1 L f H1 locs1 → W p l e R s m args below meth c H1 locs1 (cells + mcC) (slots + msC) Q (F0 m (pc + 3) ls (rvC.toList ++ rest))) : W p l e R s m args below meth c H locs cells slots Q (F0 m pc ls st0) := by
  subst hxn
  obtain ⟨hP, hD, hS⟩ := hw
  have hPw : va_P D vwCl X H := gt_Pm.mpr fun q hq => gt_Pm.mp hP q (List.mem_append_left _ hq)
  have hDw : va_D A X := by
    have h := gt_Dm.mp hD
    refine gt_Dm.mpr ⟨?_, fun q hq => h.2 q (List.mem_append_left _ hq)⟩
    have h1 := h.1
    rw [List.map_append, List.nodup_append] at h1
    exact h1.1
  have hF : ∀ q, va_A X H.size q → A q := by
    rintro q (⟨k, e9, h⟩ | h)
    · exact hDw.2 k (q, e9) h
    · exact hA q (Nat.le_trans hS.1 h)
  have hKi := lx_Ki hK
  refine gx_run0 (w := X) (vx_runV (C := C) (As := As) (rest := rest) S (hM H.size) (cwV k S.2.2.2.2 hG hwy rfl rfl hd hR) ⟨gPx_blind, va_recv hKi hPw hc he, fun U hU hW => ⟨rfl, by rw [hU], by rw [hU]; exact hPw, va_K.moved hW.alike hKi, hDw.weaken (fun _ _ _ _ => trivial), by rw [hU]; exact hE.2.1.on hS hF hW⟩⟩ rfl hn hlL hst (lv_room hcat) hdg hroom) hDw hS hA (fun E ce q9 H1 locs1 g0 g1 g2 g3 g4 g5 g6 g7 g8 => (nomatch g0)) (fun H1 locs1 g0 g1 g2 g3 g4 g5 => ?_)
  obtain ⟨j1, j2⟩ := gt_swap (wa := []) (w := X) (wb := va_pl L f) (w' := X1) hP hD g3 g4 g1 g2
  exact kk H1 locs1 ⟨j1, j2, g5⟩
/-- .. that may throw: what is thrown goes on here -/
theorem tx_callX {rvC : Option Value} {X1 : va_W} {x : Option String} (S : CallFix p m c cc nL s args Ts own) (q0 ci k : Nat) {fr lo : Nat} {y : MethodName} {wsy : List Cond} {o : Nat} {As : List Value} {C : String} {index maxL : Nat} {bytes : ByteArray} {ret : Option FieldType} {T : u_T} {N : Nat} {fs : List Value} {ws0 : List Cond}
    (hM : Cx l D [(cI, .int)] y wsy fr lo mcC msC (.ref o :: As) X x rvC X1) (hG : GoodIn Ts (wsV own index C y wsy)) (hdg : decode cc pc = .ok (.invokevirtual index, 3)) (hE : LE b n xs A s) (hK : va_K D vwCl (tyS cI cR) s) (hw : SW D A s.heap X L f H locs) (hA : ∀ q, s.heap.size ≤ q → A q) (hlL : ls.size = nL)
    (hwy : wsy = Cond.code y bytes maxL ret :: ws0) (hd : y.cls = C ∧ y.cls ≠ "java/lang/invoke/MethodHandle" ∧ y.cls ≠ "java/lang/invoke/VarHandle" ∧ (parseMethodDescriptor y.desc).map (fun d => d.parameters.length) = some k) (hR : fr + 1 ≤ R.frames ∧ 8 + (maxL + 11) + lo ≤ R.locals) (hroom : cells + mcC ≤ R.cells ∧ slots + msC ≤ R.slots)
    (he : X[q0]? = some (o, .inr (ci, fs))) (hc : vwCl[ci]? = some (C, T, N)) (hn : As.length = k) (hst : st0 = As.reverse ++ .ref o :: rest) (hcat : (rest.map fun v => v.category).sum ≤ 8)
    (kx : ∀ (E : String) (ce : Cell) (q9 : Addr) (H1 : Heap) (locs1 : List Loc), x = some E → SW D A s.heap X L f H1 locs1 → H1[q9]? = some ce → ce.vm = .none → s.vm.findClass E = some ce.cls → vx_W p l e R s m args below meth c H1 locs1 (cells + mcC) (slots + msC) Q (F0 m pc ls rest) q9)
    (kk : x = none → ∀ (H1 : Heap) (locs1 : List Loc), SW D A s.heap X1 L f H1 locs1 → W p l e R s m args below meth c H1 locs1 (cells + mcC) (slots + msC) Q (F0 m (pc + 3) ls (rvC.toList ++ rest))) : W p l e R s m args below meth c H locs cells slots Q (F0 m pc ls st0) := by
  obtain ⟨hP, hD, hS⟩ := hw
  exact gw_callV S q0 ci k hM hG hdg hE.2.1 (lx_Ki hK) hP hD hS hA hlL hwy hd hR hroom he hc hn hst hcat (fun E ce q9 H1 locs1 g0 g1 g2 g3 => kx E ce q9 H1 locs1 g0 ⟨g1, g2, g3⟩) (fun g0 H1 locs1 g1 g2 g3 => kk g0 H1 locs1 ⟨g1, g2, g3⟩)
/-- a call of the tower that never throws -/
theorem tx_callC {rvC : Option Value} {X1 : va_W} (S : CallFix p m c cc nL s args Ts own) (q0 ci k : Nat) {fr lo : Nat} {y : MethodName} {wsy : List Cond} {o : Nat} {As : List Value} {C : String} {index maxL : Nat} {bytes : ByteArray} {ret : Option FieldType} {T : u_T} {N : Nat} {fs : List Value} {ws0 : List Cond}
    (hM : Ct l D [(cI, .int)] y wsy fr lo mcC msC (.ref o :: As) X rvC X1) (hG : GoodIn Ts (wsV own index C y wsy)) (hdg : decode cc pc = .ok (.invokevirtual index, 3)) (hK : va_K D vwCl (tyS cI cR) s) (hw : SW D A s.heap X L f H locs) (hA : ∀ q, s.heap.size ≤ q → A q) (hlL : ls.size = nL)
    (hwy : wsy = Cond.code y bytes maxL ret :: ws0) (hd : y.cls = C ∧ y.cls ≠ "java/lang/invoke/MethodHandle" ∧ y.cls ≠ "java/lang/invoke/VarHandle" ∧ (parseMethodDescriptor y.desc).map (fun d => d.parameters.length) = some k) (hR : fr + 1 ≤ R.frames ∧ 8 + (maxL + 11) + lo ≤ R.locals) (hroom : cells + mcC ≤ R.cells ∧ slots + msC ≤ R.slots)
    (he : X[q0]? = some (o, .inr (ci, fs))) (hc : vwCl[ci]? = some (C, T, N)) (hn : As.length = k) (hst : st0 = As.reverse ++ .ref o :: rest) (hcat : (rest.map fun v => v.category).sum ≤ 8)
    (kk : ∀ (H1 : Heap) (locs1 : List Loc), SW D A s.heap X1 L f H1 locs1 → W p l e R s m args below meth c H1 locs1 (cells + mcC) (slots + msC) Q (F0 m (pc + 3) ls (rvC.toList ++ rest))) : W p l e R s m args below meth c H locs cells slots Q (F0 m pc ls st0) := by
  obtain ⟨hP, hD, hS⟩ := hw
  exact gt_callV S [] (va_pl L f) q0 ci k hM hG hdg (lx_Ki hK) hP hD hS hA hlL hwy hd hR hroom rfl rfl he hc hn hst hcat (fun H1 locs1 g1 g2 g3 => kk H1 locs1 ⟨g1, g2, g3⟩)
/-- a static call that needs no world -/
theorem lx_callB {rvC : Option Value} (S : CallFix p m c cc nL s args Ts own) (k : Nat) {fr lo : Nat} {y : MethodName} {wsy : List Cond} {As : List Value} {index maxL : Nat} {bytes : ByteArray} {ret : Option FieldType} {ws0 : List Cond}
    (hM : Ct l D [] y wsy fr lo mcC msC As [] rvC []) (hG : GoodIn Ts (va_wsS own index y wsy)) (hdg : decode cc pc = .ok (.invokestatic index, 3)) (hK : va_K D vwCl (tyS cI cR) s) (hw : SW D A s.heap X L f H locs) (hA : ∀ q, s.heap.size ≤ q → A q) (hlL : ls.size = nL)
    (hwy : wsy = Cond.code y bytes maxL ret :: ws0) (hd : y.cls ≠ "java/lang/invoke/MethodHandle" ∧ y.cls ≠ "java/lang/invoke/VarHandle" ∧ (parseMethodDescriptor y.desc).map (fun d => d.parameters.length) = some k) (hR : fr + 1 ≤ R.frames ∧ 8 + (maxL + 11) + lo ≤ R.locals) (hroom : cells + mcC ≤ R.cells ∧ slots + msC ≤ R.slots)
    (hn : As.length = k) (hst : st0 = As.reverse ++ rest) (hcat : (rest.map fun v => v.category).sum ≤ 8)
    (kk : ∀ (H1 : Heap) (locs1 : List Loc), SW D A s.heap X L f H1 locs1 → W p l e R s m args below meth c H1 locs1 (cells + mcC) (slots + msC) Q (F0 m (pc + 3) ls (rvC.toList ++ rest))) : W p l e R s m args below meth c H locs cells slots Q (F0 m pc ls st0) := by
  obtain ⟨hP, hD, hS⟩ := hw
  exact gt_callS S k hM hG hdg hK hP hD hS hA hlL hwy hd hR hroom hn hst hcat (fun H1 locs1 g1 g2 g3 => kk H1 locs1 ⟨g1, g2, g3⟩)
end LX
