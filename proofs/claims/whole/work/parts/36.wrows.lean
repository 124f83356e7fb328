/-! Methods that catch what they call throws. -/
/-- one exception's class is not another's -/
def gNc (U : State) : Prop := va_Nc gxIS gxIA U ∧ va_Nc gxIA gxIO U ∧ va_Nc gxIS gxIO U
theorem gNc.warm {s U : State} (hW : s.WarmedH U.vm) (h : gNc s) : gNc U := ⟨va_Nc.moved hW.alike h.1, va_Nc.moved hW.alike h.2.1, va_Nc.moved hW.alike h.2.2⟩
def gPw (D : va_G) (tys : List (ClassId × FieldType)) (av : List Value) (w : va_W) (sz : Nat) : Array Value → State → Prop := va_Pc av (fun U => U.heap.size = sz ∧ va_P D vwCl w U.heap ∧ va_K D vwCl tys U ∧ va_D (fun _ => True) w ∧ gTh (va_A w sz) U U.heap ∧ gNc U)
/-- A CONTRACT OF A METHOD THAT CATCHES -/
def Cw (l : Launch) (D : va_G) (tys : List (ClassId × FieldType)) (y : MethodName) (wsy : List Cond) (fr lo mc ms : Nat) (av : List Value) (w : va_W) (rv : Option Value) (w' : va_W) : Prop :=
  ∀ sz : Nat, vx_Met l y wsy ({ frames := fr, cells := mc, slots := ms, locals := lo } : Room) (gPw D tys av w sz) (gQx D tys none w' rv (va_A w sz)) (gXC D tys none w (va_A w sz)) mc ms (va_A w sz)
theorem Cw.ofW {l : Launch} {D : va_G} {tys : List (ClassId × FieldType)} {y : MethodName} {wsy ws0 : List Cond} {fr lo mc ms : Nat} {av : List Value} {w : va_W} {rv : Option Value} {w' : va_W} {cc : ByteArray} {maxL : Nat} {ret : Option FieldType} {hh : List (Nat × Nat × Nat × Nat)}
    (hy : plainName y.cls = true) (hw : wsy = Cond.codeWith y cc maxL ret hh :: ws0) (hav : (lg_sl av).length ≤ maxL)
    (h : ∀ (p : Program) (e : Env) (s : State) (m : MethodId) (below : List Frame) (meth : Method) (c : Code) (A : Nat → Prop) (ls : Array Slot),
      CallFix p m c cc maxL s av.toArray wsy y.cls → meth.sig.returnType = ret → meth.locks = false → c.exceptionTable.toList = tableOf hh → gTh A s s.heap → gNc s → va_P D vwCl w s.heap → va_D A w → va_S A s.heap s.heap [] → va_K D vwCl tys s → (∀ q, s.heap.size ≤ q → A q) → lv_has ls maxL (lv_args 0 av) →
      W p l e ({ frames := fr, cells := mc, slots := ms, locals := lo } : Room) s m av.toArray below meth c s.heap [] 0 0 (gZx below D tys none w w' rv A av.toArray s mc ms) (F0 m 0 ls [])) : Cw l D tys y wsy fr lo mc ms av w rv w' := by
  intro sz
  refine vx_ofWH (cc := cc) (maxL := maxL) (ret := ret) (hh := hh) hy hw ?_
  intro p e s m args below meth c s₁ B hml hv
  obtain ⟨rfl, hsz, hP, hK, hD0, hTh, hNc⟩ := hv
  have hts := atoms_spec (ws := wsy) B.pre
  have hown : s.vm.findClass y.cls = some m.cls := findClass_of_methodNamed B.named
  have htab := vx_table (x := y) B (hts (Cond.codeWith y cc maxL ret hh) (by rw [hw]; exact List.mem_cons_self))
  subst hsz
  have hD := hD0.self (sz := s.heap.size)
  have hl := lv_entry av (n := maxL) hav
  rw [lg_entry_eq]
  exact h p e s m below meth c (va_A w s.heap.size) _ ⟨B.exec, B.bytes, hml, hown, hts⟩ B.returns B.notSynchronized htab hTh hNc hP hD va_S.rf hK (fun q hq => Or.inr hq) hl
section GWR
variable {p : Program} {l : Launch} {e : Env} {R : Room} {s : State} {m : MethodId} {args : Array Value} {below : List Frame} {meth : Method} {c : Code} {H : Heap} {locs : List Loc} {cells slots : Nat} {Q : State → Prop}
variable {cc : ByteArray} {pc nL : Nat} {Ts : List Cond} {own : String} {ls : Array Slot} {rest st0 : List Value} {D : va_G} {A : Nat → Prop} {a : Nat} {tys : List (ClassId × FieldType)}
variable {mcC msC : Nat}
/-- an invokevirtual of a method that may throw, in a method that may catch -/
theorem gw_callV {tysC : List (ClassId × FieldType)} {xC : Option String} {rvC : Option Value} {w wC' wb : va_W} (S : CallFix p m c cc nL s args Ts own) (q0 ci n : Nat) {fr lo : Nat} {y : MethodName} {wsy : List Cond} {b : Nat} {As : List Value} {C : String} {index maxL : Nat} {bytes : ByteArray} {ret : Option FieldType} {T : u_T} {N : Nat} {fs : List Value} {ws0 : List Cond}
    (hM : Cx l D tysC y wsy fr lo mcC msC (.ref b :: As) w xC rvC wC') (hG : GoodIn Ts (wsV own index C y wsy)) (hdg : decode cc pc = .ok (.invokevirtual index, 3)) (hTh : gTh A s s.heap) (hK : va_K D vwCl tysC s) (hP : va_P D vwCl (w ++ wb) H) (hD : va_D A (w ++ wb)) (hS : va_S A s.heap H locs) (hA : ∀ q, s.heap.size ≤ q → A q) (hlL : ls.size = nL)
    (hwy : wsy = Cond.code y bytes maxL ret :: ws0) (hd : y.cls = C ∧ y.cls ≠ "java/lang/invoke/MethodHandle" ∧ y.cls ≠ "java/lang/invoke/VarHandle" ∧ (parseMethodDescriptor y.desc).map (fun d => d.parameters.length) = some n) (hR : fr + 1 ≤ R.frames ∧ 8 + (maxL + 11) + lo ≤ R.locals) (hroom : cells + mcC ≤ R.cells ∧ slots + msC ≤ R.slots)
    (he : w[q0]? = some (b, .inr (ci, fs))) (hc : vwCl[ci]? = some (C, T, N)) (hn : As.length = n) (hst : st0 = As.reverse ++ .ref b :: rest) (hcat : (rest.map fun v => v.category).sum ≤ 8)
    (kx : ∀ (E : String) (ce : Cell) (q9 : Addr) (H1 : Heap) (locs1 : List Loc), xC = some E → va_P D vwCl (w ++ wb) H1 → va_D A (w ++ wb) → va_S A s.heap H1 locs1 → H1[q9]? = some ce → ce.vm = .none → s.vm.findClass E = some ce.cls → vx_W p l e R s m args below meth c H1 locs1 (cells + mcC) (slots + msC) Q (F0 m pc ls rest) q9)
    (kk : xC = none → ∀ (H1 : Heap) (locs1 : List Loc), va_P D vwCl (wC' ++ wb) H1 → va_D A (wC' ++ wb) → va_S A s.heap H1 locs1 → W p l e R s m args below meth c H1 locs1 (cells + mcC) (slots + msC) Q (F0 m (pc + 3) ls (rvC.toList ++ rest))) : W p l e R s m args below meth c H locs cells slots Q (F0 m pc ls st0) := by
  have hPw : va_P D vwCl w H := gt_Pm.mpr fun q hq => gt_Pm.mp hP q (List.mem_append_left _ hq)
  have hDw : va_D A w := by
    have h := gt_Dm.mp hD
    refine gt_Dm.mpr ⟨?_, fun q hq => h.2 q (List.mem_append_left _ hq)⟩
    have h1 := h.1
    rw [List.map_append, List.nodup_append] at h1
    exact h1.1
  have hF : ∀ q, va_A w H.size q → A q := by
    rintro q (⟨k, e9, h⟩ | h)
    · exact hDw.2 k (q, e9) h
    · exact hA q (Nat.le_trans hS.1 h)
  refine gx_run0 (w := w) (vx_runV (C := C) (As := As) (rest := rest) S (hM H.size) (cwV n S.2.2.2.2 hG hwy rfl rfl hd hR) ⟨gPx_blind, va_recv hK hPw hc he, fun U hU hW => ⟨rfl, by rw [hU], by rw [hU]; exact hPw, va_K.moved hW.alike hK, hDw.weaken (fun _ _ _ _ => trivial), by rw [hU]; exact hTh.on hS hF hW⟩⟩ rfl hn hlL hst (lv_room hcat) hdg hroom) hDw hS hA (fun E ce q9 H1 locs1 g0 g1 g2 g3 g4 g5 g6 g7 g8 => ?_) (fun H1 locs1 g0 g1 g2 g3 g4 g5 => ?_)
  · obtain ⟨j1, j2⟩ := gt_swap (wa := []) (w := w) (wb := wb) (w' := w) hP hD g3 g4 g1 g2
    exact kx E ce q9 H1 locs1 g0 j1 j2 g5 g6 g7 g8
  · obtain ⟨j1, j2⟩ := gt_swap (wa := []) (w := w) (wb := wb) (w' := wC') hP hD g3 g4 g1 g2
    exact kk g0 H1 locs1 j1 j2 g5
/-- its place of the answers -/
abbrev oc (cL : ClassId) (ob : Nat) (f : Nat → Int64) : va_W := [(ob, .inl (cL, 1, .inr (.inl f)))]
/-- the answer is written -/
theorem gw_put (S : CallFix p m c cc nL s args Ts own) {w : va_W} {cI cL : ClassId} {ob : Nat} {f : Nat → Int64} (q0 : Nat) {H0 : Heap} (hK : va_K D vwCl [(cI, .int), (cL, .long)] s) (hP : va_P D vwCl (w ++ oc cL ob f) H) (hD : va_D A (w ++ oc cL ob f)) (hS : va_S A H0 H locs) (hq : q0 = w.length) {x : Int64} (hdg : decode cc pc = .ok (.lastore, 1)) (hst : st0 = .long x :: .int 0 :: .ref ob :: rest)
    (kk : ∀ (H1 : Heap) (locs1 : List Loc), va_P D vwCl (w ++ oc cL ob (vp_updL f 0 x)) H1 → va_D A (w ++ oc cL ob (vp_updL f 0 x)) → va_S A H0 H1 locs1 → W p l e R s m args below meth c H1 locs1 cells slots Q (F0 m (pc + 1) ls rest)) : W p l e R s m args below meth c H locs cells slots Q (F0 m pc ls st0) := by
  subst hst
  subst hq
  have he : (w ++ oc cL ob f)[w.length]? = some (ob, .inl (cL, 1, .inr (.inl f))) := by simp
  have hset : (w ++ oc cL ob f).set w.length (ob, .inl (cL, 1, .inr (.inl (vp_updL f 0 x)))) = w ++ oc cL ob (vp_updL f 0 x) := by
    rw [List.set_append_right _ _ (Nat.le_refl _), Nat.sub_self]
    rfl
  refine va_last (i := 0) S.1 S.2.1 hK hP hD hS w.length 1 he rfl (by unfold vp_in; decide) hdg fun H1 locs1 h1 h2 h3 => ?_
  rw [show (0 : Int32).toNatClampNeg = 0 from rfl, hset] at h1 h2
  exact kk H1 locs1 h1 h2 h3
end GWR
/-- the state behind a call -/
def xsel (x : Option String) (S' S : SS) : SS := if x = none then S' else S
def osel (x : Option String) (f : Nat → Int64) (v : Int32) : Nat → Int64 := if x = none then vp_updL f 0 v.toInt64 else f
theorem xsel_n (S' S : SS) : xsel none S' S = S' := if_pos rfl
theorem xsel_s (E : String) (S' S : SS) : xsel (some E) S' S = S := if_neg (fun z => by cases z)
theorem osel_n (f : Nat → Int64) (v : Int32) : osel none f v = vp_updL f 0 v.toInt64 := if_pos rfl
theorem osel_s (E : String) (f : Nat → Int64) (v : Int32) : osel (some E) f v = f := if_neg (fun z => by cases z)
-- which exceptions there are
theorem xNum_E {n mo : Int32} {E : String} (h : xNum n mo = some E) : E = gxIA := by
  rcases num_cases n mo with ⟨z, _⟩ | ⟨z, _⟩
  · rw [z] at h; cases h
  · rw [z] at h; cases h; rfl
theorem xOrd_E {b : Int32} {E : String} (h : xOrd b = some E) : E = gxIA := by
  rcases ord_cases b with ⟨z, _⟩ | ⟨z, _⟩
  · rw [z] at h; cases h
  · rw [z] at h; cases h; rfl
theorem xGate_E {S : SS} {b : Int32} {E : String} (h : xGate S b = some E) : E = gxIO := by
  unfold xGate at h
  split at h
  · cases h; rfl
  · split at h
    · cases h
    · cases h; rfl
theorem xGoat_E {S : SS} {b : Int32} {E : String} (h : xGoat S b = some E) : E = gxIO := by
  unfold xGoat at h
  split at h
  · cases h; rfl
  · split at h
    · cases h
    · cases h; rfl
theorem xRg_E {S : SS} {E : String} (h : xRg S = some E) : E = gxIS := by
  unfold xRg at h
  split at h
  · cases h
  · cases h; rfl
theorem xRk_E {S : SS} {E : String} (h : xRk S = some E) : E = gxIS := by
  unfold xRk at h
  split at h
  · cases h
  · cases h; rfl
theorem xIdle_E {S : SS} {i : Nat} {E : String} (h : xIdle S i = some E) : E = gxIS := by
  unfold xIdle at h
  split at h
  · cases h
  · cases h; rfl
theorem xCb_E {S : SS} {i : Nat} {E : String} (h : xCb S i = some E) : E = gxIS := by
  unfold xCb at h
  split at h
  · cases h; rfl
  · cases h
theorem xFr_E {S : SS} {j N : Nat} {w : Int32} {E : String} (h : xFr S j N w = some E) : E = gxIS := by
  unfold xFr at h
  split at h
  · cases h
  · cases h; rfl
theorem or_E {x y : Option String} {E : String} (h : x.or y = some E) : x = some E ∨ y = some E := by
  cases x with
  | none => exact Or.inr h
  | some z => exact Or.inl h
